theorem inX5_give_X5 : ∀ w ∈ u_ws RX5 TX5 20, w ∈ wsX5_give := fun _ h => (List.mem_cons_of_mem _ (List.mem_append_right _ h))
theorem lkX5_give_1 : Cond.fieldLink RX5 19 "StripInFiveStepsModel" "now" "[I" ∈ wsX5_give := List.mem_of_getElem? (i := 1) rfl
theorem kX5_give : Cal yX5_give wsX5_give cX5_give 1 (some .int) 0 := ⟨⟨_, rfl⟩, by decide +kernel⟩
set_option maxHeartbeats 4000000 in
set_option maxRecDepth 100000 in
theorem c_X5_give (l : Launch) (g : EE) (m0 : Nat) (m1 : Nat) (m2 : Nat) (m3 : Nat) (m4 : Nat) (m5 : Nat) (m6 : Nat) (m7 : Nat) (m8 : Nat) (m9 : Nat) (m10 : Nat) (m11 : Nat) (m12 : Nat) (m13 : Nat) (m14 : Nat) (kp : Nat) (rn : Nat) (tn : Nat) (ia : Nat) (wl : Nat) (si : Nat) (S : Nat → Nat) (rf : Nat → Int32) (hO : okS S) : CI l yX5_give wsX5_give ({ frames := 3, cells := 0, slots := 0, locals := 62 }) g [.ref m0] [(m0, .inr (5, [.ref m1, .ref m2, .ref m3, .int (nI kp), .ref m4, .ref m5, .ref m6, .ref m7, .ref m8, .int (nI rn), .ref m9, .int (nI tn), .int (nI ia), .int (nI wl), .ref m10, .ref m11, .ref m12, .int (nI si), .ref m13, .ref m14])), (m1, .inl (eI g, 7, .inl rf)), (m2, .inl (eI g, 49, .inl (fun j => nI (S j))))] (fun (rz : Int32) (wz : va_W) => rz = (rsp (if cnS (lpB S) = 0 then 3 else 0) (nI (giS S (lpB S) (S 45)))) ∧ wz = [(m0, .inr (5, [.ref m1, .ref m2, .ref m3, .int (nI kp), .ref m4, .ref m5, .ref m6, .ref m7, .ref m8, .int (nI rn), .ref m9, .int (nI tn), .int (nI ia), .int (nI wl), .ref m10, .ref m11, .ref m12, .int (nI si), .ref m13, .ref m14])), (m1, .inl (eI g, 7, .inl (bump rf (if cnS (lpB S) = 0 then 3 else 0)))), (m2, .inl (eI g, 49, .inl (fun j => nI (S j))))]) 0 0 := by
  refine ctI (cc := cX5_give) (maxL := 1) (ret := (some .int)) (by decide) rfl (Nat.le_of_ble_eq_true rfl) ?_
  intro p_ e_ s_ m_ bl_ mt_ cd_ A ls F hnm hP hD hS hl
  obtain ⟨hx, hb, hml, hown, hts, hK, hX, hA, hrt_, hlocks⟩ := id F
  have hl : lv_has ls 1 [(0, .ref m0)] := hl
  refine lv_aload_n hx hb dX5_give_0 rfl (lv_at hl 0 rfl) ?_
  refine cVI (As := []) (rest := []) F (c_X5_isEmpty l g m0 m1 m2 m3 m4 m5 m6 m7 m8 m9 m10 m11 m12 m13 m14 kp rn tn ia wl si S (hO)) kX5_isEmpty rfl gX5_give_X5_isEmpty rfl rfl ⟨Nat.le_of_ble_eq_true rfl, Nat.le_of_ble_eq_true rfl⟩ hP hD hS [0, 2] [1] rfl rfl 0 rfl rfl hl.1 rfl rfl (Nat.le_of_ble_eq_true rfl) dX5_give_1 ⟨Nat.le_of_ble_eq_true rfl, Nat.le_of_ble_eq_true rfl⟩ (fun rz w1 H locs hpo hP hD hS => ?_)
  obtain ⟨rfl, rfl⟩ := hpo
  obtain ⟨hP, hD⟩ := nx (ws' := [(m0, .inr (5, [.ref m1, .ref m2, .ref m3, .int (nI kp), .ref m4, .ref m5, .ref m6, .ref m7, .ref m8, .int (nI rn), .ref m9, .int (nI tn), .int (nI ia), .int (nI wl), .ref m10, .ref m11, .ref m12, .int (nI si), .ref m13, .ref m14])), (m1, .inl (eI g, 7, .inl rf)), (m2, .inl (eI g, 49, .inl (fun j => nI (S j))))]) hP hD [1, 0, 2] (ndB_ok _ rfl) rfl
  refine bqeq (tgt := 16) hx hb dX5_give_4 (by decide) (fun c4 => ?_) (fun c4 => ?_)
  · skip
    have hc0 : ¬ cnS (lpB S) = 0 := fun z => c4 ((em0 S).mpr z)
    refine lv_aload_n hx hb dX5_give_16 rfl (lv_at hl 0 rfl) ?_
    refine lv_aload_n hx hb dX5_give_17 rfl (lv_at hl 0 rfl) ?_
    refine xget F hP inX5_give_X5 0 rfl rfl 1 (by decide) lkX5_give_1 rfl dX5_give_18 ?_
    refine cVI (As := [.ref m2]) (rest := []) F (nc_X5_giveBy l g m0 m1 m2 m3 m4 m5 m6 m7 m8 m9 m10 m11 m12 m13 m14 kp rn tn ia wl si S (hO)) kX5_giveBy rfl gX5_give_X5_giveBy rfl rfl ⟨Nat.le_of_ble_eq_true rfl, Nat.le_of_ble_eq_true rfl⟩ hP hD hS [0, 2] [1] rfl rfl 0 rfl rfl hl.1 rfl rfl (Nat.le_of_ble_eq_true rfl) dX5_give_21 ⟨Nat.le_of_ble_eq_true rfl, Nat.le_of_ble_eq_true rfl⟩ (fun rz w1 H locs hpo hP hD hS => ?_)
    obtain ⟨rfl, rfl⟩ := hpo
    obtain ⟨hP, hD⟩ := nx (ws' := [(m0, .inr (5, [.ref m1, .ref m2, .ref m3, .int (nI kp), .ref m4, .ref m5, .ref m6, .ref m7, .ref m8, .int (nI rn), .ref m9, .int (nI tn), .int (nI ia), .int (nI wl), .ref m10, .ref m11, .ref m12, .int (nI si), .ref m13, .ref m14])), (m1, .inl (eI g, 7, .inl rf)), (m2, .inl (eI g, 49, .inl (fun j => nI (S j))))]) hP hD [1, 0, 2] (ndB_ok _ rfl) rfl
    exact rtI F hP hD hS dX5_give_24 (by rw [show (if cnS (lpB S) = 0 then 3 else 0) = 0 from (by (try simp only [ge_iff_le]); (repeat (first | rw [if_pos (by omega)] | rw [if_neg (by omega)])) <;> rfl)]; first | done | exact ⟨by first | rfl | (simp only [ge_iff_le]; done) | (simp only [ge_iff_le]; rfl), by first | rfl | (simp only [ge_iff_le]; done) | (simp only [ge_iff_le]; rfl)⟩)
  · skip
    have hc0 : cnS (lpB S) = 0 := (em0 S).mp c4
    refine lv_aload_n hx hb dX5_give_7 rfl (lv_at hl 0 rfl) ?_
    refine lv_bipush (v := (-3)) hx hb dX5_give_8 (by decide) ?_
    refine cVI (As := [.int (-3)]) (rest := []) F (c_X5_no l g m0 m1 m2 m3 m4 m5 m6 m7 m8 m9 m10 m11 m12 m13 m14 kp rn tn ia wl si rf (-3) 3 (by decide) (by omega) (by omega)) kX5_no rfl gX5_give_X5_no rfl rfl ⟨Nat.le_of_ble_eq_true rfl, Nat.le_of_ble_eq_true rfl⟩ hP hD hS [0, 1] [2] rfl rfl 0 rfl rfl hl.1 rfl rfl (Nat.le_of_ble_eq_true rfl) dX5_give_10 ⟨Nat.le_of_ble_eq_true rfl, Nat.le_of_ble_eq_true rfl⟩ (fun rz w1 H locs hpo hP hD hS => ?_)
    obtain ⟨rfl, rfl⟩ := hpo
    obtain ⟨hP, hD⟩ := nx (ws' := [(m0, .inr (5, [.ref m1, .ref m2, .ref m3, .int (nI kp), .ref m4, .ref m5, .ref m6, .ref m7, .ref m8, .int (nI rn), .ref m9, .int (nI tn), .int (nI ia), .int (nI wl), .ref m10, .ref m11, .ref m12, .int (nI si), .ref m13, .ref m14])), (m1, .inl (eI g, 7, .inl (bump rf 3))), (m2, .inl (eI g, 49, .inl (fun j => nI (S j))))]) hP hD [1, 2, 0] (ndB_ok _ rfl) rfl
    refine lv_goto (tgt := 24) hx hb dX5_give_13 (by decide) ?_
    exact rtI F hP hD hS dX5_give_24 (by rw [show (if cnS (lpB S) = 0 then 3 else 0) = 3 from (by (try simp only [ge_iff_le]); (repeat (first | rw [if_pos (by omega)] | rw [if_neg (by omega)])) <;> rfl)]; first | done | exact ⟨by first | rfl | (simp only [ge_iff_le]; done) | (simp only [ge_iff_le]; rfl), by first | rfl | (simp only [ge_iff_le]; done) | (simp only [ge_iff_le]; rfl)⟩)

theorem inX5_faults_X5 : ∀ w ∈ u_ws RX5 TX5 20, w ∈ wsX5_faults := fun _ h => (List.mem_cons_of_mem _ (List.mem_append_right _ h))
theorem lkX5_faults_1 : Cond.fieldLink RX5 19 "StripInFiveStepsModel" "now" "[I" ∈ wsX5_faults := List.mem_of_getElem? (i := 1) rfl
theorem kX5_faults : Cal yX5_faults wsX5_faults cX5_faults 2 (some .long) 1 := ⟨⟨_, rfl⟩, by decide +kernel⟩
set_option maxHeartbeats 4000000 in
set_option maxRecDepth 100000 in
theorem c_X5_faults (l : Launch) (g : EE) (m0 : Nat) (m1 : Nat) (m2 : Nat) (m3 : Nat) (m4 : Nat) (m5 : Nat) (m6 : Nat) (m7 : Nat) (m8 : Nat) (m9 : Nat) (m10 : Nat) (m11 : Nat) (m12 : Nat) (m13 : Nat) (m14 : Nat) (kp : Nat) (rn : Nat) (tn : Nat) (ia : Nat) (wl : Nat) (si : Nat) (S : Nat → Nat) (rf : Nat → Int32) (x : Int32) (hO : okS S) : CL l yX5_faults wsX5_faults ({ frames := 3, cells := 0, slots := 0, locals := 62 }) g [.ref m0, .int x] [(m0, .inr (5, [.ref m1, .ref m2, .ref m3, .int (nI kp), .ref m4, .ref m5, .ref m6, .ref m7, .ref m8, .int (nI rn), .ref m9, .int (nI tn), .int (nI ia), .int (nI wl), .ref m10, .ref m11, .ref m12, .int (nI si), .ref m13, .ref m14])), (m1, .inl (eI g, 7, .inl rf)), (m2, .inl (eI g, 49, .inl (fun j => nI (S j))))] (fun (rz : Int64) (wz : va_W) => rz = (rspL (if ¬ (x.toInt = 0 ∨ x.toInt = 1) then 2 else if cnS (lpB S) = 0 then 3 else 0) (lN (frN (faS S (lpB S) (giS S (lpB S) (S 45)) * S 45) (sg S 40) (decide (x.toInt = 0))))) ∧ wz = [(m0, .inr (5, [.ref m1, .ref m2, .ref m3, .int (nI kp), .ref m4, .ref m5, .ref m6, .ref m7, .ref m8, .int (nI rn), .ref m9, .int (nI tn), .int (nI ia), .int (nI wl), .ref m10, .ref m11, .ref m12, .int (nI si), .ref m13, .ref m14])), (m1, .inl (eI g, 7, .inl (bump rf (if ¬ (x.toInt = 0 ∨ x.toInt = 1) then 2 else if cnS (lpB S) = 0 then 3 else 0)))), (m2, .inl (eI g, 49, .inl (fun j => nI (S j))))]) 0 0 := by
  refine ctL (cc := cX5_faults) (maxL := 2) (ret := (some .long)) (by decide) rfl (Nat.le_of_ble_eq_true rfl) ?_
  intro p_ e_ s_ m_ bl_ mt_ cd_ A ls F hnm hP hD hS hl
  obtain ⟨hx, hb, hml, hown, hts, hK, hX, hA, hrt_, hlocks⟩ := id F
  have hl : lv_has ls 2 [(0, .ref m0), (1, .int x)] := hl
  refine lv_iload_n hx hb dX5_faults_0 rfl (lv_at hl 1 rfl) ?_
  refine cSI (As := [.int x]) (rest := []) F (c_X5_isNoPart l g x ) kX5_isNoPart gX5_faults_X5_isNoPart rfl rfl ⟨Nat.le_of_ble_eq_true rfl, Nat.le_of_ble_eq_true rfl⟩ hP hD hS [] [0, 1, 2] rfl rfl hl.1 rfl rfl (Nat.le_of_ble_eq_true rfl) dX5_faults_1 ⟨Nat.le_of_ble_eq_true rfl, Nat.le_of_ble_eq_true rfl⟩ (fun rz w1 H locs hpo hP hD hS => ?_)
  obtain ⟨rfl, rfl⟩ := hpo
  obtain ⟨hP, hD⟩ := nx (ws' := [(m0, .inr (5, [.ref m1, .ref m2, .ref m3, .int (nI kp), .ref m4, .ref m5, .ref m6, .ref m7, .ref m8, .int (nI rn), .ref m9, .int (nI tn), .int (nI ia), .int (nI wl), .ref m10, .ref m11, .ref m12, .int (nI si), .ref m13, .ref m14])), (m1, .inl (eI g, 7, .inl rf)), (m2, .inl (eI g, 49, .inl (fun j => nI (S j))))]) hP hD [0, 1, 2] (ndB_ok _ rfl) rfl
  refine bqeq (tgt := 14) hx hb dX5_faults_4 (by decide) (fun c4 => ?_) (fun c4 => ?_)
  · skip
    refine lv_aload_n hx hb dX5_faults_14 rfl (lv_at hl 0 rfl) ?_
    refine cVI (As := []) (rest := []) F (c_X5_isEmpty l g m0 m1 m2 m3 m4 m5 m6 m7 m8 m9 m10 m11 m12 m13 m14 kp rn tn ia wl si S (hO)) kX5_isEmpty rfl gX5_faults_X5_isEmpty rfl rfl ⟨Nat.le_of_ble_eq_true rfl, Nat.le_of_ble_eq_true rfl⟩ hP hD hS [0, 2] [1] rfl rfl 0 rfl rfl hl.1 rfl rfl (Nat.le_of_ble_eq_true rfl) dX5_faults_15 ⟨Nat.le_of_ble_eq_true rfl, Nat.le_of_ble_eq_true rfl⟩ (fun rz w1 H locs hpo hP hD hS => ?_)
    obtain ⟨rfl, rfl⟩ := hpo
    obtain ⟨hP, hD⟩ := nx (ws' := [(m0, .inr (5, [.ref m1, .ref m2, .ref m3, .int (nI kp), .ref m4, .ref m5, .ref m6, .ref m7, .ref m8, .int (nI rn), .ref m9, .int (nI tn), .int (nI ia), .int (nI wl), .ref m10, .ref m11, .ref m12, .int (nI si), .ref m13, .ref m14])), (m1, .inl (eI g, 7, .inl rf)), (m2, .inl (eI g, 49, .inl (fun j => nI (S j))))]) hP hD [1, 0, 2] (ndB_ok _ rfl) rfl
    refine bqeq (tgt := 28) hx hb dX5_faults_18 (by decide) (fun c18 => ?_) (fun c18 => ?_)
    · skip
      have hc0 : ¬ cnS (lpB S) = 0 := fun z => c18 ((em0 S).mpr z)
      refine lv_aload_n hx hb dX5_faults_28 rfl (lv_at hl 0 rfl) ?_
      refine lv_aload_n hx hb dX5_faults_29 rfl (lv_at hl 0 rfl) ?_
      refine xget F hP inX5_faults_X5 0 rfl rfl 1 (by decide) lkX5_faults_1 rfl dX5_faults_30 ?_
      refine lv_aload_n hx hb dX5_faults_33 rfl (lv_at hl 0 rfl) ?_
      refine lv_aload_n hx hb dX5_faults_34 rfl (lv_at hl 0 rfl) ?_
      refine xget F hP inX5_faults_X5 0 rfl rfl 1 (by decide) lkX5_faults_1 rfl dX5_faults_35 ?_
      refine cVI (As := [.ref m2]) (rest := [.ref m2, .ref m0]) F (nc_X5_giveBy l g m0 m1 m2 m3 m4 m5 m6 m7 m8 m9 m10 m11 m12 m13 m14 kp rn tn ia wl si S (hO)) kX5_giveBy rfl gX5_faults_X5_giveBy rfl rfl ⟨Nat.le_of_ble_eq_true rfl, Nat.le_of_ble_eq_true rfl⟩ hP hD hS [0, 2] [1] rfl rfl 0 rfl rfl hl.1 rfl rfl (Nat.le_of_ble_eq_true rfl) dX5_faults_38 ⟨Nat.le_of_ble_eq_true rfl, Nat.le_of_ble_eq_true rfl⟩ (fun rz w1 H locs hpo hP hD hS => ?_)
      obtain ⟨rfl, rfl⟩ := hpo
      obtain ⟨hP, hD⟩ := nx (ws' := [(m0, .inr (5, [.ref m1, .ref m2, .ref m3, .int (nI kp), .ref m4, .ref m5, .ref m6, .ref m7, .ref m8, .int (nI rn), .ref m9, .int (nI tn), .int (nI ia), .int (nI wl), .ref m10, .ref m11, .ref m12, .int (nI si), .ref m13, .ref m14])), (m1, .inl (eI g, 7, .inl rf)), (m2, .inl (eI g, 49, .inl (fun j => nI (S j))))]) hP hD [1, 0, 2] (ndB_ok _ rfl) rfl
      refine cVI (As := [.ref m2, .int (nI (giS S (lpB S) (S 45)))]) (rest := []) F (nc_X5_faultsAt l g m0 m1 m2 m3 m4 m5 m6 m7 m8 m9 m10 m11 m12 m13 m14 kp rn tn ia wl si S (giS S (lpB S) (S 45)) (hO) ((giS_in _ _ _).2)) kX5_faultsAt rfl gX5_faults_X5_faultsAt rfl rfl ⟨Nat.le_of_ble_eq_true rfl, Nat.le_of_ble_eq_true rfl⟩ hP hD hS [0, 2] [1] rfl rfl 0 rfl rfl hl.1 rfl rfl (Nat.le_of_ble_eq_true rfl) dX5_faults_41 ⟨Nat.le_of_ble_eq_true rfl, Nat.le_of_ble_eq_true rfl⟩ (fun rz w1 H locs hpo hP hD hS => ?_)
      obtain ⟨rfl, rfl⟩ := hpo
      obtain ⟨hP, hD⟩ := nx (ws' := [(m0, .inr (5, [.ref m1, .ref m2, .ref m3, .int (nI kp), .ref m4, .ref m5, .ref m6, .ref m7, .ref m8, .int (nI rn), .ref m9, .int (nI tn), .int (nI ia), .int (nI wl), .ref m10, .ref m11, .ref m12, .int (nI si), .ref m13, .ref m14])), (m1, .inl (eI g, 7, .inl rf)), (m2, .inl (eI g, 49, .inl (fun j => nI (S j))))]) hP hD [1, 0, 2] (ndB_ok _ rfl) rfl
      refine lv_i2l (v := lN (faS S (lpB S) (giS S (lpB S) (S 45)) * S 45)) hx hb dX5_faults_44 (nI_l (by have := faS_b2 (p := lpB S) hO.1 (giS_in S (lpB S) (S 45)).2 hO.2.2.2.2.2.1; omega)) ?_
      refine lv_aload_n hx hb dX5_faults_45 rfl (lv_at hl 0 rfl) ?_
      refine xget F hP inX5_faults_X5 0 rfl rfl 1 (by decide) lkX5_faults_1 rfl dX5_faults_46 ?_
      refine cSI (As := [.ref m2]) (rest := [.long (lN (faS S (lpB S) (giS S (lpB S) (S 45)) * S 45))]) F (c_X5_weight l g m2 S ) kX5_weight gX5_faults_X5_weight rfl rfl ⟨Nat.le_of_ble_eq_true rfl, Nat.le_of_ble_eq_true rfl⟩ hP hD hS [2] [0, 1] rfl rfl hl.1 rfl rfl (Nat.le_of_ble_eq_true rfl) dX5_faults_49 ⟨Nat.le_of_ble_eq_true rfl, Nat.le_of_ble_eq_true rfl⟩ (fun rz w1 H locs hpo hP hD hS => ?_)
      obtain ⟨rfl, rfl⟩ := hpo
      obtain ⟨hP, hD⟩ := nx (ws' := [(m0, .inr (5, [.ref m1, .ref m2, .ref m3, .int (nI kp), .ref m4, .ref m5, .ref m6, .ref m7, .ref m8, .int (nI rn), .ref m9, .int (nI tn), .int (nI ia), .int (nI wl), .ref m10, .ref m11, .ref m12, .int (nI si), .ref m13, .ref m14])), (m1, .inl (eI g, 7, .inl rf)), (m2, .inl (eI g, 49, .inl (fun j => nI (S j))))]) hP hD [0, 1, 2] (ndB_ok _ rfl) rfl
      refine lv_i2l (v := lN (sg S 40)) hx hb dX5_faults_52 (nI_l (by have := sgW_b hO.1; omega)) ?_
      refine lv_iload_n hx hb dX5_faults_53 rfl (lv_at hl 1 rfl) ?_
      refine cSL (As := [.long (lN (faS S (lpB S) (giS S (lpB S) (S 45)) * S 45)), .long (lN (sg S 40)), .int x]) (rest := []) F (c_X5_fraction l g (faS S (lpB S) (giS S (lpB S) (S 45)) * S 45) (sg S 40) x (by have := faS_b2 (p := lpB S) hO.1 (giS_in S (lpB S) (S 45)).2 hO.2.2.2.2.2.1; omega) (by have := sgW_b hO.1; omega) (fun z => absurd ((em0 S).mp z) hc0) (by omega)) kX5_fraction gX5_faults_X5_fraction rfl rfl ⟨Nat.le_of_ble_eq_true rfl, Nat.le_of_ble_eq_true rfl⟩ hP hD hS [] [0, 1, 2] rfl rfl hl.1 rfl rfl (Nat.le_of_ble_eq_true rfl) dX5_faults_54 ⟨Nat.le_of_ble_eq_true rfl, Nat.le_of_ble_eq_true rfl⟩ (fun rz w1 H locs hpo hP hD hS => ?_)
      obtain ⟨rfl, rfl⟩ := hpo
      obtain ⟨hP, hD⟩ := nx (ws' := [(m0, .inr (5, [.ref m1, .ref m2, .ref m3, .int (nI kp), .ref m4, .ref m5, .ref m6, .ref m7, .ref m8, .int (nI rn), .ref m9, .int (nI tn), .int (nI ia), .int (nI wl), .ref m10, .ref m11, .ref m12, .int (nI si), .ref m13, .ref m14])), (m1, .inl (eI g, 7, .inl rf)), (m2, .inl (eI g, 49, .inl (fun j => nI (S j))))]) hP hD [0, 1, 2] (ndB_ok _ rfl) rfl
      exact rtL F hP hD hS dX5_faults_57 (by rw [show (if ¬ (x.toInt = 0 ∨ x.toInt = 1) then 2 else if cnS (lpB S) = 0 then 3 else 0) = 0 from (by (try simp only [ge_iff_le]); (repeat (first | rw [if_pos (by omega)] | rw [if_neg (by omega)])) <;> rfl)]; first | done | exact ⟨by first | rfl | (simp only [ge_iff_le]; done) | (simp only [ge_iff_le]; rfl), by first | rfl | (simp only [ge_iff_le]; done) | (simp only [ge_iff_le]; rfl)⟩)
    · skip
      have hc0 : cnS (lpB S) = 0 := (em0 S).mp c18
      refine lv_aload_n hx hb dX5_faults_21 rfl (lv_at hl 0 rfl) ?_
      refine lv_bipush (v := (-3)) hx hb dX5_faults_22 (by decide) ?_
      refine cVL (As := [.int (-3)]) (rest := []) F (c_X5_noLong l g m0 m1 m2 m3 m4 m5 m6 m7 m8 m9 m10 m11 m12 m13 m14 kp rn tn ia wl si rf (-3) 3 (by decide) (by omega) (by omega)) kX5_noLong rfl gX5_faults_X5_noLong rfl rfl ⟨Nat.le_of_ble_eq_true rfl, Nat.le_of_ble_eq_true rfl⟩ hP hD hS [0, 1] [2] rfl rfl 0 rfl rfl hl.1 rfl rfl (Nat.le_of_ble_eq_true rfl) dX5_faults_24 ⟨Nat.le_of_ble_eq_true rfl, Nat.le_of_ble_eq_true rfl⟩ (fun rz w1 H locs hpo hP hD hS => ?_)
      obtain ⟨rfl, rfl⟩ := hpo
      obtain ⟨hP, hD⟩ := nx (ws' := [(m0, .inr (5, [.ref m1, .ref m2, .ref m3, .int (nI kp), .ref m4, .ref m5, .ref m6, .ref m7, .ref m8, .int (nI rn), .ref m9, .int (nI tn), .int (nI ia), .int (nI wl), .ref m10, .ref m11, .ref m12, .int (nI si), .ref m13, .ref m14])), (m1, .inl (eI g, 7, .inl (bump rf 3))), (m2, .inl (eI g, 49, .inl (fun j => nI (S j))))]) hP hD [1, 2, 0] (ndB_ok _ rfl) rfl
      exact rtL F hP hD hS dX5_faults_27 (by rw [show (if ¬ (x.toInt = 0 ∨ x.toInt = 1) then 2 else if cnS (lpB S) = 0 then 3 else 0) = 3 from (by (try simp only [ge_iff_le]); (repeat (first | rw [if_pos (by omega)] | rw [if_neg (by omega)])) <;> rfl)]; first | done | exact ⟨by first | rfl | (simp only [ge_iff_le]; done) | (simp only [ge_iff_le]; rfl), by first | rfl | (simp only [ge_iff_le]; done) | (simp only [ge_iff_le]; rfl)⟩)
  · skip
    refine lv_aload_n hx hb dX5_faults_7 rfl (lv_at hl 0 rfl) ?_
    refine lv_bipush (v := (-2)) hx hb dX5_faults_8 (by decide) ?_
    refine cVL (As := [.int (-2)]) (rest := []) F (c_X5_noLong l g m0 m1 m2 m3 m4 m5 m6 m7 m8 m9 m10 m11 m12 m13 m14 kp rn tn ia wl si rf (-2) 2 (by decide) (by omega) (by omega)) kX5_noLong rfl gX5_faults_X5_noLong rfl rfl ⟨Nat.le_of_ble_eq_true rfl, Nat.le_of_ble_eq_true rfl⟩ hP hD hS [0, 1] [2] rfl rfl 0 rfl rfl hl.1 rfl rfl (Nat.le_of_ble_eq_true rfl) dX5_faults_10 ⟨Nat.le_of_ble_eq_true rfl, Nat.le_of_ble_eq_true rfl⟩ (fun rz w1 H locs hpo hP hD hS => ?_)
    obtain ⟨rfl, rfl⟩ := hpo
    obtain ⟨hP, hD⟩ := nx (ws' := [(m0, .inr (5, [.ref m1, .ref m2, .ref m3, .int (nI kp), .ref m4, .ref m5, .ref m6, .ref m7, .ref m8, .int (nI rn), .ref m9, .int (nI tn), .int (nI ia), .int (nI wl), .ref m10, .ref m11, .ref m12, .int (nI si), .ref m13, .ref m14])), (m1, .inl (eI g, 7, .inl (bump rf 2))), (m2, .inl (eI g, 49, .inl (fun j => nI (S j))))]) hP hD [1, 2, 0] (ndB_ok _ rfl) rfl
    exact rtL F hP hD hS dX5_faults_13 (by rw [show (if ¬ (x.toInt = 0 ∨ x.toInt = 1) then 2 else if cnS (lpB S) = 0 then 3 else 0) = 2 from (by (try simp only [ge_iff_le]); (repeat (first | rw [if_pos (by omega)] | rw [if_neg (by omega)])) <;> rfl)]; first | done | exact ⟨by first | rfl | (simp only [ge_iff_le]; done) | (simp only [ge_iff_le]; rfl), by first | rfl | (simp only [ge_iff_le]; done) | (simp only [ge_iff_le]; rfl)⟩)

theorem inX5_row_X5 : ∀ w ∈ u_ws RX5 TX5 20, w ∈ wsX5_row := fun _ h => (List.mem_cons_of_mem _ (List.mem_append_right _ h))
theorem lkX5_row_1 : Cond.fieldLink RX5 170 "StripInFiveStepsModel" "lined" "I" ∈ wsX5_row := List.mem_of_getElem? (i := 1) rfl
theorem lkX5_row_2 : Cond.fieldLink RX5 37 "StripInFiveStepsModel" "line" "[I" ∈ wsX5_row := List.mem_of_getElem? (i := 2) rfl
theorem kX5_row : Cal yX5_row wsX5_row cX5_row 2 (some .int) 1 := ⟨⟨_, rfl⟩, by decide +kernel⟩
set_option maxHeartbeats 4000000 in
set_option maxRecDepth 100000 in
theorem c_X5_row (l : Launch) (g : EE) (m0 : Nat) (m1 : Nat) (m2 : Nat) (m3 : Nat) (m4 : Nat) (m5 : Nat) (m6 : Nat) (m7 : Nat) (m8 : Nat) (m9 : Nat) (m10 : Nat) (m11 : Nat) (m12 : Nat) (m13 : Nat) (m14 : Nat) (kp : Nat) (rn : Nat) (tn : Nat) (ia : Nat) (wl : Nat) (si : Nat) (rw_ : Nat → Nat) (rf : Nat → Int32) (x : Int32) (hrn : rn ≤ 12) : CI l yX5_row wsX5_row ({ frames := 1, cells := 0, slots := 0, locals := 21 }) g [.ref m0, .int x] [(m0, .inr (5, [.ref m1, .ref m2, .ref m3, .int (nI kp), .ref m4, .ref m5, .ref m6, .ref m7, .ref m8, .int (nI rn), .ref m9, .int (nI tn), .int (nI ia), .int (nI wl), .ref m10, .ref m11, .ref m12, .int (nI si), .ref m13, .ref m14])), (m1, .inl (eI g, 7, .inl rf)), (m8, .inl (eI g, 12, .inl (fun j => nI (rw_ j))))] (fun (rz : Int32) (wz : va_W) => rz = (rsp (if x.toInt < 0 then 4 else if 99 < x.toInt ∨ rn = 12 then 6 else 0) (nI (rn + 1))) ∧ wz = [(m0, .inr (5, [.ref m1, .ref m2, .ref m3, .int (nI kp), .ref m4, .ref m5, .ref m6, .ref m7, .ref m8, .int (nI (if (if x.toInt < 0 then 4 else if 99 < x.toInt ∨ rn = 12 then 6 else 0) = 0 then rn + 1 else rn)), .ref m9, .int (nI tn), .int (nI ia), .int (nI wl), .ref m10, .ref m11, .ref m12, .int (nI si), .ref m13, .ref m14])), (m1, .inl (eI g, 7, .inl (bump rf (if x.toInt < 0 then 4 else if 99 < x.toInt ∨ rn = 12 then 6 else 0)))), (m8, .inl (eI g, 12, .inl (fun j => nI ((if (if x.toInt < 0 then 4 else if 99 < x.toInt ∨ rn = 12 then 6 else 0) = 0 then updN rw_ rn x.toNatClampNeg else rw_) j))))]) 0 0 := by
  refine ctI (cc := cX5_row) (maxL := 2) (ret := (some .int)) (by decide) rfl (Nat.le_of_ble_eq_true rfl) ?_
  intro p_ e_ s_ m_ bl_ mt_ cd_ A ls F hnm hP hD hS hl
  obtain ⟨hx, hb, hml, hown, hts, hK, hX, hA, hrt_, hlocks⟩ := id F
  have hl : lv_has ls 2 [(0, .ref m0), (1, .int x)] := hl
  refine lv_iload_n hx hb dX5_row_0 rfl (lv_at hl 1 rfl) ?_
  refine wge (tgt := 11) hx hb dX5_row_1 (by decide) (fun c1 => ?_) (fun c1 => ?_)
  · skip
    refine lv_iload_n hx hb dX5_row_11 rfl (lv_at hl 1 rfl) ?_
    refine lv_bipush (v := (nI 99)) hx hb dX5_row_12 (by decide) ?_
    refine ygt (tgt := 26) hx hb dX5_row_14 (by decide) (by omega) (fun c14 => ?_) (fun c14 => ?_)
    · skip
      refine lv_aload_n hx hb dX5_row_26 rfl (lv_at hl 0 rfl) ?_
      refine lv_bipush (v := (-6)) hx hb dX5_row_27 (by decide) ?_
      refine cVI (As := [.int (-6)]) (rest := []) F (c_X5_no l g m0 m1 m2 m3 m4 m5 m6 m7 m8 m9 m10 m11 m12 m13 m14 kp rn tn ia wl si rf (-6) 6 (by decide) (by omega) (by omega)) kX5_no rfl gX5_row_X5_no rfl rfl ⟨Nat.le_of_ble_eq_true rfl, Nat.le_of_ble_eq_true rfl⟩ hP hD hS [0, 1] [2] rfl rfl 0 rfl rfl hl.1 rfl rfl (Nat.le_of_ble_eq_true rfl) dX5_row_29 ⟨Nat.le_of_ble_eq_true rfl, Nat.le_of_ble_eq_true rfl⟩ (fun rz w1 H locs hpo hP hD hS => ?_)
      obtain ⟨rfl, rfl⟩ := hpo
      obtain ⟨hP, hD⟩ := nx (ws' := [(m0, .inr (5, [.ref m1, .ref m2, .ref m3, .int (nI kp), .ref m4, .ref m5, .ref m6, .ref m7, .ref m8, .int (nI rn), .ref m9, .int (nI tn), .int (nI ia), .int (nI wl), .ref m10, .ref m11, .ref m12, .int (nI si), .ref m13, .ref m14])), (m1, .inl (eI g, 7, .inl (bump rf 6))), (m8, .inl (eI g, 12, .inl (fun j => nI (rw_ j))))]) hP hD [1, 2, 0] (ndB_ok _ rfl) rfl
      exact rtI F hP hD hS dX5_row_32 (by rw [show (if x.toInt < 0 then 4 else if 99 < x.toInt ∨ rn = 12 then 6 else 0) = 6 from (by (try simp only [ge_iff_le]); (repeat (first | rw [if_pos (by omega)] | rw [if_neg (by omega)])) <;> rfl)]; first | done | exact ⟨by first | rfl | (simp only [ge_iff_le]; done) | (simp only [ge_iff_le]; rfl), by first | rfl | (simp only [ge_iff_le]; done) | (simp only [ge_iff_le]; rfl)⟩)
    · skip
      refine lv_aload_n hx hb dX5_row_17 rfl (lv_at hl 0 rfl) ?_
      refine xget F hP inX5_row_X5 0 rfl rfl 9 (by decide) lkX5_row_1 rfl dX5_row_18 ?_
      refine lv_bipush (v := (nI 12)) hx hb dX5_row_21 (by decide) ?_
      refine xne (tgt := 33) hx hb dX5_row_23 (by decide) (by omega) (by omega) (fun c23 => ?_) (fun c23 => ?_)
      · skip
        obtain ⟨k, hk_, rfl⟩ := natOf (x := x) (by omega)
        rw [nI_tI hk_] at c1
        rw [nI_tI hk_] at c14
        refine lv_aload_n hx hb dX5_row_33 rfl (lv_at hl 0 rfl) ?_
        refine xget F hP inX5_row_X5 0 rfl rfl 8 (by decide) lkX5_row_2 rfl dX5_row_34 ?_
        refine lv_aload_n hx hb dX5_row_37 rfl (lv_at hl 0 rfl) ?_
        refine xget F hP inX5_row_X5 0 rfl rfl 9 (by decide) lkX5_row_1 rfl dX5_row_38 ?_
        refine lv_iload_n hx hb dX5_row_41 rfl (lv_at hl 1 rfl) ?_
        refine xast F hP hD hS 2 (f' := fun j => nI ((updN rw_ rn k) j)) rfl (by omega) (by omega) (upd_nI rw_ rn k) dX5_row_42 (fun H locs hP hD hS => ?_)
        have hP : va_P (eD g) vwCl [(m0, .inr (5, [.ref m1, .ref m2, .ref m3, .int (nI kp), .ref m4, .ref m5, .ref m6, .ref m7, .ref m8, .int (nI rn), .ref m9, .int (nI tn), .int (nI ia), .int (nI wl), .ref m10, .ref m11, .ref m12, .int (nI si), .ref m13, .ref m14])), (m1, .inl (eI g, 7, .inl rf)), (m8, .inl (eI g, 12, .inl (fun j => nI ((updN rw_ rn k) j))))] H := hP
        have hD : va_D A [(m0, .inr (5, [.ref m1, .ref m2, .ref m3, .int (nI kp), .ref m4, .ref m5, .ref m6, .ref m7, .ref m8, .int (nI rn), .ref m9, .int (nI tn), .int (nI ia), .int (nI wl), .ref m10, .ref m11, .ref m12, .int (nI si), .ref m13, .ref m14])), (m1, .inl (eI g, 7, .inl rf)), (m8, .inl (eI g, 12, .inl (fun j => nI ((updN rw_ rn k) j))))] := hD
        refine lv_aload_n hx hb dX5_row_43 rfl (lv_at hl 0 rfl) ?_
        refine lv_dup hx hb dX5_row_44 rfl ?_
        refine xget F hP inX5_row_X5 0 rfl rfl 9 (by decide) lkX5_row_1 rfl dX5_row_45 ?_
        refine lv_iconst (v := (nI 1)) hx hb dX5_row_48 (by decide) ?_
        refine xadd hx hb dX5_row_49 ?_
        refine xput F hP hD hS inX5_row_X5 tyX5 tyX5_ok nmX5 0 rfl rfl 9 (by decide) lkX5_row_1 rfl rfl rfl (Nat.le_of_ble_eq_true rfl) dX5_row_50 (fun H locs hP hD hS => ?_)
        have hP : va_P (eD g) vwCl [(m0, .inr (5, [.ref m1, .ref m2, .ref m3, .int (nI kp), .ref m4, .ref m5, .ref m6, .ref m7, .ref m8, .int (nI (rn + 1)), .ref m9, .int (nI tn), .int (nI ia), .int (nI wl), .ref m10, .ref m11, .ref m12, .int (nI si), .ref m13, .ref m14])), (m1, .inl (eI g, 7, .inl rf)), (m8, .inl (eI g, 12, .inl (fun j => nI ((updN rw_ rn k) j))))] H := hP
        have hD : va_D A [(m0, .inr (5, [.ref m1, .ref m2, .ref m3, .int (nI kp), .ref m4, .ref m5, .ref m6, .ref m7, .ref m8, .int (nI (rn + 1)), .ref m9, .int (nI tn), .int (nI ia), .int (nI wl), .ref m10, .ref m11, .ref m12, .int (nI si), .ref m13, .ref m14])), (m1, .inl (eI g, 7, .inl rf)), (m8, .inl (eI g, 12, .inl (fun j => nI ((updN rw_ rn k) j))))] := hD
        refine lv_aload_n hx hb dX5_row_53 rfl (lv_at hl 0 rfl) ?_
        refine xget F hP inX5_row_X5 0 rfl rfl 9 (by decide) lkX5_row_1 rfl dX5_row_54 ?_
        exact rtI F hP hD hS dX5_row_57 (by rw [show (if (nI k).toInt < 0 then 4 else if 99 < (nI k).toInt ∨ rn = 12 then 6 else 0) = 0 from (by (try simp only [nI_tI hk_]); (repeat (first | rw [if_pos (by omega)] | rw [if_neg (by omega)])) <;> rfl)]; first | done | exact ⟨by first | rfl | (simp only [nI_clamp hk_]; done) | (simp only [nI_clamp hk_]; rfl), by first | rfl | (simp only [nI_clamp hk_]; done) | (simp only [nI_clamp hk_]; rfl)⟩)
      · skip
        refine lv_aload_n hx hb dX5_row_26 rfl (lv_at hl 0 rfl) ?_
        refine lv_bipush (v := (-6)) hx hb dX5_row_27 (by decide) ?_
        refine cVI (As := [.int (-6)]) (rest := []) F (c_X5_no l g m0 m1 m2 m3 m4 m5 m6 m7 m8 m9 m10 m11 m12 m13 m14 kp rn tn ia wl si rf (-6) 6 (by decide) (by omega) (by omega)) kX5_no rfl gX5_row_X5_no rfl rfl ⟨Nat.le_of_ble_eq_true rfl, Nat.le_of_ble_eq_true rfl⟩ hP hD hS [0, 1] [2] rfl rfl 0 rfl rfl hl.1 rfl rfl (Nat.le_of_ble_eq_true rfl) dX5_row_29 ⟨Nat.le_of_ble_eq_true rfl, Nat.le_of_ble_eq_true rfl⟩ (fun rz w1 H locs hpo hP hD hS => ?_)
        obtain ⟨rfl, rfl⟩ := hpo
        obtain ⟨hP, hD⟩ := nx (ws' := [(m0, .inr (5, [.ref m1, .ref m2, .ref m3, .int (nI kp), .ref m4, .ref m5, .ref m6, .ref m7, .ref m8, .int (nI rn), .ref m9, .int (nI tn), .int (nI ia), .int (nI wl), .ref m10, .ref m11, .ref m12, .int (nI si), .ref m13, .ref m14])), (m1, .inl (eI g, 7, .inl (bump rf 6))), (m8, .inl (eI g, 12, .inl (fun j => nI (rw_ j))))]) hP hD [1, 2, 0] (ndB_ok _ rfl) rfl
        exact rtI F hP hD hS dX5_row_32 (by rw [show (if x.toInt < 0 then 4 else if 99 < x.toInt ∨ rn = 12 then 6 else 0) = 6 from (by (try simp only [ge_iff_le]); (repeat (first | rw [if_pos (by omega)] | rw [if_neg (by omega)])) <;> rfl)]; first | done | exact ⟨by first | rfl | (simp only [ge_iff_le]; done) | (simp only [ge_iff_le]; rfl), by first | rfl | (simp only [ge_iff_le]; done) | (simp only [ge_iff_le]; rfl)⟩)
  · skip
    refine lv_aload_n hx hb dX5_row_4 rfl (lv_at hl 0 rfl) ?_
    refine lv_bipush (v := (-4)) hx hb dX5_row_5 (by decide) ?_
    refine cVI (As := [.int (-4)]) (rest := []) F (c_X5_no l g m0 m1 m2 m3 m4 m5 m6 m7 m8 m9 m10 m11 m12 m13 m14 kp rn tn ia wl si rf (-4) 4 (by decide) (by omega) (by omega)) kX5_no rfl gX5_row_X5_no rfl rfl ⟨Nat.le_of_ble_eq_true rfl, Nat.le_of_ble_eq_true rfl⟩ hP hD hS [0, 1] [2] rfl rfl 0 rfl rfl hl.1 rfl rfl (Nat.le_of_ble_eq_true rfl) dX5_row_7 ⟨Nat.le_of_ble_eq_true rfl, Nat.le_of_ble_eq_true rfl⟩ (fun rz w1 H locs hpo hP hD hS => ?_)
    obtain ⟨rfl, rfl⟩ := hpo
    obtain ⟨hP, hD⟩ := nx (ws' := [(m0, .inr (5, [.ref m1, .ref m2, .ref m3, .int (nI kp), .ref m4, .ref m5, .ref m6, .ref m7, .ref m8, .int (nI rn), .ref m9, .int (nI tn), .int (nI ia), .int (nI wl), .ref m10, .ref m11, .ref m12, .int (nI si), .ref m13, .ref m14])), (m1, .inl (eI g, 7, .inl (bump rf 4))), (m8, .inl (eI g, 12, .inl (fun j => nI (rw_ j))))]) hP hD [1, 2, 0] (ndB_ok _ rfl) rfl
    exact rtI F hP hD hS dX5_row_10 (by rw [show (if x.toInt < 0 then 4 else if 99 < x.toInt ∨ rn = 12 then 6 else 0) = 4 from (by (try simp only [ge_iff_le]); (repeat (first | rw [if_pos (by omega)] | rw [if_neg (by omega)])) <;> rfl)]; first | done | exact ⟨by first | rfl | (simp only [ge_iff_le]; done) | (simp only [ge_iff_le]; rfl), by first | rfl | (simp only [ge_iff_le]; done) | (simp only [ge_iff_le]; rfl)⟩)

theorem inX4_band_X4 : ∀ w ∈ u_ws RX4 TX4 10, w ∈ wsX4_band := fun _ h => (List.mem_cons_of_mem _ (List.mem_append_left _ (List.mem_append_left _ (List.mem_append_right _ h))))
theorem lkX4_band_1 : Cond.fieldLink RX4 29 "StripInFiveSteps" "strip" "LStripInFiveSteps$Strip;" ∈ wsX4_band := List.mem_of_getElem? (i := 1) rfl
theorem lkX4_band_2 : Cond.fieldLink RX4 10 "StripInFiveSteps" "now" "LStripInFiveSteps$Shed;" ∈ wsX4_band := List.mem_of_getElem? (i := 2) rfl
theorem inX4_band_X0 : ∀ w ∈ u_ws RX0 TX0 5, w ∈ wsX4_band := fun _ h => (List.mem_cons_of_mem _ (List.mem_append_left _ (List.mem_append_right _ h)))
theorem lkX4_band_3 : Cond.fieldLink RX4 99 "StripInFiveSteps$Shed" "stripKind" "I" ∈ wsX4_band := List.mem_of_getElem? (i := 3) rfl
theorem kX4_band : Cal yX4_band wsX4_band cX4_band 3 (some .int) 2 := ⟨⟨_, rfl⟩, by decide +kernel⟩
set_option maxHeartbeats 4000000 in
set_option maxRecDepth 100000 in
theorem c_X4_band (l : Launch) (g : EE) (x0 : Nat) (h0 : Nat) (d0 : Nat) (k0 : Nat) (b0 : Nat) (a0 : Nat) (t0 : Nat) (r0 : Nat) (r1 : Nat) (ik : Nat) (rn : Nat) (h1 : Nat) (h2 : Nat) (W : Nat → Nat) (B : Nat → Nat) (sk : Nat) (ek : Nat) (tr : Nat) (b1 : Nat) (q : Nat → Nat) (n : Nat) (rf : Nat → Int32) (x : Int32) (y : Int32) (hB : okB B) (hsk : sk ≤ 3) : CI l yX4_band wsX4_band ({ frames := 3, cells := 0, slots := 0, locals := 72 }) g [.ref x0, .int x, .int y] [(x0, .inr (4, [.ref h0, .ref d0, .ref k0, .int (nI ik), .ref b0, .ref a0, .ref t0, .ref r0, .int (nI rn), .ref r1])), (h0, .inr (0, [.ref h1, .ref h2, .int (nI sk), .int (nI ek), .int (nI tr)])), (h1, .inl (eI g, 41, .inl (fun j => nI (W j)))), (h2, .inl (eI g, 5, .inl (fun j => nI (B j)))), (b0, .inr (1, [.ref b1, .int (nI n)])), (b1, .inl (eI g, 7, .inl (fun j => nI (q j)))), (r1, .inl (eI g, 7, .inl rf))] (fun (rz : Int32) (wz : va_W) => ∃ q9 : Nat → Nat, ∃ n9 : Nat, rz = (rsp (if (1 ≤ x.toInt ∧ x.toInt ≤ 40) ∧ (0 ≤ y.toInt ∧ y.toInt < ((B 0 : Nat) : Int)) then 0 else 1) (nI (secN (sk) (B 0) (B 1) x.toNatClampNeg y.toNatClampNeg))) ∧ wz = [(x0, .inr (4, [.ref h0, .ref d0, .ref k0, .int (nI ik), .ref b0, .ref a0, .ref t0, .ref r0, .int (nI rn), .ref r1])), (h0, .inr (0, [.ref h1, .ref h2, .int (nI sk), .int (nI ek), .int (nI tr)])), (h1, .inl (eI g, 41, .inl (fun j => nI (W j)))), (h2, .inl (eI g, 5, .inl (fun j => nI (B j)))), (b0, .inr (1, [.ref b1, .int (nI n9)])), (b1, .inl (eI g, 7, .inl (fun j => nI (q9 j)))), (r1, .inl (eI g, 7, .inl (bump rf (if (1 ≤ x.toInt ∧ x.toInt ≤ 40) ∧ (0 ≤ y.toInt ∧ y.toInt < ((B 0 : Nat) : Int)) then 0 else 1))))]) 0 0 := by
  refine ctI (cc := cX4_band) (maxL := 3) (ret := (some .int)) (by decide) rfl (Nat.le_of_ble_eq_true rfl) ?_
  intro p_ e_ s_ m_ bl_ mt_ cd_ A ls F hnm hP hD hS hl
  obtain ⟨hx, hb, hml, hown, hts, hK, hX, hA, hrt_, hlocks⟩ := id F
  have hl : lv_has ls 3 [(0, .ref x0), (1, .int x), (2, .int y)] := hl
  obtain ⟨hb0, hb1, hb2, hb3, hb4, hb5⟩ := okB_b hB
  refine lv_iload_n hx hb dX4_band_0 rfl (lv_at hl 1 rfl) ?_
  refine cSI (As := [.int x]) (rest := []) F (c_X4_isSecond l g x ) kX4_isSecond gX4_band_X4_isSecond rfl rfl ⟨Nat.le_of_ble_eq_true rfl, Nat.le_of_ble_eq_true rfl⟩ hP hD hS [] [0, 1, 2, 3, 4, 5, 6] rfl rfl hl.1 rfl rfl (Nat.le_of_ble_eq_true rfl) dX4_band_1 ⟨Nat.le_of_ble_eq_true rfl, Nat.le_of_ble_eq_true rfl⟩ (fun rz w1 H locs hpo hP hD hS => ?_)
  obtain ⟨rfl, rfl⟩ := hpo
  obtain ⟨hP, hD⟩ := nx (ws' := [(x0, .inr (4, [.ref h0, .ref d0, .ref k0, .int (nI ik), .ref b0, .ref a0, .ref t0, .ref r0, .int (nI rn), .ref r1])), (h0, .inr (0, [.ref h1, .ref h2, .int (nI sk), .int (nI ek), .int (nI tr)])), (h1, .inl (eI g, 41, .inl (fun j => nI (W j)))), (h2, .inl (eI g, 5, .inl (fun j => nI (B j)))), (b0, .inr (1, [.ref b1, .int (nI n)])), (b1, .inl (eI g, 7, .inl (fun j => nI (q j)))), (r1, .inl (eI g, 7, .inl rf))]) hP hD [0, 1, 2, 3, 4, 5, 6] (ndB_ok _ rfl) rfl
  refine bqeq (tgt := 15) hx hb dX4_band_4 (by decide) (fun c4 => ?_) (fun c4 => ?_)
  · skip
    refine lv_aload_n hx hb dX4_band_15 rfl (lv_at hl 0 rfl) ?_
    refine lv_iconst (v := (-1)) hx hb dX4_band_16 (by decide) ?_
    refine cVI (As := [.int (-1)]) (rest := []) F (c_X4_refuse l g x0 h0 d0 k0 b0 a0 t0 r0 r1 ik rn rf (-1) 1 (by decide) (by omega) (by omega)) kX4_refuse rfl gX4_band_X4_refuse rfl rfl ⟨Nat.le_of_ble_eq_true rfl, Nat.le_of_ble_eq_true rfl⟩ hP hD hS [0, 6] [1, 2, 3, 4, 5] rfl rfl 0 rfl rfl hl.1 rfl rfl (Nat.le_of_ble_eq_true rfl) dX4_band_17 ⟨Nat.le_of_ble_eq_true rfl, Nat.le_of_ble_eq_true rfl⟩ (fun rz w1 H locs hpo hP hD hS => ?_)
    obtain ⟨rfl, rfl⟩ := hpo
    obtain ⟨hP, hD⟩ := nx (ws' := [(x0, .inr (4, [.ref h0, .ref d0, .ref k0, .int (nI ik), .ref b0, .ref a0, .ref t0, .ref r0, .int (nI rn), .ref r1])), (h0, .inr (0, [.ref h1, .ref h2, .int (nI sk), .int (nI ek), .int (nI tr)])), (h1, .inl (eI g, 41, .inl (fun j => nI (W j)))), (h2, .inl (eI g, 5, .inl (fun j => nI (B j)))), (b0, .inr (1, [.ref b1, .int (nI n)])), (b1, .inl (eI g, 7, .inl (fun j => nI (q j)))), (r1, .inl (eI g, 7, .inl (bump rf 1)))]) hP hD [5, 0, 1, 2, 3, 4, 6] (ndB_ok _ rfl) rfl
    exact rtI F hP hD hS dX4_band_20 (by rw [show (if (1 ≤ x.toInt ∧ x.toInt ≤ 40) ∧ (0 ≤ y.toInt ∧ y.toInt < ((B 0 : Nat) : Int)) then 0 else 1) = 1 from (by (try simp only [ge_iff_le]); (repeat (first | rw [if_pos (by omega)] | rw [if_neg (by omega)])) <;> rfl)]; first | done | exact ⟨_, _, by first | rfl | (simp only [ge_iff_le]; done) | (simp only [ge_iff_le]; rfl), by first | rfl | (simp only [ge_iff_le]; done) | (simp only [ge_iff_le]; rfl)⟩)
  · skip
    refine lv_aload_n hx hb dX4_band_7 rfl (lv_at hl 0 rfl) ?_
    refine lv_iload_n hx hb dX4_band_8 rfl (lv_at hl 2 rfl) ?_
    refine cVI (As := [.int y]) (rest := []) F (c_X4_isBand l g x0 h0 d0 k0 b0 a0 t0 r0 r1 ik rn h1 h2 B sk ek tr y (hB)) kX4_isBand rfl gX4_band_X4_isBand rfl rfl ⟨Nat.le_of_ble_eq_true rfl, Nat.le_of_ble_eq_true rfl⟩ hP hD hS [0, 1, 3] [2, 4, 5, 6] rfl rfl 0 rfl rfl hl.1 rfl rfl (Nat.le_of_ble_eq_true rfl) dX4_band_9 ⟨Nat.le_of_ble_eq_true rfl, Nat.le_of_ble_eq_true rfl⟩ (fun rz w1 H locs hpo hP hD hS => ?_)
    obtain ⟨rfl, rfl⟩ := hpo
    obtain ⟨hP, hD⟩ := nx (ws' := [(x0, .inr (4, [.ref h0, .ref d0, .ref k0, .int (nI ik), .ref b0, .ref a0, .ref t0, .ref r0, .int (nI rn), .ref r1])), (h0, .inr (0, [.ref h1, .ref h2, .int (nI sk), .int (nI ek), .int (nI tr)])), (h1, .inl (eI g, 41, .inl (fun j => nI (W j)))), (h2, .inl (eI g, 5, .inl (fun j => nI (B j)))), (b0, .inr (1, [.ref b1, .int (nI n)])), (b1, .inl (eI g, 7, .inl (fun j => nI (q j)))), (r1, .inl (eI g, 7, .inl rf))]) hP hD [4, 5, 0, 6, 1, 2, 3] (ndB_ok _ rfl) rfl
    refine bqne (tgt := 21) hx hb dX4_band_12 (by decide) (fun c12 => ?_) (fun c12 => ?_)
    · skip
      obtain ⟨k, hk_, rfl⟩ := natOf (x := x) (by omega)
      rw [nI_tI hk_] at c4
      obtain ⟨k2, hk2_, rfl⟩ := natOf (x := y) (by omega)
      rw [nI_tI hk2_] at c12
      refine lv_aload_n hx hb dX4_band_21 rfl (lv_at hl 0 rfl) ?_
      refine xget F hP inX4_band_X4 0 rfl rfl 4 (by decide) lkX4_band_1 rfl dX4_band_22 ?_
      refine lv_aload_n hx hb dX4_band_25 rfl (lv_at hl 0 rfl) ?_
      refine xget F hP inX4_band_X4 0 rfl rfl 0 (by decide) lkX4_band_2 rfl dX4_band_26 ?_
      refine lv_aload_n hx hb dX4_band_29 rfl (lv_at hl 0 rfl) ?_
      refine xget F hP inX4_band_X4 0 rfl rfl 0 (by decide) lkX4_band_2 rfl dX4_band_30 ?_
      refine xget F hP inX4_band_X0 1 rfl rfl 2 (by decide) lkX4_band_3 rfl dX4_band_33 ?_
      refine lv_iload_n hx hb dX4_band_36 rfl (lv_at hl 1 rfl) ?_
      refine cVV (As := [.ref h0, .int (nI sk), .int (nI k)]) (rest := []) F (c_X1_lay l g b0 b1 h0 h1 h2 q n B sk ek tr sk k (hsk) (by omega) (by omega) (by omega) (by omega)) kX1_lay rfl gX4_band_X1_lay rfl rfl ⟨Nat.le_of_ble_eq_true rfl, Nat.le_of_ble_eq_true rfl⟩ hP hD hS [4, 5, 1, 3] [0, 2, 6] rfl rfl 0 rfl rfl hl.1 rfl rfl (Nat.le_of_ble_eq_true rfl) dX4_band_37 ⟨Nat.le_of_ble_eq_true rfl, Nat.le_of_ble_eq_true rfl⟩ (fun w1 H locs hpo hP hD hS => ?_)
      subst hpo
      obtain ⟨hP, hD⟩ := nx (ws' := [(x0, .inr (4, [.ref h0, .ref d0, .ref k0, .int (nI ik), .ref b0, .ref a0, .ref t0, .ref r0, .int (nI rn), .ref r1])), (h0, .inr (0, [.ref h1, .ref h2, .int (nI sk), .int (nI ek), .int (nI tr)])), (h1, .inl (eI g, 41, .inl (fun j => nI (W j)))), (h2, .inl (eI g, 5, .inl (fun j => nI (B j)))), (b0, .inr (1, [.ref b1, .int (nI (B 0))])), (b1, .inl (eI g, 7, .inl (fun j => nI ((layQ sk (B 0) (B 1) k q (B 0)) j)))), (r1, .inl (eI g, 7, .inl rf))]) hP hD [0, 5, 1, 6, 3, 4, 2] (ndB_ok _ rfl) rfl
      refine lv_aload_n hx hb dX4_band_40 rfl (lv_at hl 0 rfl) ?_
      refine xget F hP inX4_band_X4 0 rfl rfl 4 (by decide) lkX4_band_1 rfl dX4_band_41 ?_
      refine lv_iload_n hx hb dX4_band_44 rfl (lv_at hl 2 rfl) ?_
      refine cVI (As := [.int (nI k2)]) (rest := []) F (c_X1_secondsAt l g b0 b1 (layQ sk (B 0) (B 1) k q (B 0)) (B 0) k2 (by omega) (by omega)) kX1_secondsAt rfl gX4_band_X1_secondsAt rfl rfl ⟨Nat.le_of_ble_eq_true rfl, Nat.le_of_ble_eq_true rfl⟩ hP hD hS [4, 5] [0, 1, 2, 3, 6] rfl rfl 0 rfl rfl hl.1 rfl rfl (Nat.le_of_ble_eq_true rfl) dX4_band_45 ⟨Nat.le_of_ble_eq_true rfl, Nat.le_of_ble_eq_true rfl⟩ (fun rz w1 H locs hpo hP hD hS => ?_)
      obtain ⟨rfl, rfl⟩ := hpo
      obtain ⟨hP, hD⟩ := nx (ws' := [(x0, .inr (4, [.ref h0, .ref d0, .ref k0, .int (nI ik), .ref b0, .ref a0, .ref t0, .ref r0, .int (nI rn), .ref r1])), (h0, .inr (0, [.ref h1, .ref h2, .int (nI sk), .int (nI ek), .int (nI tr)])), (h1, .inl (eI g, 41, .inl (fun j => nI (W j)))), (h2, .inl (eI g, 5, .inl (fun j => nI (B j)))), (b0, .inr (1, [.ref b1, .int (nI (B 0))])), (b1, .inl (eI g, 7, .inl (fun j => nI ((layQ sk (B 0) (B 1) k q (B 0)) j)))), (r1, .inl (eI g, 7, .inl rf))]) hP hD [0, 1, 2, 3, 5, 6, 4] (ndB_ok _ rfl) rfl
      refine sti (congrArg nI (show (layQ sk (B 0) (B 1) k q (B 0)) k2 = secN sk (B 0) (B 1) k k2 from (by simp only [layQ]; rw [if_pos (by omega)]))) ?_
      exact rtI F hP hD hS dX4_band_48 (by rw [show (if (1 ≤ (nI k).toInt ∧ (nI k).toInt ≤ 40) ∧ (0 ≤ (nI k2).toInt ∧ (nI k2).toInt < ((B 0 : Nat) : Int)) then 0 else 1) = 0 from (by (try simp only [nI_tI hk_, nI_tI hk2_]); (repeat (first | rw [if_pos (by omega)] | rw [if_neg (by omega)])) <;> rfl)]; first | done | exact ⟨_, _, by first | rfl | (simp only [nI_clamp hk_, nI_clamp hk2_]; done) | (simp only [nI_clamp hk_, nI_clamp hk2_]; rfl), by first | rfl | (simp only [nI_clamp hk_, nI_clamp hk2_]; done) | (simp only [nI_clamp hk_, nI_clamp hk2_]; rfl)⟩)
    · skip
      refine lv_aload_n hx hb dX4_band_15 rfl (lv_at hl 0 rfl) ?_
      refine lv_iconst (v := (-1)) hx hb dX4_band_16 (by decide) ?_
      refine cVI (As := [.int (-1)]) (rest := []) F (c_X4_refuse l g x0 h0 d0 k0 b0 a0 t0 r0 r1 ik rn rf (-1) 1 (by decide) (by omega) (by omega)) kX4_refuse rfl gX4_band_X4_refuse rfl rfl ⟨Nat.le_of_ble_eq_true rfl, Nat.le_of_ble_eq_true rfl⟩ hP hD hS [0, 6] [1, 2, 3, 4, 5] rfl rfl 0 rfl rfl hl.1 rfl rfl (Nat.le_of_ble_eq_true rfl) dX4_band_17 ⟨Nat.le_of_ble_eq_true rfl, Nat.le_of_ble_eq_true rfl⟩ (fun rz w1 H locs hpo hP hD hS => ?_)
      obtain ⟨rfl, rfl⟩ := hpo
      obtain ⟨hP, hD⟩ := nx (ws' := [(x0, .inr (4, [.ref h0, .ref d0, .ref k0, .int (nI ik), .ref b0, .ref a0, .ref t0, .ref r0, .int (nI rn), .ref r1])), (h0, .inr (0, [.ref h1, .ref h2, .int (nI sk), .int (nI ek), .int (nI tr)])), (h1, .inl (eI g, 41, .inl (fun j => nI (W j)))), (h2, .inl (eI g, 5, .inl (fun j => nI (B j)))), (b0, .inr (1, [.ref b1, .int (nI n)])), (b1, .inl (eI g, 7, .inl (fun j => nI (q j)))), (r1, .inl (eI g, 7, .inl (bump rf 1)))]) hP hD [5, 0, 1, 2, 3, 4, 6] (ndB_ok _ rfl) rfl
      exact rtI F hP hD hS dX4_band_20 (by rw [show (if (1 ≤ x.toInt ∧ x.toInt ≤ 40) ∧ (0 ≤ y.toInt ∧ y.toInt < ((B 0 : Nat) : Int)) then 0 else 1) = 1 from (by (try simp only [ge_iff_le]); (repeat (first | rw [if_pos (by omega)] | rw [if_neg (by omega)])) <;> rfl)]; first | done | exact ⟨_, _, by first | rfl | (simp only [ge_iff_le]; done) | (simp only [ge_iff_le]; rfl), by first | rfl | (simp only [ge_iff_le]; done) | (simp only [ge_iff_le]; rfl)⟩)

theorem inX5_band_X5 : ∀ w ∈ u_ws RX5 TX5 20, w ∈ wsX5_band := fun _ h => (List.mem_cons_of_mem _ (List.mem_append_right _ h))
theorem lkX5_band_1 : Cond.fieldLink RX5 19 "StripInFiveStepsModel" "now" "[I" ∈ wsX5_band := List.mem_of_getElem? (i := 1) rfl
theorem kX5_band : Cal yX5_band wsX5_band cX5_band 3 (some .int) 2 := ⟨⟨_, rfl⟩, by decide +kernel⟩
set_option maxHeartbeats 4000000 in
set_option maxRecDepth 100000 in
theorem c_X5_band (l : Launch) (g : EE) (m0 : Nat) (m1 : Nat) (m2 : Nat) (m3 : Nat) (m4 : Nat) (m5 : Nat) (m6 : Nat) (m7 : Nat) (m8 : Nat) (m9 : Nat) (m10 : Nat) (m11 : Nat) (m12 : Nat) (m13 : Nat) (m14 : Nat) (kp : Nat) (rn : Nat) (tn : Nat) (ia : Nat) (wl : Nat) (si : Nat) (S : Nat → Nat) (rf : Nat → Int32) (x : Int32) (y : Int32) (hO : okS S) : CI l yX5_band wsX5_band ({ frames := 2, cells := 0, slots := 0, locals := 38 }) g [.ref m0, .int x, .int y] [(m0, .inr (5, [.ref m1, .ref m2, .ref m3, .int (nI kp), .ref m4, .ref m5, .ref m6, .ref m7, .ref m8, .int (nI rn), .ref m9, .int (nI tn), .int (nI ia), .int (nI wl), .ref m10, .ref m11, .ref m12, .int (nI si), .ref m13, .ref m14])), (m1, .inl (eI g, 7, .inl rf)), (m2, .inl (eI g, 49, .inl (fun j => nI (S j))))] (fun (rz : Int32) (wz : va_W) => rz = (rsp (if (1 ≤ x.toInt ∧ x.toInt ≤ 40) ∧ (0 ≤ y.toInt ∧ y.toInt < ((S 41 : Nat) : Int)) then 0 else 1) (nI (secN (S 46) (S 41) (S 42) x.toNatClampNeg y.toNatClampNeg))) ∧ wz = [(m0, .inr (5, [.ref m1, .ref m2, .ref m3, .int (nI kp), .ref m4, .ref m5, .ref m6, .ref m7, .ref m8, .int (nI rn), .ref m9, .int (nI tn), .int (nI ia), .int (nI wl), .ref m10, .ref m11, .ref m12, .int (nI si), .ref m13, .ref m14])), (m1, .inl (eI g, 7, .inl (bump rf (if (1 ≤ x.toInt ∧ x.toInt ≤ 40) ∧ (0 ≤ y.toInt ∧ y.toInt < ((S 41 : Nat) : Int)) then 0 else 1)))), (m2, .inl (eI g, 49, .inl (fun j => nI (S j))))]) 0 0 := by
  refine ctI (cc := cX5_band) (maxL := 3) (ret := (some .int)) (by decide) rfl (Nat.le_of_ble_eq_true rfl) ?_
  intro p_ e_ s_ m_ bl_ mt_ cd_ A ls F hnm hP hD hS hl
  obtain ⟨hx, hb, hml, hown, hts, hK, hX, hA, hrt_, hlocks⟩ := id F
  have hl : lv_has ls 3 [(0, .ref m0), (1, .int x), (2, .int y)] := hl
  obtain ⟨hw40, ⟨h41a, h41b⟩, ⟨h42a, h42b⟩, h43, h44, h45, h46, h47, h48⟩ := id hO
  refine lv_iload_n hx hb dX5_band_0 rfl (lv_at hl 1 rfl) ?_
  refine cSI (As := [.int x]) (rest := []) F (c_X5_isNoSecond l g x ) kX5_isNoSecond gX5_band_X5_isNoSecond rfl rfl ⟨Nat.le_of_ble_eq_true rfl, Nat.le_of_ble_eq_true rfl⟩ hP hD hS [] [0, 1, 2] rfl rfl hl.1 rfl rfl (Nat.le_of_ble_eq_true rfl) dX5_band_1 ⟨Nat.le_of_ble_eq_true rfl, Nat.le_of_ble_eq_true rfl⟩ (fun rz w1 H locs hpo hP hD hS => ?_)
  obtain ⟨rfl, rfl⟩ := hpo
  obtain ⟨hP, hD⟩ := nx (ws' := [(m0, .inr (5, [.ref m1, .ref m2, .ref m3, .int (nI kp), .ref m4, .ref m5, .ref m6, .ref m7, .ref m8, .int (nI rn), .ref m9, .int (nI tn), .int (nI ia), .int (nI wl), .ref m10, .ref m11, .ref m12, .int (nI si), .ref m13, .ref m14])), (m1, .inl (eI g, 7, .inl rf)), (m2, .inl (eI g, 49, .inl (fun j => nI (S j))))]) hP hD [0, 1, 2] (ndB_ok _ rfl) rfl
  refine bqne (tgt := 22) hx hb dX5_band_4 (by decide) (fun c4 => ?_) (fun c4 => ?_)
  · skip
    refine lv_aload_n hx hb dX5_band_22 rfl (lv_at hl 0 rfl) ?_
    refine lv_iconst (v := (-1)) hx hb dX5_band_23 (by decide) ?_
    refine cVI (As := [.int (-1)]) (rest := []) F (c_X5_no l g m0 m1 m2 m3 m4 m5 m6 m7 m8 m9 m10 m11 m12 m13 m14 kp rn tn ia wl si rf (-1) 1 (by decide) (by omega) (by omega)) kX5_no rfl gX5_band_X5_no rfl rfl ⟨Nat.le_of_ble_eq_true rfl, Nat.le_of_ble_eq_true rfl⟩ hP hD hS [0, 1] [2] rfl rfl 0 rfl rfl hl.1 rfl rfl (Nat.le_of_ble_eq_true rfl) dX5_band_24 ⟨Nat.le_of_ble_eq_true rfl, Nat.le_of_ble_eq_true rfl⟩ (fun rz w1 H locs hpo hP hD hS => ?_)
    obtain ⟨rfl, rfl⟩ := hpo
    obtain ⟨hP, hD⟩ := nx (ws' := [(m0, .inr (5, [.ref m1, .ref m2, .ref m3, .int (nI kp), .ref m4, .ref m5, .ref m6, .ref m7, .ref m8, .int (nI rn), .ref m9, .int (nI tn), .int (nI ia), .int (nI wl), .ref m10, .ref m11, .ref m12, .int (nI si), .ref m13, .ref m14])), (m1, .inl (eI g, 7, .inl (bump rf 1))), (m2, .inl (eI g, 49, .inl (fun j => nI (S j))))]) hP hD [1, 2, 0] (ndB_ok _ rfl) rfl
    refine lv_goto (tgt := 36) hx hb dX5_band_27 (by decide) ?_
    exact rtI F hP hD hS dX5_band_36 (by rw [show (if (1 ≤ x.toInt ∧ x.toInt ≤ 40) ∧ (0 ≤ y.toInt ∧ y.toInt < ((S 41 : Nat) : Int)) then 0 else 1) = 1 from (by (try simp only [ge_iff_le]); (repeat (first | rw [if_pos (by omega)] | rw [if_neg (by omega)])) <;> rfl)]; first | done | exact ⟨by first | rfl | (simp only [ge_iff_le]; done) | (simp only [ge_iff_le]; rfl), by first | rfl | (simp only [ge_iff_le]; done) | (simp only [ge_iff_le]; rfl)⟩)
  · skip
    refine lv_iload_n hx hb dX5_band_7 rfl (lv_at hl 2 rfl) ?_
    refine wlt (tgt := 22) hx hb dX5_band_8 (by decide) (fun c8 => ?_) (fun c8 => ?_)
    · skip
      refine lv_aload_n hx hb dX5_band_22 rfl (lv_at hl 0 rfl) ?_
      refine lv_iconst (v := (-1)) hx hb dX5_band_23 (by decide) ?_
      refine cVI (As := [.int (-1)]) (rest := []) F (c_X5_no l g m0 m1 m2 m3 m4 m5 m6 m7 m8 m9 m10 m11 m12 m13 m14 kp rn tn ia wl si rf (-1) 1 (by decide) (by omega) (by omega)) kX5_no rfl gX5_band_X5_no rfl rfl ⟨Nat.le_of_ble_eq_true rfl, Nat.le_of_ble_eq_true rfl⟩ hP hD hS [0, 1] [2] rfl rfl 0 rfl rfl hl.1 rfl rfl (Nat.le_of_ble_eq_true rfl) dX5_band_24 ⟨Nat.le_of_ble_eq_true rfl, Nat.le_of_ble_eq_true rfl⟩ (fun rz w1 H locs hpo hP hD hS => ?_)
      obtain ⟨rfl, rfl⟩ := hpo
      obtain ⟨hP, hD⟩ := nx (ws' := [(m0, .inr (5, [.ref m1, .ref m2, .ref m3, .int (nI kp), .ref m4, .ref m5, .ref m6, .ref m7, .ref m8, .int (nI rn), .ref m9, .int (nI tn), .int (nI ia), .int (nI wl), .ref m10, .ref m11, .ref m12, .int (nI si), .ref m13, .ref m14])), (m1, .inl (eI g, 7, .inl (bump rf 1))), (m2, .inl (eI g, 49, .inl (fun j => nI (S j))))]) hP hD [1, 2, 0] (ndB_ok _ rfl) rfl
      refine lv_goto (tgt := 36) hx hb dX5_band_27 (by decide) ?_
      exact rtI F hP hD hS dX5_band_36 (by rw [show (if (1 ≤ x.toInt ∧ x.toInt ≤ 40) ∧ (0 ≤ y.toInt ∧ y.toInt < ((S 41 : Nat) : Int)) then 0 else 1) = 1 from (by (try simp only [ge_iff_le]); (repeat (first | rw [if_pos (by omega)] | rw [if_neg (by omega)])) <;> rfl)]; first | done | exact ⟨by first | rfl | (simp only [ge_iff_le]; done) | (simp only [ge_iff_le]; rfl), by first | rfl | (simp only [ge_iff_le]; done) | (simp only [ge_iff_le]; rfl)⟩)
    · skip
      refine lv_iload_n hx hb dX5_band_11 rfl (lv_at hl 2 rfl) ?_
      refine lv_aload_n hx hb dX5_band_12 rfl (lv_at hl 0 rfl) ?_
      refine xget F hP inX5_band_X5 0 rfl rfl 1 (by decide) lkX5_band_1 rfl dX5_band_13 ?_
      refine lv_bipush (v := (nI 41)) hx hb dX5_band_16 (by decide) ?_
      refine xald F hP 2 (v := (nI (S 41))) rfl (by omega) (by omega) rfl dX5_band_18 ?_
      refine ylt (tgt := 30) hx hb dX5_band_19 (by decide) (by omega) (fun c19 => ?_) (fun c19 => ?_)
      · skip
        obtain ⟨k, hk_, rfl⟩ := natOf (x := x) (by omega)
        rw [nI_tI hk_] at c4
        obtain ⟨k2, hk2_, rfl⟩ := natOf (x := y) (by omega)
        rw [nI_tI hk2_] at c8
        rw [nI_tI hk2_] at c19
        refine lv_aload_n hx hb dX5_band_30 rfl (lv_at hl 0 rfl) ?_
        refine lv_iload_n hx hb dX5_band_31 rfl (lv_at hl 1 rfl) ?_
        refine lv_iload_n hx hb dX5_band_32 rfl (lv_at hl 2 rfl) ?_
        refine cVI (As := [.int (nI k), .int (nI k2)]) (rest := []) F (c_X5_seconds l g m0 m1 m2 m3 m4 m5 m6 m7 m8 m9 m10 m11 m12 m13 m14 kp rn tn ia wl si S k k2 (hO) (by omega) (by omega)) kX5_seconds rfl gX5_band_X5_seconds rfl rfl ⟨Nat.le_of_ble_eq_true rfl, Nat.le_of_ble_eq_true rfl⟩ hP hD hS [0, 2] [1] rfl rfl 0 rfl rfl hl.1 rfl rfl (Nat.le_of_ble_eq_true rfl) dX5_band_33 ⟨Nat.le_of_ble_eq_true rfl, Nat.le_of_ble_eq_true rfl⟩ (fun rz w1 H locs hpo hP hD hS => ?_)
        obtain ⟨rfl, rfl⟩ := hpo
        obtain ⟨hP, hD⟩ := nx (ws' := [(m0, .inr (5, [.ref m1, .ref m2, .ref m3, .int (nI kp), .ref m4, .ref m5, .ref m6, .ref m7, .ref m8, .int (nI rn), .ref m9, .int (nI tn), .int (nI ia), .int (nI wl), .ref m10, .ref m11, .ref m12, .int (nI si), .ref m13, .ref m14])), (m1, .inl (eI g, 7, .inl rf)), (m2, .inl (eI g, 49, .inl (fun j => nI (S j))))]) hP hD [1, 0, 2] (ndB_ok _ rfl) rfl
        exact rtI F hP hD hS dX5_band_36 (by rw [show (if (1 ≤ (nI k).toInt ∧ (nI k).toInt ≤ 40) ∧ (0 ≤ (nI k2).toInt ∧ (nI k2).toInt < ((S 41 : Nat) : Int)) then 0 else 1) = 0 from (by (try simp only [nI_tI hk_, nI_tI hk2_]); (repeat (first | rw [if_pos (by omega)] | rw [if_neg (by omega)])) <;> rfl)]; first | done | exact ⟨by first | rfl | (simp only [nI_clamp hk_, nI_clamp hk2_]; done) | (simp only [nI_clamp hk_, nI_clamp hk2_]; rfl), by first | rfl | (simp only [nI_clamp hk_, nI_clamp hk2_]; done) | (simp only [nI_clamp hk_, nI_clamp hk2_]; rfl)⟩)
      · skip
        refine lv_aload_n hx hb dX5_band_22 rfl (lv_at hl 0 rfl) ?_
        refine lv_iconst (v := (-1)) hx hb dX5_band_23 (by decide) ?_
        refine cVI (As := [.int (-1)]) (rest := []) F (c_X5_no l g m0 m1 m2 m3 m4 m5 m6 m7 m8 m9 m10 m11 m12 m13 m14 kp rn tn ia wl si rf (-1) 1 (by decide) (by omega) (by omega)) kX5_no rfl gX5_band_X5_no rfl rfl ⟨Nat.le_of_ble_eq_true rfl, Nat.le_of_ble_eq_true rfl⟩ hP hD hS [0, 1] [2] rfl rfl 0 rfl rfl hl.1 rfl rfl (Nat.le_of_ble_eq_true rfl) dX5_band_24 ⟨Nat.le_of_ble_eq_true rfl, Nat.le_of_ble_eq_true rfl⟩ (fun rz w1 H locs hpo hP hD hS => ?_)
        obtain ⟨rfl, rfl⟩ := hpo
        obtain ⟨hP, hD⟩ := nx (ws' := [(m0, .inr (5, [.ref m1, .ref m2, .ref m3, .int (nI kp), .ref m4, .ref m5, .ref m6, .ref m7, .ref m8, .int (nI rn), .ref m9, .int (nI tn), .int (nI ia), .int (nI wl), .ref m10, .ref m11, .ref m12, .int (nI si), .ref m13, .ref m14])), (m1, .inl (eI g, 7, .inl (bump rf 1))), (m2, .inl (eI g, 49, .inl (fun j => nI (S j))))]) hP hD [1, 2, 0] (ndB_ok _ rfl) rfl
        refine lv_goto (tgt := 36) hx hb dX5_band_27 (by decide) ?_
        exact rtI F hP hD hS dX5_band_36 (by rw [show (if (1 ≤ x.toInt ∧ x.toInt ≤ 40) ∧ (0 ≤ y.toInt ∧ y.toInt < ((S 41 : Nat) : Int)) then 0 else 1) = 1 from (by (try simp only [ge_iff_le]); (repeat (first | rw [if_pos (by omega)] | rw [if_neg (by omega)])) <;> rfl)]; first | done | exact ⟨by first | rfl | (simp only [ge_iff_le]; done) | (simp only [ge_iff_le]; rfl), by first | rfl | (simp only [ge_iff_le]; done) | (simp only [ge_iff_le]; rfl)⟩)

theorem inX4_told_X4 : ∀ w ∈ u_ws RX4 TX4 10, w ∈ wsX4_told := fun _ h => (List.mem_cons_of_mem _ (List.mem_append_left _ (List.mem_append_left _ (List.mem_append_right _ h))))
theorem lkX4_told_1 : Cond.fieldLink RX4 29 "StripInFiveSteps" "strip" "LStripInFiveSteps$Strip;" ∈ wsX4_told := List.mem_of_getElem? (i := 1) rfl
theorem lkX4_told_2 : Cond.fieldLink RX4 10 "StripInFiveSteps" "now" "LStripInFiveSteps$Shed;" ∈ wsX4_told := List.mem_of_getElem? (i := 2) rfl
theorem inX4_told_X0 : ∀ w ∈ u_ws RX0 TX0 5, w ∈ wsX4_told := fun _ h => (List.mem_cons_of_mem _ (List.mem_append_left _ (List.mem_append_right _ h)))
theorem lkX4_told_3 : Cond.fieldLink RX4 99 "StripInFiveSteps$Shed" "stripKind" "I" ∈ wsX4_told := List.mem_of_getElem? (i := 3) rfl
theorem lkX4_told_4 : Cond.fieldLink RX4 105 "StripInFiveSteps$Shed" "eyeKind" "I" ∈ wsX4_told := List.mem_of_getElem? (i := 4) rfl
theorem lkX4_told_5 : Cond.fieldLink RX4 93 "StripInFiveSteps$Shed" "numbers" "[I" ∈ wsX4_told := List.mem_of_getElem? (i := 5) rfl
theorem kX4_told : Cal yX4_told wsX4_told cX4_told 3 (some .int) 2 := ⟨⟨_, rfl⟩, by decide +kernel⟩
set_option maxHeartbeats 4000000 in
set_option maxRecDepth 100000 in
theorem c_X4_told (l : Launch) (g : EE) (x0 : Nat) (h0 : Nat) (d0 : Nat) (k0 : Nat) (b0 : Nat) (a0 : Nat) (t0 : Nat) (r0 : Nat) (r1 : Nat) (ik : Nat) (rn : Nat) (h1 : Nat) (h2 : Nat) (W : Nat → Nat) (B : Nat → Nat) (sk : Nat) (ek : Nat) (tr : Nat) (b1 : Nat) (q : Nat → Nat) (n : Nat) (rf : Nat → Int32) (x : Int32) (y : Int32) (hB : okB B) (hsk : sk ≤ 3) (hek : ek ≤ 4) : CI l yX4_told wsX4_told ({ frames := 3, cells := 0, slots := 0, locals := 72 }) g [.ref x0, .int x, .int y] [(x0, .inr (4, [.ref h0, .ref d0, .ref k0, .int (nI ik), .ref b0, .ref a0, .ref t0, .ref r0, .int (nI rn), .ref r1])), (h0, .inr (0, [.ref h1, .ref h2, .int (nI sk), .int (nI ek), .int (nI tr)])), (h1, .inl (eI g, 41, .inl (fun j => nI (W j)))), (h2, .inl (eI g, 5, .inl (fun j => nI (B j)))), (b0, .inr (1, [.ref b1, .int (nI n)])), (b1, .inl (eI g, 7, .inl (fun j => nI (q j)))), (r1, .inl (eI g, 7, .inl rf))] (fun (rz : Int32) (wz : va_W) => ∃ q9 : Nat → Nat, ∃ n9 : Nat, rz = (rsp (if (1 ≤ x.toInt ∧ x.toInt ≤ 40) ∧ (1 ≤ y.toInt ∧ y.toInt ≤ 40) then 0 else 1) (nI ((tlT B sk ek) x.toNatClampNeg y.toNatClampNeg))) ∧ wz = [(x0, .inr (4, [.ref h0, .ref d0, .ref k0, .int (nI ik), .ref b0, .ref a0, .ref t0, .ref r0, .int (nI rn), .ref r1])), (h0, .inr (0, [.ref h1, .ref h2, .int (nI sk), .int (nI ek), .int (nI tr)])), (h1, .inl (eI g, 41, .inl (fun j => nI (W j)))), (h2, .inl (eI g, 5, .inl (fun j => nI (B j)))), (b0, .inr (1, [.ref b1, .int (nI n9)])), (b1, .inl (eI g, 7, .inl (fun j => nI (q9 j)))), (r1, .inl (eI g, 7, .inl (bump rf (if (1 ≤ x.toInt ∧ x.toInt ≤ 40) ∧ (1 ≤ y.toInt ∧ y.toInt ≤ 40) then 0 else 1))))]) 0 0 := by
  refine ctI (cc := cX4_told) (maxL := 3) (ret := (some .int)) (by decide) rfl (Nat.le_of_ble_eq_true rfl) ?_
  intro p_ e_ s_ m_ bl_ mt_ cd_ A ls F hnm hP hD hS hl
  obtain ⟨hx, hb, hml, hown, hts, hK, hX, hA, hrt_, hlocks⟩ := id F
  have hl : lv_has ls 3 [(0, .ref x0), (1, .int x), (2, .int y)] := hl
  obtain ⟨hb0, hb1, hb2, hb3, hb4, hb5⟩ := okB_b hB
  refine lv_iload_n hx hb dX4_told_0 rfl (lv_at hl 1 rfl) ?_
  refine cSI (As := [.int x]) (rest := []) F (c_X4_isSecond l g x ) kX4_isSecond gX4_told_X4_isSecond rfl rfl ⟨Nat.le_of_ble_eq_true rfl, Nat.le_of_ble_eq_true rfl⟩ hP hD hS [] [0, 1, 2, 3, 4, 5, 6] rfl rfl hl.1 rfl rfl (Nat.le_of_ble_eq_true rfl) dX4_told_1 ⟨Nat.le_of_ble_eq_true rfl, Nat.le_of_ble_eq_true rfl⟩ (fun rz w1 H locs hpo hP hD hS => ?_)
  obtain ⟨rfl, rfl⟩ := hpo
  obtain ⟨hP, hD⟩ := nx (ws' := [(x0, .inr (4, [.ref h0, .ref d0, .ref k0, .int (nI ik), .ref b0, .ref a0, .ref t0, .ref r0, .int (nI rn), .ref r1])), (h0, .inr (0, [.ref h1, .ref h2, .int (nI sk), .int (nI ek), .int (nI tr)])), (h1, .inl (eI g, 41, .inl (fun j => nI (W j)))), (h2, .inl (eI g, 5, .inl (fun j => nI (B j)))), (b0, .inr (1, [.ref b1, .int (nI n)])), (b1, .inl (eI g, 7, .inl (fun j => nI (q j)))), (r1, .inl (eI g, 7, .inl rf))]) hP hD [0, 1, 2, 3, 4, 5, 6] (ndB_ok _ rfl) rfl
  refine bqeq (tgt := 14) hx hb dX4_told_4 (by decide) (fun c4 => ?_) (fun c4 => ?_)
  · skip
    refine lv_aload_n hx hb dX4_told_14 rfl (lv_at hl 0 rfl) ?_
    refine lv_iconst (v := (-1)) hx hb dX4_told_15 (by decide) ?_
    refine cVI (As := [.int (-1)]) (rest := []) F (c_X4_refuse l g x0 h0 d0 k0 b0 a0 t0 r0 r1 ik rn rf (-1) 1 (by decide) (by omega) (by omega)) kX4_refuse rfl gX4_told_X4_refuse rfl rfl ⟨Nat.le_of_ble_eq_true rfl, Nat.le_of_ble_eq_true rfl⟩ hP hD hS [0, 6] [1, 2, 3, 4, 5] rfl rfl 0 rfl rfl hl.1 rfl rfl (Nat.le_of_ble_eq_true rfl) dX4_told_16 ⟨Nat.le_of_ble_eq_true rfl, Nat.le_of_ble_eq_true rfl⟩ (fun rz w1 H locs hpo hP hD hS => ?_)
    obtain ⟨rfl, rfl⟩ := hpo
    obtain ⟨hP, hD⟩ := nx (ws' := [(x0, .inr (4, [.ref h0, .ref d0, .ref k0, .int (nI ik), .ref b0, .ref a0, .ref t0, .ref r0, .int (nI rn), .ref r1])), (h0, .inr (0, [.ref h1, .ref h2, .int (nI sk), .int (nI ek), .int (nI tr)])), (h1, .inl (eI g, 41, .inl (fun j => nI (W j)))), (h2, .inl (eI g, 5, .inl (fun j => nI (B j)))), (b0, .inr (1, [.ref b1, .int (nI n)])), (b1, .inl (eI g, 7, .inl (fun j => nI (q j)))), (r1, .inl (eI g, 7, .inl (bump rf 1)))]) hP hD [5, 0, 1, 2, 3, 4, 6] (ndB_ok _ rfl) rfl
    exact rtI F hP hD hS dX4_told_19 (by rw [show (if (1 ≤ x.toInt ∧ x.toInt ≤ 40) ∧ (1 ≤ y.toInt ∧ y.toInt ≤ 40) then 0 else 1) = 1 from (by (try simp only [ge_iff_le]); (repeat (first | rw [if_pos (by omega)] | rw [if_neg (by omega)])) <;> rfl)]; first | done | exact ⟨_, _, by first | rfl | (simp only [ge_iff_le]; done) | (simp only [ge_iff_le]; rfl), by first | rfl | (simp only [ge_iff_le]; done) | (simp only [ge_iff_le]; rfl)⟩)
  · skip
    refine lv_iload_n hx hb dX4_told_7 rfl (lv_at hl 2 rfl) ?_
    refine cSI (As := [.int y]) (rest := []) F (c_X4_isSecond l g y ) kX4_isSecond gX4_told_X4_isSecond rfl rfl ⟨Nat.le_of_ble_eq_true rfl, Nat.le_of_ble_eq_true rfl⟩ hP hD hS [] [0, 1, 2, 3, 4, 5, 6] rfl rfl hl.1 rfl rfl (Nat.le_of_ble_eq_true rfl) dX4_told_8 ⟨Nat.le_of_ble_eq_true rfl, Nat.le_of_ble_eq_true rfl⟩ (fun rz w1 H locs hpo hP hD hS => ?_)
    obtain ⟨rfl, rfl⟩ := hpo
    obtain ⟨hP, hD⟩ := nx (ws' := [(x0, .inr (4, [.ref h0, .ref d0, .ref k0, .int (nI ik), .ref b0, .ref a0, .ref t0, .ref r0, .int (nI rn), .ref r1])), (h0, .inr (0, [.ref h1, .ref h2, .int (nI sk), .int (nI ek), .int (nI tr)])), (h1, .inl (eI g, 41, .inl (fun j => nI (W j)))), (h2, .inl (eI g, 5, .inl (fun j => nI (B j)))), (b0, .inr (1, [.ref b1, .int (nI n)])), (b1, .inl (eI g, 7, .inl (fun j => nI (q j)))), (r1, .inl (eI g, 7, .inl rf))]) hP hD [0, 1, 2, 3, 4, 5, 6] (ndB_ok _ rfl) rfl
    refine bqne (tgt := 20) hx hb dX4_told_11 (by decide) (fun c11 => ?_) (fun c11 => ?_)
    · skip
      obtain ⟨k, hk_, rfl⟩ := natOf (x := x) (by omega)
      rw [nI_tI hk_] at c4
      obtain ⟨k2, hk2_, rfl⟩ := natOf (x := y) (by omega)
      rw [nI_tI hk2_] at c11
      refine lv_aload_n hx hb dX4_told_20 rfl (lv_at hl 0 rfl) ?_
      refine xget F hP inX4_told_X4 0 rfl rfl 4 (by decide) lkX4_told_1 rfl dX4_told_21 ?_
      refine lv_aload_n hx hb dX4_told_24 rfl (lv_at hl 0 rfl) ?_
      refine xget F hP inX4_told_X4 0 rfl rfl 0 (by decide) lkX4_told_2 rfl dX4_told_25 ?_
      refine lv_aload_n hx hb dX4_told_28 rfl (lv_at hl 0 rfl) ?_
      refine xget F hP inX4_told_X4 0 rfl rfl 0 (by decide) lkX4_told_2 rfl dX4_told_29 ?_
      refine xget F hP inX4_told_X0 1 rfl rfl 2 (by decide) lkX4_told_3 rfl dX4_told_32 ?_
      refine lv_iload_n hx hb dX4_told_35 rfl (lv_at hl 1 rfl) ?_
      refine cVV (As := [.ref h0, .int (nI sk), .int (nI k)]) (rest := []) F (c_X1_lay l g b0 b1 h0 h1 h2 q n B sk ek tr sk k (hsk) (by omega) (by omega) (by omega) (by omega)) kX1_lay rfl gX4_told_X1_lay rfl rfl ⟨Nat.le_of_ble_eq_true rfl, Nat.le_of_ble_eq_true rfl⟩ hP hD hS [4, 5, 1, 3] [0, 2, 6] rfl rfl 0 rfl rfl hl.1 rfl rfl (Nat.le_of_ble_eq_true rfl) dX4_told_36 ⟨Nat.le_of_ble_eq_true rfl, Nat.le_of_ble_eq_true rfl⟩ (fun w1 H locs hpo hP hD hS => ?_)
      subst hpo
      obtain ⟨hP, hD⟩ := nx (ws' := [(x0, .inr (4, [.ref h0, .ref d0, .ref k0, .int (nI ik), .ref b0, .ref a0, .ref t0, .ref r0, .int (nI rn), .ref r1])), (h0, .inr (0, [.ref h1, .ref h2, .int (nI sk), .int (nI ek), .int (nI tr)])), (h1, .inl (eI g, 41, .inl (fun j => nI (W j)))), (h2, .inl (eI g, 5, .inl (fun j => nI (B j)))), (b0, .inr (1, [.ref b1, .int (nI (B 0))])), (b1, .inl (eI g, 7, .inl (fun j => nI ((layQ sk (B 0) (B 1) k q (B 0)) j)))), (r1, .inl (eI g, 7, .inl rf))]) hP hD [0, 5, 1, 6, 3, 4, 2] (ndB_ok _ rfl) rfl
      refine lv_aload_n hx hb dX4_told_39 rfl (lv_at hl 0 rfl) ?_
      refine xget F hP inX4_told_X4 0 rfl rfl 4 (by decide) lkX4_told_1 rfl dX4_told_40 ?_
      refine lv_aload_n hx hb dX4_told_43 rfl (lv_at hl 0 rfl) ?_
      refine xget F hP inX4_told_X4 0 rfl rfl 0 (by decide) lkX4_told_2 rfl dX4_told_44 ?_
      refine xget F hP inX4_told_X0 1 rfl rfl 3 (by decide) lkX4_told_4 rfl dX4_told_47 ?_
      refine lv_aload_n hx hb dX4_told_50 rfl (lv_at hl 0 rfl) ?_
      refine xget F hP inX4_told_X4 0 rfl rfl 0 (by decide) lkX4_told_2 rfl dX4_told_51 ?_
      refine xget F hP inX4_told_X0 1 rfl rfl 1 (by decide) lkX4_told_5 rfl dX4_told_54 ?_
      refine lv_iconst (v := (nI 2)) hx hb dX4_told_57 (by decide) ?_
      refine xald F hP 3 (v := (nI (B 2))) rfl (by omega) (by omega) rfl dX4_told_58 ?_
      refine lv_iload_n hx hb dX4_told_59 rfl (lv_at hl 2 rfl) ?_
      refine cVI (As := [.int (nI ek), .int (nI (B 2)), .int (nI k2)]) (rest := []) F (c_X1_tell l g b0 b1 (layQ sk (B 0) (B 1) k q (B 0)) (B 0) ek (B 2) k2 (by omega) (by omega) (layQ_b) (hek) (by omega) (by omega)) kX1_tell rfl gX4_told_X1_tell rfl rfl ⟨Nat.le_of_ble_eq_true rfl, Nat.le_of_ble_eq_true rfl⟩ hP hD hS [4, 5] [0, 1, 2, 3, 6] rfl rfl 0 rfl rfl hl.1 rfl rfl (Nat.le_of_ble_eq_true rfl) dX4_told_60 ⟨Nat.le_of_ble_eq_true rfl, Nat.le_of_ble_eq_true rfl⟩ (fun rz w1 H locs hpo hP hD hS => ?_)
      obtain ⟨rfl, rfl⟩ := hpo
      obtain ⟨hP, hD⟩ := nx (ws' := [(x0, .inr (4, [.ref h0, .ref d0, .ref k0, .int (nI ik), .ref b0, .ref a0, .ref t0, .ref r0, .int (nI rn), .ref r1])), (h0, .inr (0, [.ref h1, .ref h2, .int (nI sk), .int (nI ek), .int (nI tr)])), (h1, .inl (eI g, 41, .inl (fun j => nI (W j)))), (h2, .inl (eI g, 5, .inl (fun j => nI (B j)))), (b0, .inr (1, [.ref b1, .int (nI (B 0))])), (b1, .inl (eI g, 7, .inl (fun j => nI ((layQ sk (B 0) (B 1) k q (B 0)) j)))), (r1, .inl (eI g, 7, .inl rf))]) hP hD [0, 1, 2, 3, 5, 6, 4] (ndB_ok _ rfl) rfl
      refine sti (congrArg nI (show tellQ (layQ sk (B 0) (B 1) k q (B 0)) (B 0) ek (B 2) k2 = tl (B 0) (B 1) (B 2) sk ek k k2 from tell_lay (by omega))) ?_
      exact rtI F hP hD hS dX4_told_63 (by rw [show (if (1 ≤ (nI k).toInt ∧ (nI k).toInt ≤ 40) ∧ (1 ≤ (nI k2).toInt ∧ (nI k2).toInt ≤ 40) then 0 else 1) = 0 from (by (try simp only [nI_tI hk_, nI_tI hk2_]); (repeat (first | rw [if_pos (by omega)] | rw [if_neg (by omega)])) <;> rfl)]; first | done | exact ⟨_, _, by first | rfl | (simp only [nI_clamp hk_, nI_clamp hk2_]; done) | (simp only [nI_clamp hk_, nI_clamp hk2_]; rfl), by first | rfl | (simp only [nI_clamp hk_, nI_clamp hk2_]; done) | (simp only [nI_clamp hk_, nI_clamp hk2_]; rfl)⟩)
    · skip
      refine lv_aload_n hx hb dX4_told_14 rfl (lv_at hl 0 rfl) ?_
      refine lv_iconst (v := (-1)) hx hb dX4_told_15 (by decide) ?_
      refine cVI (As := [.int (-1)]) (rest := []) F (c_X4_refuse l g x0 h0 d0 k0 b0 a0 t0 r0 r1 ik rn rf (-1) 1 (by decide) (by omega) (by omega)) kX4_refuse rfl gX4_told_X4_refuse rfl rfl ⟨Nat.le_of_ble_eq_true rfl, Nat.le_of_ble_eq_true rfl⟩ hP hD hS [0, 6] [1, 2, 3, 4, 5] rfl rfl 0 rfl rfl hl.1 rfl rfl (Nat.le_of_ble_eq_true rfl) dX4_told_16 ⟨Nat.le_of_ble_eq_true rfl, Nat.le_of_ble_eq_true rfl⟩ (fun rz w1 H locs hpo hP hD hS => ?_)
      obtain ⟨rfl, rfl⟩ := hpo
      obtain ⟨hP, hD⟩ := nx (ws' := [(x0, .inr (4, [.ref h0, .ref d0, .ref k0, .int (nI ik), .ref b0, .ref a0, .ref t0, .ref r0, .int (nI rn), .ref r1])), (h0, .inr (0, [.ref h1, .ref h2, .int (nI sk), .int (nI ek), .int (nI tr)])), (h1, .inl (eI g, 41, .inl (fun j => nI (W j)))), (h2, .inl (eI g, 5, .inl (fun j => nI (B j)))), (b0, .inr (1, [.ref b1, .int (nI n)])), (b1, .inl (eI g, 7, .inl (fun j => nI (q j)))), (r1, .inl (eI g, 7, .inl (bump rf 1)))]) hP hD [5, 0, 1, 2, 3, 4, 6] (ndB_ok _ rfl) rfl
      exact rtI F hP hD hS dX4_told_19 (by rw [show (if (1 ≤ x.toInt ∧ x.toInt ≤ 40) ∧ (1 ≤ y.toInt ∧ y.toInt ≤ 40) then 0 else 1) = 1 from (by (try simp only [ge_iff_le]); (repeat (first | rw [if_pos (by omega)] | rw [if_neg (by omega)])) <;> rfl)]; first | done | exact ⟨_, _, by first | rfl | (simp only [ge_iff_le]; done) | (simp only [ge_iff_le]; rfl), by first | rfl | (simp only [ge_iff_le]; done) | (simp only [ge_iff_le]; rfl)⟩)

theorem kX5_told : Cal yX5_told wsX5_told cX5_told 3 (some .int) 2 := ⟨⟨_, rfl⟩, by decide +kernel⟩
set_option maxHeartbeats 4000000 in
set_option maxRecDepth 100000 in
theorem c_X5_told (l : Launch) (g : EE) (m0 : Nat) (m1 : Nat) (m2 : Nat) (m3 : Nat) (m4 : Nat) (m5 : Nat) (m6 : Nat) (m7 : Nat) (m8 : Nat) (m9 : Nat) (m10 : Nat) (m11 : Nat) (m12 : Nat) (m13 : Nat) (m14 : Nat) (kp : Nat) (rn : Nat) (tn : Nat) (ia : Nat) (wl : Nat) (si : Nat) (S : Nat → Nat) (rf : Nat → Int32) (x : Int32) (y : Int32) (hO : okS S) : CI l yX5_told wsX5_told ({ frames := 4, cells := 0, slots := 0, locals := 90 }) g [.ref m0, .int x, .int y] [(m0, .inr (5, [.ref m1, .ref m2, .ref m3, .int (nI kp), .ref m4, .ref m5, .ref m6, .ref m7, .ref m8, .int (nI rn), .ref m9, .int (nI tn), .int (nI ia), .int (nI wl), .ref m10, .ref m11, .ref m12, .int (nI si), .ref m13, .ref m14])), (m1, .inl (eI g, 7, .inl rf)), (m2, .inl (eI g, 49, .inl (fun j => nI (S j))))] (fun (rz : Int32) (wz : va_W) => rz = (rsp (if (1 ≤ x.toInt ∧ x.toInt ≤ 40) ∧ (1 ≤ y.toInt ∧ y.toInt ≤ 40) then 0 else 1) (nI ((tlS S) x.toNatClampNeg y.toNatClampNeg))) ∧ wz = [(m0, .inr (5, [.ref m1, .ref m2, .ref m3, .int (nI kp), .ref m4, .ref m5, .ref m6, .ref m7, .ref m8, .int (nI rn), .ref m9, .int (nI tn), .int (nI ia), .int (nI wl), .ref m10, .ref m11, .ref m12, .int (nI si), .ref m13, .ref m14])), (m1, .inl (eI g, 7, .inl (bump rf (if (1 ≤ x.toInt ∧ x.toInt ≤ 40) ∧ (1 ≤ y.toInt ∧ y.toInt ≤ 40) then 0 else 1)))), (m2, .inl (eI g, 49, .inl (fun j => nI (S j))))]) 0 0 := by
  refine ctI (cc := cX5_told) (maxL := 3) (ret := (some .int)) (by decide) rfl (Nat.le_of_ble_eq_true rfl) ?_
  intro p_ e_ s_ m_ bl_ mt_ cd_ A ls F hnm hP hD hS hl
  obtain ⟨hx, hb, hml, hown, hts, hK, hX, hA, hrt_, hlocks⟩ := id F
  have hl : lv_has ls 3 [(0, .ref m0), (1, .int x), (2, .int y)] := hl
  obtain ⟨hw40, ⟨h41a, h41b⟩, ⟨h42a, h42b⟩, h43, h44, h45, h46, h47, h48⟩ := id hO
  refine lv_iload_n hx hb dX5_told_0 rfl (lv_at hl 1 rfl) ?_
  refine cSI (As := [.int x]) (rest := []) F (c_X5_isNoSecond l g x ) kX5_isNoSecond gX5_told_X5_isNoSecond rfl rfl ⟨Nat.le_of_ble_eq_true rfl, Nat.le_of_ble_eq_true rfl⟩ hP hD hS [] [0, 1, 2] rfl rfl hl.1 rfl rfl (Nat.le_of_ble_eq_true rfl) dX5_told_1 ⟨Nat.le_of_ble_eq_true rfl, Nat.le_of_ble_eq_true rfl⟩ (fun rz w1 H locs hpo hP hD hS => ?_)
  obtain ⟨rfl, rfl⟩ := hpo
  obtain ⟨hP, hD⟩ := nx (ws' := [(m0, .inr (5, [.ref m1, .ref m2, .ref m3, .int (nI kp), .ref m4, .ref m5, .ref m6, .ref m7, .ref m8, .int (nI rn), .ref m9, .int (nI tn), .int (nI ia), .int (nI wl), .ref m10, .ref m11, .ref m12, .int (nI si), .ref m13, .ref m14])), (m1, .inl (eI g, 7, .inl rf)), (m2, .inl (eI g, 49, .inl (fun j => nI (S j))))]) hP hD [0, 1, 2] (ndB_ok _ rfl) rfl
  refine bqne (tgt := 14) hx hb dX5_told_4 (by decide) (fun c4 => ?_) (fun c4 => ?_)
  · skip
    refine lv_aload_n hx hb dX5_told_14 rfl (lv_at hl 0 rfl) ?_
    refine lv_iconst (v := (-1)) hx hb dX5_told_15 (by decide) ?_
    refine cVI (As := [.int (-1)]) (rest := []) F (c_X5_no l g m0 m1 m2 m3 m4 m5 m6 m7 m8 m9 m10 m11 m12 m13 m14 kp rn tn ia wl si rf (-1) 1 (by decide) (by omega) (by omega)) kX5_no rfl gX5_told_X5_no rfl rfl ⟨Nat.le_of_ble_eq_true rfl, Nat.le_of_ble_eq_true rfl⟩ hP hD hS [0, 1] [2] rfl rfl 0 rfl rfl hl.1 rfl rfl (Nat.le_of_ble_eq_true rfl) dX5_told_16 ⟨Nat.le_of_ble_eq_true rfl, Nat.le_of_ble_eq_true rfl⟩ (fun rz w1 H locs hpo hP hD hS => ?_)
    obtain ⟨rfl, rfl⟩ := hpo
    obtain ⟨hP, hD⟩ := nx (ws' := [(m0, .inr (5, [.ref m1, .ref m2, .ref m3, .int (nI kp), .ref m4, .ref m5, .ref m6, .ref m7, .ref m8, .int (nI rn), .ref m9, .int (nI tn), .int (nI ia), .int (nI wl), .ref m10, .ref m11, .ref m12, .int (nI si), .ref m13, .ref m14])), (m1, .inl (eI g, 7, .inl (bump rf 1))), (m2, .inl (eI g, 49, .inl (fun j => nI (S j))))]) hP hD [1, 2, 0] (ndB_ok _ rfl) rfl
    refine lv_goto (tgt := 28) hx hb dX5_told_19 (by decide) ?_
    exact rtI F hP hD hS dX5_told_28 (by rw [show (if (1 ≤ x.toInt ∧ x.toInt ≤ 40) ∧ (1 ≤ y.toInt ∧ y.toInt ≤ 40) then 0 else 1) = 1 from (by (try simp only [ge_iff_le]); (repeat (first | rw [if_pos (by omega)] | rw [if_neg (by omega)])) <;> rfl)]; first | done | exact ⟨by first | rfl | (simp only [ge_iff_le]; done) | (simp only [ge_iff_le]; rfl), by first | rfl | (simp only [ge_iff_le]; done) | (simp only [ge_iff_le]; rfl)⟩)
  · skip
    refine lv_iload_n hx hb dX5_told_7 rfl (lv_at hl 2 rfl) ?_
    refine cSI (As := [.int y]) (rest := []) F (c_X5_isNoSecond l g y ) kX5_isNoSecond gX5_told_X5_isNoSecond rfl rfl ⟨Nat.le_of_ble_eq_true rfl, Nat.le_of_ble_eq_true rfl⟩ hP hD hS [] [0, 1, 2] rfl rfl hl.1 rfl rfl (Nat.le_of_ble_eq_true rfl) dX5_told_8 ⟨Nat.le_of_ble_eq_true rfl, Nat.le_of_ble_eq_true rfl⟩ (fun rz w1 H locs hpo hP hD hS => ?_)
    obtain ⟨rfl, rfl⟩ := hpo
    obtain ⟨hP, hD⟩ := nx (ws' := [(m0, .inr (5, [.ref m1, .ref m2, .ref m3, .int (nI kp), .ref m4, .ref m5, .ref m6, .ref m7, .ref m8, .int (nI rn), .ref m9, .int (nI tn), .int (nI ia), .int (nI wl), .ref m10, .ref m11, .ref m12, .int (nI si), .ref m13, .ref m14])), (m1, .inl (eI g, 7, .inl rf)), (m2, .inl (eI g, 49, .inl (fun j => nI (S j))))]) hP hD [0, 1, 2] (ndB_ok _ rfl) rfl
    refine bqeq (tgt := 22) hx hb dX5_told_11 (by decide) (fun c11 => ?_) (fun c11 => ?_)
    · skip
      obtain ⟨k, hk_, rfl⟩ := natOf (x := x) (by omega)
      rw [nI_tI hk_] at c4
      obtain ⟨k2, hk2_, rfl⟩ := natOf (x := y) (by omega)
      rw [nI_tI hk2_] at c11
      refine lv_aload_n hx hb dX5_told_22 rfl (lv_at hl 0 rfl) ?_
      refine lv_iload_n hx hb dX5_told_23 rfl (lv_at hl 1 rfl) ?_
      refine lv_iload_n hx hb dX5_told_24 rfl (lv_at hl 2 rfl) ?_
      refine cVI (As := [.int (nI k), .int (nI k2)]) (rest := []) F (c_X5_tells l g m0 m1 m2 m3 m4 m5 m6 m7 m8 m9 m10 m11 m12 m13 m14 kp rn tn ia wl si S k k2 (hO) (by omega) (by omega)) kX5_tells rfl gX5_told_X5_tells rfl rfl ⟨Nat.le_of_ble_eq_true rfl, Nat.le_of_ble_eq_true rfl⟩ hP hD hS [0, 2] [1] rfl rfl 0 rfl rfl hl.1 rfl rfl (Nat.le_of_ble_eq_true rfl) dX5_told_25 ⟨Nat.le_of_ble_eq_true rfl, Nat.le_of_ble_eq_true rfl⟩ (fun rz w1 H locs hpo hP hD hS => ?_)
      obtain ⟨rfl, rfl⟩ := hpo
      obtain ⟨hP, hD⟩ := nx (ws' := [(m0, .inr (5, [.ref m1, .ref m2, .ref m3, .int (nI kp), .ref m4, .ref m5, .ref m6, .ref m7, .ref m8, .int (nI rn), .ref m9, .int (nI tn), .int (nI ia), .int (nI wl), .ref m10, .ref m11, .ref m12, .int (nI si), .ref m13, .ref m14])), (m1, .inl (eI g, 7, .inl rf)), (m2, .inl (eI g, 49, .inl (fun j => nI (S j))))]) hP hD [1, 0, 2] (ndB_ok _ rfl) rfl
      exact rtI F hP hD hS dX5_told_28 (by rw [show (if (1 ≤ (nI k).toInt ∧ (nI k).toInt ≤ 40) ∧ (1 ≤ (nI k2).toInt ∧ (nI k2).toInt ≤ 40) then 0 else 1) = 0 from (by (try simp only [nI_tI hk_, nI_tI hk2_]); (repeat (first | rw [if_pos (by omega)] | rw [if_neg (by omega)])) <;> rfl)]; first | done | exact ⟨by first | rfl | (simp only [nI_clamp hk_, nI_clamp hk2_]; done) | (simp only [nI_clamp hk_, nI_clamp hk2_]; rfl), by first | rfl | (simp only [nI_clamp hk_, nI_clamp hk2_]; done) | (simp only [nI_clamp hk_, nI_clamp hk2_]; rfl)⟩)
    · skip
      refine lv_aload_n hx hb dX5_told_14 rfl (lv_at hl 0 rfl) ?_
      refine lv_iconst (v := (-1)) hx hb dX5_told_15 (by decide) ?_
      refine cVI (As := [.int (-1)]) (rest := []) F (c_X5_no l g m0 m1 m2 m3 m4 m5 m6 m7 m8 m9 m10 m11 m12 m13 m14 kp rn tn ia wl si rf (-1) 1 (by decide) (by omega) (by omega)) kX5_no rfl gX5_told_X5_no rfl rfl ⟨Nat.le_of_ble_eq_true rfl, Nat.le_of_ble_eq_true rfl⟩ hP hD hS [0, 1] [2] rfl rfl 0 rfl rfl hl.1 rfl rfl (Nat.le_of_ble_eq_true rfl) dX5_told_16 ⟨Nat.le_of_ble_eq_true rfl, Nat.le_of_ble_eq_true rfl⟩ (fun rz w1 H locs hpo hP hD hS => ?_)
      obtain ⟨rfl, rfl⟩ := hpo
      obtain ⟨hP, hD⟩ := nx (ws' := [(m0, .inr (5, [.ref m1, .ref m2, .ref m3, .int (nI kp), .ref m4, .ref m5, .ref m6, .ref m7, .ref m8, .int (nI rn), .ref m9, .int (nI tn), .int (nI ia), .int (nI wl), .ref m10, .ref m11, .ref m12, .int (nI si), .ref m13, .ref m14])), (m1, .inl (eI g, 7, .inl (bump rf 1))), (m2, .inl (eI g, 49, .inl (fun j => nI (S j))))]) hP hD [1, 2, 0] (ndB_ok _ rfl) rfl
      refine lv_goto (tgt := 28) hx hb dX5_told_19 (by decide) ?_
      exact rtI F hP hD hS dX5_told_28 (by rw [show (if (1 ≤ x.toInt ∧ x.toInt ≤ 40) ∧ (1 ≤ y.toInt ∧ y.toInt ≤ 40) then 0 else 1) = 1 from (by (try simp only [ge_iff_le]); (repeat (first | rw [if_pos (by omega)] | rw [if_neg (by omega)])) <;> rfl)]; first | done | exact ⟨by first | rfl | (simp only [ge_iff_le]; done) | (simp only [ge_iff_le]; rfl), by first | rfl | (simp only [ge_iff_le]; done) | (simp only [ge_iff_le]; rfl)⟩)

theorem inX4_image_X4 : ∀ w ∈ u_ws RX4 TX4 10, w ∈ wsX4_image := fun _ h => (List.mem_cons_of_mem _ (List.mem_append_left _ (List.mem_append_right _ h)))
theorem lkX4_image_1 : Cond.fieldLink RX4 19 "StripInFiveSteps" "kept" "LStripInFiveSteps$Shed;" ∈ wsX4_image := List.mem_of_getElem? (i := 1) rfl
theorem lkX4_image_2 : Cond.fieldLink RX4 10 "StripInFiveSteps" "now" "LStripInFiveSteps$Shed;" ∈ wsX4_image := List.mem_of_getElem? (i := 2) rfl
theorem lkX4_image_3 : Cond.fieldLink RX4 22 "StripInFiveSteps" "imageTaken" "Z" ∈ wsX4_image := List.mem_of_getElem? (i := 3) rfl
theorem kX4_image : Cal yX4_image wsX4_image cX4_image 1 (some .int) 0 := ⟨⟨_, rfl⟩, by decide +kernel⟩
set_option maxHeartbeats 4000000 in
set_option maxRecDepth 100000 in
theorem c_X4_image (l : Launch) (g : EE) (x0 : Nat) (h0 : Nat) (d0 : Nat) (k0 : Nat) (b0 : Nat) (a0 : Nat) (t0 : Nat) (r0 : Nat) (r1 : Nat) (ik : Nat) (rn : Nat) (h1 : Nat) (h2 : Nat) (W : Nat → Nat) (B : Nat → Nat) (sk : Nat) (ek : Nat) (tr : Nat) (k1 : Nat) (k2 : Nat) (Wk : Nat → Nat) (Bk : Nat → Nat) (skk : Nat) (ekk : Nat) (trk : Nat) (hW : ∀ j, W j ≤ 9) (hk0 : Wk 0 = W 0) : CI l yX4_image wsX4_image ({ frames := 2, cells := 0, slots := 0, locals := 42 }) g [.ref x0] [(x0, .inr (4, [.ref h0, .ref d0, .ref k0, .int (nI ik), .ref b0, .ref a0, .ref t0, .ref r0, .int (nI rn), .ref r1])), (h0, .inr (0, [.ref h1, .ref h2, .int (nI sk), .int (nI ek), .int (nI tr)])), (h1, .inl (eI g, 41, .inl (fun j => nI (W j)))), (h2, .inl (eI g, 5, .inl (fun j => nI (B j)))), (k0, .inr (0, [.ref k1, .ref k2, .int (nI skk), .int (nI ekk), .int (nI trk)])), (k1, .inl (eI g, 41, .inl (fun j => nI (Wk j)))), (k2, .inl (eI g, 5, .inl (fun j => nI (Bk j))))] (fun (rz : Int32) (wz : va_W) => rz = (nI (cnS (lpB W))) ∧ wz = [(x0, .inr (4, [.ref h0, .ref d0, .ref k0, .int (nI 1), .ref b0, .ref a0, .ref t0, .ref r0, .int (nI rn), .ref r1])), (h0, .inr (0, [.ref h1, .ref h2, .int (nI sk), .int (nI ek), .int (nI tr)])), (h1, .inl (eI g, 41, .inl (fun j => nI (W j)))), (h2, .inl (eI g, 5, .inl (fun j => nI (B j)))), (k0, .inr (0, [.ref k1, .ref k2, .int (nI sk), .int (nI ek), .int (nI tr)])), (k1, .inl (eI g, 41, .inl (fun j => nI (W j)))), (k2, .inl (eI g, 5, .inl (fun j => nI (B j))))]) 0 0 := by
  refine ctI (cc := cX4_image) (maxL := 1) (ret := (some .int)) (by decide) rfl (Nat.le_of_ble_eq_true rfl) ?_
  intro p_ e_ s_ m_ bl_ mt_ cd_ A ls F hnm hP hD hS hl
  obtain ⟨hx, hb, hml, hown, hts, hK, hX, hA, hrt_, hlocks⟩ := id F
  have hl : lv_has ls 1 [(0, .ref x0)] := hl
  refine lv_aload_n hx hb dX4_image_0 rfl (lv_at hl 0 rfl) ?_
  refine xget F hP inX4_image_X4 0 rfl rfl 2 (by decide) lkX4_image_1 rfl dX4_image_1 ?_
  refine lv_aload_n hx hb dX4_image_4 rfl (lv_at hl 0 rfl) ?_
  refine xget F hP inX4_image_X4 0 rfl rfl 0 (by decide) lkX4_image_2 rfl dX4_image_5 ?_
  refine cVV (As := [.ref h0]) (rest := []) F (c_X0_copyFrom l g k0 k1 k2 Wk Bk skk ekk trk h0 h1 h2 W B sk ek tr (hk0)) kX0_copyFrom rfl gX4_image_X0_copyFrom rfl rfl ⟨Nat.le_of_ble_eq_true rfl, Nat.le_of_ble_eq_true rfl⟩ hP hD hS [4, 5, 6, 1, 2, 3] [0] rfl rfl 0 rfl rfl hl.1 rfl rfl (Nat.le_of_ble_eq_true rfl) dX4_image_8 ⟨Nat.le_of_ble_eq_true rfl, Nat.le_of_ble_eq_true rfl⟩ (fun w1 H locs hpo hP hD hS => ?_)
  subst hpo
  obtain ⟨hP, hD⟩ := nx (ws' := [(x0, .inr (4, [.ref h0, .ref d0, .ref k0, .int (nI ik), .ref b0, .ref a0, .ref t0, .ref r0, .int (nI rn), .ref r1])), (h0, .inr (0, [.ref h1, .ref h2, .int (nI sk), .int (nI ek), .int (nI tr)])), (h1, .inl (eI g, 41, .inl (fun j => nI (W j)))), (h2, .inl (eI g, 5, .inl (fun j => nI (B j)))), (k0, .inr (0, [.ref k1, .ref k2, .int (nI sk), .int (nI ek), .int (nI tr)])), (k1, .inl (eI g, 41, .inl (fun j => nI (W j)))), (k2, .inl (eI g, 5, .inl (fun j => nI (B j))))]) hP hD [0, 4, 5, 6, 1, 2, 3] (ndB_ok _ rfl) rfl
  refine lv_aload_n hx hb dX4_image_11 rfl (lv_at hl 0 rfl) ?_
  refine lv_iconst (v := (nI 1)) hx hb dX4_image_12 (by decide) ?_
  refine xput F hP hD hS inX4_image_X4 tyX4 tyX4_ok nmX4 0 rfl rfl 3 (by decide) lkX4_image_3 rfl rfl rfl (Nat.le_of_ble_eq_true rfl) dX4_image_13 (fun H locs hP hD hS => ?_)
  have hP : va_P (eD g) vwCl [(x0, .inr (4, [.ref h0, .ref d0, .ref k0, .int (nI 1), .ref b0, .ref a0, .ref t0, .ref r0, .int (nI rn), .ref r1])), (h0, .inr (0, [.ref h1, .ref h2, .int (nI sk), .int (nI ek), .int (nI tr)])), (h1, .inl (eI g, 41, .inl (fun j => nI (W j)))), (h2, .inl (eI g, 5, .inl (fun j => nI (B j)))), (k0, .inr (0, [.ref k1, .ref k2, .int (nI sk), .int (nI ek), .int (nI tr)])), (k1, .inl (eI g, 41, .inl (fun j => nI (W j)))), (k2, .inl (eI g, 5, .inl (fun j => nI (B j))))] H := hP
  have hD : va_D A [(x0, .inr (4, [.ref h0, .ref d0, .ref k0, .int (nI 1), .ref b0, .ref a0, .ref t0, .ref r0, .int (nI rn), .ref r1])), (h0, .inr (0, [.ref h1, .ref h2, .int (nI sk), .int (nI ek), .int (nI tr)])), (h1, .inl (eI g, 41, .inl (fun j => nI (W j)))), (h2, .inl (eI g, 5, .inl (fun j => nI (B j)))), (k0, .inr (0, [.ref k1, .ref k2, .int (nI sk), .int (nI ek), .int (nI tr)])), (k1, .inl (eI g, 41, .inl (fun j => nI (W j)))), (k2, .inl (eI g, 5, .inl (fun j => nI (B j))))] := hD
  refine lv_aload_n hx hb dX4_image_16 rfl (lv_at hl 0 rfl) ?_
  refine xget F hP inX4_image_X4 0 rfl rfl 0 (by decide) lkX4_image_2 rfl dX4_image_17 ?_
  refine cVL (As := []) (rest := []) F (c_X0_left l g h0 h1 h2 W B sk ek tr (hW)) kX0_left rfl gX4_image_X0_left rfl rfl ⟨Nat.le_of_ble_eq_true rfl, Nat.le_of_ble_eq_true rfl⟩ hP hD hS [1, 2, 3] [0, 4, 5, 6] rfl rfl 0 rfl rfl hl.1 rfl rfl (Nat.le_of_ble_eq_true rfl) dX4_image_20 ⟨Nat.le_of_ble_eq_true rfl, Nat.le_of_ble_eq_true rfl⟩ (fun rz w1 H locs hpo hP hD hS => ?_)
  obtain ⟨rfl, rfl⟩ := hpo
  obtain ⟨hP, hD⟩ := nx (ws' := [(x0, .inr (4, [.ref h0, .ref d0, .ref k0, .int (nI 1), .ref b0, .ref a0, .ref t0, .ref r0, .int (nI rn), .ref r1])), (h0, .inr (0, [.ref h1, .ref h2, .int (nI sk), .int (nI ek), .int (nI tr)])), (h1, .inl (eI g, 41, .inl (fun j => nI (W j)))), (h2, .inl (eI g, 5, .inl (fun j => nI (B j)))), (k0, .inr (0, [.ref k1, .ref k2, .int (nI sk), .int (nI ek), .int (nI tr)])), (k1, .inl (eI g, 41, .inl (fun j => nI (W j)))), (k2, .inl (eI g, 5, .inl (fun j => nI (B j))))]) hP hD [0, 4, 5, 6, 1, 2, 3] (ndB_ok _ rfl) rfl
  refine cSI (As := [.long (lfM W)]) (rest := []) F (c_X4_size l g (lfM W) (inS_lf W)) kX4_size gX4_image_X4_size rfl rfl ⟨Nat.le_of_ble_eq_true rfl, Nat.le_of_ble_eq_true rfl⟩ hP hD hS [] [0, 1, 2, 3, 4, 5, 6] rfl rfl hl.1 rfl rfl (Nat.le_of_ble_eq_true rfl) dX4_image_23 ⟨Nat.le_of_ble_eq_true rfl, Nat.le_of_ble_eq_true rfl⟩ (fun rz w1 H locs hpo hP hD hS => ?_)
  obtain ⟨rfl, rfl⟩ := hpo
  obtain ⟨hP, hD⟩ := nx (ws' := [(x0, .inr (4, [.ref h0, .ref d0, .ref k0, .int (nI 1), .ref b0, .ref a0, .ref t0, .ref r0, .int (nI rn), .ref r1])), (h0, .inr (0, [.ref h1, .ref h2, .int (nI sk), .int (nI ek), .int (nI tr)])), (h1, .inl (eI g, 41, .inl (fun j => nI (W j)))), (h2, .inl (eI g, 5, .inl (fun j => nI (B j)))), (k0, .inr (0, [.ref k1, .ref k2, .int (nI sk), .int (nI ek), .int (nI tr)])), (k1, .inl (eI g, 41, .inl (fun j => nI (W j)))), (k2, .inl (eI g, 5, .inl (fun j => nI (B j))))]) hP hD [0, 1, 2, 3, 4, 5, 6] (ndB_ok _ rfl) rfl
  exact rtI F hP hD hS dX4_image_26 (⟨by rw [bitL_lfM], rfl⟩)

theorem inX5_image_X5 : ∀ w ∈ u_ws RX5 TX5 20, w ∈ wsX5_image := fun _ h => (List.mem_cons_of_mem _ (List.mem_append_right _ h))
theorem lkX5_image_1 : Cond.fieldLink RX5 59 "StripInFiveStepsModel" "kept" "Z" ∈ wsX5_image := List.mem_of_getElem? (i := 1) rfl
theorem lkX5_image_2 : Cond.fieldLink RX5 19 "StripInFiveStepsModel" "now" "[I" ∈ wsX5_image := List.mem_of_getElem? (i := 2) rfl
theorem lkX5_image_3 : Cond.fieldLink RX5 22 "StripInFiveStepsModel" "then" "[I" ∈ wsX5_image := List.mem_of_getElem? (i := 3) rfl
theorem kX5_image : Cal yX5_image wsX5_image cX5_image 1 (some .int) 0 := ⟨⟨_, rfl⟩, by decide +kernel⟩
set_option maxHeartbeats 4000000 in
set_option maxRecDepth 100000 in
theorem c_X5_image (l : Launch) (g : EE) (m0 : Nat) (m1 : Nat) (m2 : Nat) (m3 : Nat) (m4 : Nat) (m5 : Nat) (m6 : Nat) (m7 : Nat) (m8 : Nat) (m9 : Nat) (m10 : Nat) (m11 : Nat) (m12 : Nat) (m13 : Nat) (m14 : Nat) (kp : Nat) (rn : Nat) (tn : Nat) (ia : Nat) (wl : Nat) (si : Nat) (S : Nat → Nat) (S2 : Nat → Nat) (hO : okS S) : CI l yX5_image wsX5_image ({ frames := 1, cells := 0, slots := 0, locals := 22 }) g [.ref m0] [(m0, .inr (5, [.ref m1, .ref m2, .ref m3, .int (nI kp), .ref m4, .ref m5, .ref m6, .ref m7, .ref m8, .int (nI rn), .ref m9, .int (nI tn), .int (nI ia), .int (nI wl), .ref m10, .ref m11, .ref m12, .int (nI si), .ref m13, .ref m14])), (m2, .inl (eI g, 49, .inl (fun j => nI (S j)))), (m3, .inl (eI g, 49, .inl (fun j => nI (S2 j))))] (fun (rz : Int32) (wz : va_W) => rz = (nI (cnS (lpB S))) ∧ wz = [(m0, .inr (5, [.ref m1, .ref m2, .ref m3, .int (nI 1), .ref m4, .ref m5, .ref m6, .ref m7, .ref m8, .int (nI rn), .ref m9, .int (nI tn), .int (nI ia), .int (nI wl), .ref m10, .ref m11, .ref m12, .int (nI si), .ref m13, .ref m14])), (m2, .inl (eI g, 49, .inl (fun j => nI (S j)))), (m3, .inl (eI g, 49, .inl (fun j => nI (S j))))]) 0 0 := by
  refine ctI (cc := cX5_image) (maxL := 1) (ret := (some .int)) (by decide) rfl (Nat.le_of_ble_eq_true rfl) ?_
  intro p_ e_ s_ m_ bl_ mt_ cd_ A ls F hnm hP hD hS hl
  obtain ⟨hx, hb, hml, hown, hts, hK, hX, hA, hrt_, hlocks⟩ := id F
  have hl : lv_has ls 1 [(0, .ref m0)] := hl
  refine lv_aload_n hx hb dX5_image_0 rfl (lv_at hl 0 rfl) ?_
  refine lv_iconst (v := (nI 1)) hx hb dX5_image_1 (by decide) ?_
  refine xput F hP hD hS inX5_image_X5 tyX5 tyX5_ok nmX5 0 rfl rfl 3 (by decide) lkX5_image_1 rfl rfl rfl (Nat.le_of_ble_eq_true rfl) dX5_image_2 (fun H locs hP hD hS => ?_)
  have hP : va_P (eD g) vwCl [(m0, .inr (5, [.ref m1, .ref m2, .ref m3, .int (nI 1), .ref m4, .ref m5, .ref m6, .ref m7, .ref m8, .int (nI rn), .ref m9, .int (nI tn), .int (nI ia), .int (nI wl), .ref m10, .ref m11, .ref m12, .int (nI si), .ref m13, .ref m14])), (m2, .inl (eI g, 49, .inl (fun j => nI (S j)))), (m3, .inl (eI g, 49, .inl (fun j => nI (S2 j))))] H := hP
  have hD : va_D A [(m0, .inr (5, [.ref m1, .ref m2, .ref m3, .int (nI 1), .ref m4, .ref m5, .ref m6, .ref m7, .ref m8, .int (nI rn), .ref m9, .int (nI tn), .int (nI ia), .int (nI wl), .ref m10, .ref m11, .ref m12, .int (nI si), .ref m13, .ref m14])), (m2, .inl (eI g, 49, .inl (fun j => nI (S j)))), (m3, .inl (eI g, 49, .inl (fun j => nI (S2 j))))] := hD
  refine lv_aload_n hx hb dX5_image_5 rfl (lv_at hl 0 rfl) ?_
  refine xget F hP inX5_image_X5 0 rfl rfl 1 (by decide) lkX5_image_2 rfl dX5_image_6 ?_
  refine lv_aload_n hx hb dX5_image_9 rfl (lv_at hl 0 rfl) ?_
  refine xget F hP inX5_image_X5 0 rfl rfl 2 (by decide) lkX5_image_3 rfl dX5_image_10 ?_
  refine cSV (As := [.ref m2, .ref m3]) (rest := []) F (c_X5_move l g m2 m3 S S2 ) kX5_move gX5_image_X5_move rfl rfl ⟨Nat.le_of_ble_eq_true rfl, Nat.le_of_ble_eq_true rfl⟩ hP hD hS [1, 2] [0] rfl rfl hl.1 rfl rfl (Nat.le_of_ble_eq_true rfl) dX5_image_13 ⟨Nat.le_of_ble_eq_true rfl, Nat.le_of_ble_eq_true rfl⟩ (fun w1 H locs hpo hP hD hS => ?_)
  subst hpo
  obtain ⟨hP, hD⟩ := nx (ws' := [(m0, .inr (5, [.ref m1, .ref m2, .ref m3, .int (nI 1), .ref m4, .ref m5, .ref m6, .ref m7, .ref m8, .int (nI rn), .ref m9, .int (nI tn), .int (nI ia), .int (nI wl), .ref m10, .ref m11, .ref m12, .int (nI si), .ref m13, .ref m14])), (m2, .inl (eI g, 49, .inl (fun j => nI (S j)))), (m3, .inl (eI g, 49, .inl (fun j => nI (S j))))]) hP hD [0, 1, 2] (ndB_ok _ rfl) rfl
  refine lv_aload_n hx hb dX5_image_16 rfl (lv_at hl 0 rfl) ?_
  refine xget F hP inX5_image_X5 0 rfl rfl 1 (by decide) lkX5_image_2 rfl dX5_image_17 ?_
  refine cSI (As := [.ref m2]) (rest := []) F (c_X5_left l g m2 S (hO.1)) kX5_left gX5_image_X5_left rfl rfl ⟨Nat.le_of_ble_eq_true rfl, Nat.le_of_ble_eq_true rfl⟩ hP hD hS [1] [0, 2] rfl rfl hl.1 rfl rfl (Nat.le_of_ble_eq_true rfl) dX5_image_20 ⟨Nat.le_of_ble_eq_true rfl, Nat.le_of_ble_eq_true rfl⟩ (fun rz w1 H locs hpo hP hD hS => ?_)
  obtain ⟨rfl, rfl⟩ := hpo
  obtain ⟨hP, hD⟩ := nx (ws' := [(m0, .inr (5, [.ref m1, .ref m2, .ref m3, .int (nI 1), .ref m4, .ref m5, .ref m6, .ref m7, .ref m8, .int (nI rn), .ref m9, .int (nI tn), .int (nI ia), .int (nI wl), .ref m10, .ref m11, .ref m12, .int (nI si), .ref m13, .ref m14])), (m2, .inl (eI g, 49, .inl (fun j => nI (S j)))), (m3, .inl (eI g, 49, .inl (fun j => nI (S j))))]) hP hD [0, 2, 1] (ndB_ok _ rfl) rfl
  exact rtI F hP hD hS dX5_image_23 (⟨rfl, rfl⟩)

theorem inX4_on_X4 : ∀ w ∈ u_ws RX4 TX4 10, w ∈ wsX4_on := fun _ h => (List.mem_cons_of_mem _ (List.mem_append_left _ (List.mem_append_right _ h)))
theorem lkX4_on_1 : Cond.fieldLink RX4 22 "StripInFiveSteps" "imageTaken" "Z" ∈ wsX4_on := List.mem_of_getElem? (i := 1) rfl
theorem lkX4_on_2 : Cond.fieldLink RX4 10 "StripInFiveSteps" "now" "LStripInFiveSteps$Shed;" ∈ wsX4_on := List.mem_of_getElem? (i := 2) rfl
theorem lkX4_on_3 : Cond.fieldLink RX4 19 "StripInFiveSteps" "kept" "LStripInFiveSteps$Shed;" ∈ wsX4_on := List.mem_of_getElem? (i := 3) rfl
theorem kX4_on : Cal yX4_on wsX4_on cX4_on 1 (some .int) 0 := ⟨⟨_, rfl⟩, by decide +kernel⟩
set_option maxHeartbeats 4000000 in
set_option maxRecDepth 100000 in
theorem c_X4_on (l : Launch) (g : EE) (x0 : Nat) (h0 : Nat) (d0 : Nat) (k0 : Nat) (b0 : Nat) (a0 : Nat) (t0 : Nat) (r0 : Nat) (r1 : Nat) (ik : Nat) (rn : Nat) (h1 : Nat) (h2 : Nat) (W : Nat → Nat) (B : Nat → Nat) (sk : Nat) (ek : Nat) (tr : Nat) (k1 : Nat) (k2 : Nat) (Wk : Nat → Nat) (Bk : Nat → Nat) (skk : Nat) (ekk : Nat) (trk : Nat) (rf : Nat → Int32) (hWk : ∀ j, Wk j ≤ 9) (hk0 : W 0 = Wk 0) (hik : ik ≤ 1) : CI l yX4_on wsX4_on ({ frames := 2, cells := 0, slots := 0, locals := 42 }) g [.ref x0] [(x0, .inr (4, [.ref h0, .ref d0, .ref k0, .int (nI ik), .ref b0, .ref a0, .ref t0, .ref r0, .int (nI rn), .ref r1])), (h0, .inr (0, [.ref h1, .ref h2, .int (nI sk), .int (nI ek), .int (nI tr)])), (h1, .inl (eI g, 41, .inl (fun j => nI (W j)))), (h2, .inl (eI g, 5, .inl (fun j => nI (B j)))), (k0, .inr (0, [.ref k1, .ref k2, .int (nI skk), .int (nI ekk), .int (nI trk)])), (k1, .inl (eI g, 41, .inl (fun j => nI (Wk j)))), (k2, .inl (eI g, 5, .inl (fun j => nI (Bk j)))), (r1, .inl (eI g, 7, .inl rf))] (fun (rz : Int32) (wz : va_W) => rz = (rsp (if ik = 0 then 3 else 0) (nI (cnS (lpB Wk)))) ∧ wz = [(x0, .inr (4, [.ref h0, .ref d0, .ref k0, .int (nI ik), .ref b0, .ref a0, .ref t0, .ref r0, .int (nI rn), .ref r1])), (h0, .inr (0, [.ref h1, .ref h2, .int (nI (if ik = 0 then sk else skk)), .int (nI (if ik = 0 then ek else ekk)), .int (nI (if ik = 0 then tr else trk))])), (h1, .inl (eI g, 41, .inl (fun j => nI ((if ik = 0 then W else Wk) j)))), (h2, .inl (eI g, 5, .inl (fun j => nI ((if ik = 0 then B else Bk) j)))), (k0, .inr (0, [.ref k1, .ref k2, .int (nI skk), .int (nI ekk), .int (nI trk)])), (k1, .inl (eI g, 41, .inl (fun j => nI (Wk j)))), (k2, .inl (eI g, 5, .inl (fun j => nI (Bk j)))), (r1, .inl (eI g, 7, .inl (bump rf (if ik = 0 then 3 else 0))))]) 0 0 := by
  refine ctI (cc := cX4_on) (maxL := 1) (ret := (some .int)) (by decide) rfl (Nat.le_of_ble_eq_true rfl) ?_
  intro p_ e_ s_ m_ bl_ mt_ cd_ A ls F hnm hP hD hS hl
  obtain ⟨hx, hb, hml, hown, hts, hK, hX, hA, hrt_, hlocks⟩ := id F
  have hl : lv_has ls 1 [(0, .ref x0)] := hl
  refine lv_aload_n hx hb dX4_on_0 rfl (lv_at hl 0 rfl) ?_
  refine xget F hP inX4_on_X4 0 rfl rfl 3 (by decide) lkX4_on_1 rfl dX4_on_1 ?_
  refine zne (tgt := 14) hx hb dX4_on_4 (by decide) (by omega) (fun c4 => ?_) (fun c4 => ?_)
  · skip
    refine lv_aload_n hx hb dX4_on_14 rfl (lv_at hl 0 rfl) ?_
    refine xget F hP inX4_on_X4 0 rfl rfl 0 (by decide) lkX4_on_2 rfl dX4_on_15 ?_
    refine lv_aload_n hx hb dX4_on_18 rfl (lv_at hl 0 rfl) ?_
    refine xget F hP inX4_on_X4 0 rfl rfl 2 (by decide) lkX4_on_3 rfl dX4_on_19 ?_
    refine cVV (As := [.ref k0]) (rest := []) F (c_X0_copyFrom l g h0 h1 h2 W B sk ek tr k0 k1 k2 Wk Bk skk ekk trk (hk0)) kX0_copyFrom rfl gX4_on_X0_copyFrom rfl rfl ⟨Nat.le_of_ble_eq_true rfl, Nat.le_of_ble_eq_true rfl⟩ hP hD hS [1, 2, 3, 4, 5, 6] [0, 7] rfl rfl 0 rfl rfl hl.1 rfl rfl (Nat.le_of_ble_eq_true rfl) dX4_on_22 ⟨Nat.le_of_ble_eq_true rfl, Nat.le_of_ble_eq_true rfl⟩ (fun w1 H locs hpo hP hD hS => ?_)
    subst hpo
    obtain ⟨hP, hD⟩ := nx (ws' := [(x0, .inr (4, [.ref h0, .ref d0, .ref k0, .int (nI ik), .ref b0, .ref a0, .ref t0, .ref r0, .int (nI rn), .ref r1])), (h0, .inr (0, [.ref h1, .ref h2, .int (nI skk), .int (nI ekk), .int (nI trk)])), (h1, .inl (eI g, 41, .inl (fun j => nI (Wk j)))), (h2, .inl (eI g, 5, .inl (fun j => nI (Bk j)))), (k0, .inr (0, [.ref k1, .ref k2, .int (nI skk), .int (nI ekk), .int (nI trk)])), (k1, .inl (eI g, 41, .inl (fun j => nI (Wk j)))), (k2, .inl (eI g, 5, .inl (fun j => nI (Bk j)))), (r1, .inl (eI g, 7, .inl rf))]) hP hD [0, 2, 3, 4, 5, 6, 7, 1] (ndB_ok _ rfl) rfl
    refine lv_aload_n hx hb dX4_on_25 rfl (lv_at hl 0 rfl) ?_
    refine xget F hP inX4_on_X4 0 rfl rfl 0 (by decide) lkX4_on_2 rfl dX4_on_26 ?_
    refine cVL (As := []) (rest := []) F (c_X0_left l g h0 h1 h2 Wk Bk skk ekk trk (hWk)) kX0_left rfl gX4_on_X0_left rfl rfl ⟨Nat.le_of_ble_eq_true rfl, Nat.le_of_ble_eq_true rfl⟩ hP hD hS [1, 2, 3] [0, 4, 5, 6, 7] rfl rfl 0 rfl rfl hl.1 rfl rfl (Nat.le_of_ble_eq_true rfl) dX4_on_29 ⟨Nat.le_of_ble_eq_true rfl, Nat.le_of_ble_eq_true rfl⟩ (fun rz w1 H locs hpo hP hD hS => ?_)
    obtain ⟨rfl, rfl⟩ := hpo
    obtain ⟨hP, hD⟩ := nx (ws' := [(x0, .inr (4, [.ref h0, .ref d0, .ref k0, .int (nI ik), .ref b0, .ref a0, .ref t0, .ref r0, .int (nI rn), .ref r1])), (h0, .inr (0, [.ref h1, .ref h2, .int (nI skk), .int (nI ekk), .int (nI trk)])), (h1, .inl (eI g, 41, .inl (fun j => nI (Wk j)))), (h2, .inl (eI g, 5, .inl (fun j => nI (Bk j)))), (k0, .inr (0, [.ref k1, .ref k2, .int (nI skk), .int (nI ekk), .int (nI trk)])), (k1, .inl (eI g, 41, .inl (fun j => nI (Wk j)))), (k2, .inl (eI g, 5, .inl (fun j => nI (Bk j)))), (r1, .inl (eI g, 7, .inl rf))]) hP hD [0, 5, 6, 7, 1, 2, 3, 4] (ndB_ok _ rfl) rfl
    refine cSI (As := [.long (lfM Wk)]) (rest := []) F (c_X4_size l g (lfM Wk) (inS_lf Wk)) kX4_size gX4_on_X4_size rfl rfl ⟨Nat.le_of_ble_eq_true rfl, Nat.le_of_ble_eq_true rfl⟩ hP hD hS [] [0, 1, 2, 3, 4, 5, 6, 7] rfl rfl hl.1 rfl rfl (Nat.le_of_ble_eq_true rfl) dX4_on_32 ⟨Nat.le_of_ble_eq_true rfl, Nat.le_of_ble_eq_true rfl⟩ (fun rz w1 H locs hpo hP hD hS => ?_)
    obtain ⟨rfl, rfl⟩ := hpo
    obtain ⟨hP, hD⟩ := nx (ws' := [(x0, .inr (4, [.ref h0, .ref d0, .ref k0, .int (nI ik), .ref b0, .ref a0, .ref t0, .ref r0, .int (nI rn), .ref r1])), (h0, .inr (0, [.ref h1, .ref h2, .int (nI skk), .int (nI ekk), .int (nI trk)])), (h1, .inl (eI g, 41, .inl (fun j => nI (Wk j)))), (h2, .inl (eI g, 5, .inl (fun j => nI (Bk j)))), (k0, .inr (0, [.ref k1, .ref k2, .int (nI skk), .int (nI ekk), .int (nI trk)])), (k1, .inl (eI g, 41, .inl (fun j => nI (Wk j)))), (k2, .inl (eI g, 5, .inl (fun j => nI (Bk j)))), (r1, .inl (eI g, 7, .inl rf))]) hP hD [0, 1, 2, 3, 4, 5, 6, 7] (ndB_ok _ rfl) rfl
    exact rtI F hP hD hS dX4_on_35 (by simp only [if_neg c4]; exact ⟨by rw [bitL_lfM]; rfl, rfl⟩)
  · skip
    refine lv_aload_n hx hb dX4_on_7 rfl (lv_at hl 0 rfl) ?_
    refine lv_bipush (v := (-3)) hx hb dX4_on_8 (by decide) ?_
    refine cVI (As := [.int (-3)]) (rest := []) F (c_X4_refuse l g x0 h0 d0 k0 b0 a0 t0 r0 r1 ik rn rf (-3) 3 (by decide) (by omega) (by omega)) kX4_refuse rfl gX4_on_X4_refuse rfl rfl ⟨Nat.le_of_ble_eq_true rfl, Nat.le_of_ble_eq_true rfl⟩ hP hD hS [0, 7] [1, 2, 3, 4, 5, 6] rfl rfl 0 rfl rfl hl.1 rfl rfl (Nat.le_of_ble_eq_true rfl) dX4_on_10 ⟨Nat.le_of_ble_eq_true rfl, Nat.le_of_ble_eq_true rfl⟩ (fun rz w1 H locs hpo hP hD hS => ?_)
    obtain ⟨rfl, rfl⟩ := hpo
    obtain ⟨hP, hD⟩ := nx (ws' := [(x0, .inr (4, [.ref h0, .ref d0, .ref k0, .int (nI ik), .ref b0, .ref a0, .ref t0, .ref r0, .int (nI rn), .ref r1])), (h0, .inr (0, [.ref h1, .ref h2, .int (nI sk), .int (nI ek), .int (nI tr)])), (h1, .inl (eI g, 41, .inl (fun j => nI (W j)))), (h2, .inl (eI g, 5, .inl (fun j => nI (B j)))), (k0, .inr (0, [.ref k1, .ref k2, .int (nI skk), .int (nI ekk), .int (nI trk)])), (k1, .inl (eI g, 41, .inl (fun j => nI (Wk j)))), (k2, .inl (eI g, 5, .inl (fun j => nI (Bk j)))), (r1, .inl (eI g, 7, .inl (bump rf 3)))]) hP hD [6, 0, 1, 2, 3, 4, 5, 7] (ndB_ok _ rfl) rfl
    exact rtI F hP hD hS dX4_on_13 (by simp only [if_pos c4]; refine ⟨?_, ?_⟩ <;> first | rfl | trivial)

theorem inX5_on_X5 : ∀ w ∈ u_ws RX5 TX5 20, w ∈ wsX5_on := fun _ h => (List.mem_cons_of_mem _ (List.mem_append_right _ h))
theorem lkX5_on_1 : Cond.fieldLink RX5 59 "StripInFiveStepsModel" "kept" "Z" ∈ wsX5_on := List.mem_of_getElem? (i := 1) rfl
theorem lkX5_on_2 : Cond.fieldLink RX5 22 "StripInFiveStepsModel" "then" "[I" ∈ wsX5_on := List.mem_of_getElem? (i := 2) rfl
theorem lkX5_on_3 : Cond.fieldLink RX5 19 "StripInFiveStepsModel" "now" "[I" ∈ wsX5_on := List.mem_of_getElem? (i := 3) rfl
theorem kX5_on : Cal yX5_on wsX5_on cX5_on 1 (some .int) 0 := ⟨⟨_, rfl⟩, by decide +kernel⟩
set_option maxHeartbeats 4000000 in
set_option maxRecDepth 100000 in
theorem c_X5_on (l : Launch) (g : EE) (m0 : Nat) (m1 : Nat) (m2 : Nat) (m3 : Nat) (m4 : Nat) (m5 : Nat) (m6 : Nat) (m7 : Nat) (m8 : Nat) (m9 : Nat) (m10 : Nat) (m11 : Nat) (m12 : Nat) (m13 : Nat) (m14 : Nat) (kp : Nat) (rn : Nat) (tn : Nat) (ia : Nat) (wl : Nat) (si : Nat) (S : Nat → Nat) (S2 : Nat → Nat) (rf : Nat → Int32) (hO2 : kp ≠ 0 → okS S2) (hkp : kp ≤ 1) : CI l yX5_on wsX5_on ({ frames := 1, cells := 0, slots := 0, locals := 22 }) g [.ref m0] [(m0, .inr (5, [.ref m1, .ref m2, .ref m3, .int (nI kp), .ref m4, .ref m5, .ref m6, .ref m7, .ref m8, .int (nI rn), .ref m9, .int (nI tn), .int (nI ia), .int (nI wl), .ref m10, .ref m11, .ref m12, .int (nI si), .ref m13, .ref m14])), (m1, .inl (eI g, 7, .inl rf)), (m2, .inl (eI g, 49, .inl (fun j => nI (S j)))), (m3, .inl (eI g, 49, .inl (fun j => nI (S2 j))))] (fun (rz : Int32) (wz : va_W) => rz = (rsp (if kp = 0 then 3 else 0) (nI (cnS (lpB S2)))) ∧ wz = [(m0, .inr (5, [.ref m1, .ref m2, .ref m3, .int (nI kp), .ref m4, .ref m5, .ref m6, .ref m7, .ref m8, .int (nI rn), .ref m9, .int (nI tn), .int (nI ia), .int (nI wl), .ref m10, .ref m11, .ref m12, .int (nI si), .ref m13, .ref m14])), (m1, .inl (eI g, 7, .inl (bump rf (if kp = 0 then 3 else 0)))), (m2, .inl (eI g, 49, .inl (fun j => nI ((if kp = 0 then S else S2) j)))), (m3, .inl (eI g, 49, .inl (fun j => nI (S2 j))))]) 0 0 := by
  refine ctI (cc := cX5_on) (maxL := 1) (ret := (some .int)) (by decide) rfl (Nat.le_of_ble_eq_true rfl) ?_
  intro p_ e_ s_ m_ bl_ mt_ cd_ A ls F hnm hP hD hS hl
  obtain ⟨hx, hb, hml, hown, hts, hK, hX, hA, hrt_, hlocks⟩ := id F
  have hl : lv_has ls 1 [(0, .ref m0)] := hl
  refine lv_aload_n hx hb dX5_on_0 rfl (lv_at hl 0 rfl) ?_
  refine xget F hP inX5_on_X5 0 rfl rfl 3 (by decide) lkX5_on_1 rfl dX5_on_1 ?_
  refine zne (tgt := 14) hx hb dX5_on_4 (by decide) (by omega) (fun c4 => ?_) (fun c4 => ?_)
  · skip
    refine lv_aload_n hx hb dX5_on_14 rfl (lv_at hl 0 rfl) ?_
    refine xget F hP inX5_on_X5 0 rfl rfl 2 (by decide) lkX5_on_2 rfl dX5_on_15 ?_
    refine lv_aload_n hx hb dX5_on_18 rfl (lv_at hl 0 rfl) ?_
    refine xget F hP inX5_on_X5 0 rfl rfl 1 (by decide) lkX5_on_3 rfl dX5_on_19 ?_
    refine cSV (As := [.ref m3, .ref m2]) (rest := []) F (c_X5_move l g m3 m2 S2 S ) kX5_move gX5_on_X5_move rfl rfl ⟨Nat.le_of_ble_eq_true rfl, Nat.le_of_ble_eq_true rfl⟩ hP hD hS [3, 2] [0, 1] rfl rfl hl.1 rfl rfl (Nat.le_of_ble_eq_true rfl) dX5_on_22 ⟨Nat.le_of_ble_eq_true rfl, Nat.le_of_ble_eq_true rfl⟩ (fun w1 H locs hpo hP hD hS => ?_)
    subst hpo
    obtain ⟨hP, hD⟩ := nx (ws' := [(m0, .inr (5, [.ref m1, .ref m2, .ref m3, .int (nI kp), .ref m4, .ref m5, .ref m6, .ref m7, .ref m8, .int (nI rn), .ref m9, .int (nI tn), .int (nI ia), .int (nI wl), .ref m10, .ref m11, .ref m12, .int (nI si), .ref m13, .ref m14])), (m1, .inl (eI g, 7, .inl rf)), (m2, .inl (eI g, 49, .inl (fun j => nI (S2 j)))), (m3, .inl (eI g, 49, .inl (fun j => nI (S2 j))))]) hP hD [0, 1, 3, 2] (ndB_ok _ rfl) rfl
    refine lv_aload_n hx hb dX5_on_25 rfl (lv_at hl 0 rfl) ?_
    refine xget F hP inX5_on_X5 0 rfl rfl 1 (by decide) lkX5_on_3 rfl dX5_on_26 ?_
    refine cSI (As := [.ref m2]) (rest := []) F (c_X5_left l g m2 S2 ((hO2 c4).1)) kX5_left gX5_on_X5_left rfl rfl ⟨Nat.le_of_ble_eq_true rfl, Nat.le_of_ble_eq_true rfl⟩ hP hD hS [2] [0, 1, 3] rfl rfl hl.1 rfl rfl (Nat.le_of_ble_eq_true rfl) dX5_on_29 ⟨Nat.le_of_ble_eq_true rfl, Nat.le_of_ble_eq_true rfl⟩ (fun rz w1 H locs hpo hP hD hS => ?_)
    obtain ⟨rfl, rfl⟩ := hpo
    obtain ⟨hP, hD⟩ := nx (ws' := [(m0, .inr (5, [.ref m1, .ref m2, .ref m3, .int (nI kp), .ref m4, .ref m5, .ref m6, .ref m7, .ref m8, .int (nI rn), .ref m9, .int (nI tn), .int (nI ia), .int (nI wl), .ref m10, .ref m11, .ref m12, .int (nI si), .ref m13, .ref m14])), (m1, .inl (eI g, 7, .inl rf)), (m2, .inl (eI g, 49, .inl (fun j => nI (S2 j)))), (m3, .inl (eI g, 49, .inl (fun j => nI (S2 j))))]) hP hD [0, 1, 3, 2] (ndB_ok _ rfl) rfl
    exact rtI F hP hD hS dX5_on_32 (by simp only [if_neg c4]; exact ⟨rfl, rfl⟩)
  · skip
    refine lv_aload_n hx hb dX5_on_7 rfl (lv_at hl 0 rfl) ?_
    refine lv_bipush (v := (-3)) hx hb dX5_on_8 (by decide) ?_
    refine cVI (As := [.int (-3)]) (rest := []) F (c_X5_no l g m0 m1 m2 m3 m4 m5 m6 m7 m8 m9 m10 m11 m12 m13 m14 kp rn tn ia wl si rf (-3) 3 (by decide) (by omega) (by omega)) kX5_no rfl gX5_on_X5_no rfl rfl ⟨Nat.le_of_ble_eq_true rfl, Nat.le_of_ble_eq_true rfl⟩ hP hD hS [0, 1] [2, 3] rfl rfl 0 rfl rfl hl.1 rfl rfl (Nat.le_of_ble_eq_true rfl) dX5_on_10 ⟨Nat.le_of_ble_eq_true rfl, Nat.le_of_ble_eq_true rfl⟩ (fun rz w1 H locs hpo hP hD hS => ?_)
    obtain ⟨rfl, rfl⟩ := hpo
    obtain ⟨hP, hD⟩ := nx (ws' := [(m0, .inr (5, [.ref m1, .ref m2, .ref m3, .int (nI kp), .ref m4, .ref m5, .ref m6, .ref m7, .ref m8, .int (nI rn), .ref m9, .int (nI tn), .int (nI ia), .int (nI wl), .ref m10, .ref m11, .ref m12, .int (nI si), .ref m13, .ref m14])), (m1, .inl (eI g, 7, .inl (bump rf 3))), (m2, .inl (eI g, 49, .inl (fun j => nI (S j)))), (m3, .inl (eI g, 49, .inl (fun j => nI (S2 j))))]) hP hD [2, 3, 0, 1] (ndB_ok _ rfl) rfl
    exact rtI F hP hD hS dX5_on_13 (by simp only [if_pos c4]; refine ⟨?_, ?_⟩ <;> first | rfl | trivial)
