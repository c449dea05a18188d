theorem inX4_likely_X4 : ∀ w ∈ u_ws RX4 TX4 10, w ∈ wsX4_likely := fun _ h => (List.mem_cons_of_mem _ (List.mem_append_left _ (List.mem_append_right _ h)))
theorem lkX4_likely_1 : Cond.fieldLink RX4 10 "StripInFiveSteps" "now" "LStripInFiveSteps$Shed;" ∈ wsX4_likely := List.mem_of_getElem? (i := 1) rfl
theorem inX4_likely_X0 : ∀ w ∈ u_ws RX0 TX0 5, w ∈ wsX4_likely := fun _ h => (List.mem_cons_of_mem _ (List.mem_append_right _ h))
theorem lkX4_likely_2 : Cond.fieldLink RX4 84 "StripInFiveSteps$Shed" "weights" "[I" ∈ wsX4_likely := List.mem_of_getElem? (i := 2) rfl
theorem kX4_likely : Cal yX4_likely wsX4_likely cX4_likely 2 (some .int) 1 := ⟨⟨_, rfl⟩, by decide +kernel⟩
set_option maxHeartbeats 4000000 in
set_option maxRecDepth 100000 in
theorem c_X4_likely (l : Launch) (g : EE) (x0 : Nat) (h0 : Nat) (d0 : Nat) (k0 : Nat) (b0 : Nat) (a0 : Nat) (t0 : Nat) (r0 : Nat) (r1 : Nat) (ik : Nat) (rn : Nat) (h1 : Nat) (h2 : Nat) (W : Nat → Nat) (B : Nat → Nat) (sk : Nat) (ek : Nat) (tr : Nat) (rf : Nat → Int32) (x : Int32)  : CI l yX4_likely wsX4_likely ({ frames := 1, cells := 0, slots := 0, locals := 22 }) g [.ref x0, .int x] [(x0, .inr (4, [.ref h0, .ref d0, .ref k0, .int (nI ik), .ref b0, .ref a0, .ref t0, .ref r0, .int (nI rn), .ref r1])), (h0, .inr (0, [.ref h1, .ref h2, .int (nI sk), .int (nI ek), .int (nI tr)])), (h1, .inl (eI g, 41, .inl (fun j => nI (W j)))), (h2, .inl (eI g, 5, .inl (fun j => nI (B j)))), (r1, .inl (eI g, 7, .inl rf))] (fun (rz : Int32) (wz : va_W) => rz = (rsp (if (1 ≤ x.toInt ∧ x.toInt ≤ 40) then 0 else 1) (nI (W x.toNatClampNeg))) ∧ wz = [(x0, .inr (4, [.ref h0, .ref d0, .ref k0, .int (nI ik), .ref b0, .ref a0, .ref t0, .ref r0, .int (nI rn), .ref r1])), (h0, .inr (0, [.ref h1, .ref h2, .int (nI sk), .int (nI ek), .int (nI tr)])), (h1, .inl (eI g, 41, .inl (fun j => nI (W j)))), (h2, .inl (eI g, 5, .inl (fun j => nI (B j)))), (r1, .inl (eI g, 7, .inl (bump rf (if (1 ≤ x.toInt ∧ x.toInt ≤ 40) then 0 else 1))))]) 0 0 := by
  refine ctI (cc := cX4_likely) (maxL := 2) (ret := (some .int)) (by decide) rfl (Nat.le_of_ble_eq_true rfl) ?_
  intro p_ e_ s_ m_ bl_ mt_ cd_ A ls F hnm hP hD hS hl
  obtain ⟨hx, hb, hml, hown, hts, hK, hX, hA, hrt_, hlocks⟩ := id F
  have hl : lv_has ls 2 [(0, .ref x0), (1, .int x)] := hl
  refine lv_iload_n hx hb dX4_likely_0 rfl (lv_at hl 1 rfl) ?_
  refine cSI (As := [.int x]) (rest := []) F (c_X4_isSecond l g x ) kX4_isSecond gX4_likely_X4_isSecond rfl rfl ⟨Nat.le_of_ble_eq_true rfl, Nat.le_of_ble_eq_true rfl⟩ hP hD hS [] [0, 1, 2, 3, 4] rfl rfl hl.1 rfl rfl (Nat.le_of_ble_eq_true rfl) dX4_likely_1 ⟨Nat.le_of_ble_eq_true rfl, Nat.le_of_ble_eq_true rfl⟩ (fun rz w1 H locs hpo hP hD hS => ?_)
  obtain ⟨rfl, rfl⟩ := hpo
  obtain ⟨hP, hD⟩ := nx (ws' := [(x0, .inr (4, [.ref h0, .ref d0, .ref k0, .int (nI ik), .ref b0, .ref a0, .ref t0, .ref r0, .int (nI rn), .ref r1])), (h0, .inr (0, [.ref h1, .ref h2, .int (nI sk), .int (nI ek), .int (nI tr)])), (h1, .inl (eI g, 41, .inl (fun j => nI (W j)))), (h2, .inl (eI g, 5, .inl (fun j => nI (B j)))), (r1, .inl (eI g, 7, .inl rf))]) hP hD [0, 1, 2, 3, 4] (ndB_ok _ rfl) rfl
  refine bqne (tgt := 13) hx hb dX4_likely_4 (by decide) (fun c4 => ?_) (fun c4 => ?_)
  · skip
    obtain ⟨k, hk_, rfl⟩ := natOf (x := x) (by omega)
    rw [nI_tI hk_] at c4
    refine lv_aload_n hx hb dX4_likely_13 rfl (lv_at hl 0 rfl) ?_
    refine xget F hP inX4_likely_X4 0 rfl rfl 0 (by decide) lkX4_likely_1 rfl dX4_likely_14 ?_
    refine xget F hP inX4_likely_X0 1 rfl rfl 0 (by decide) lkX4_likely_2 rfl dX4_likely_17 ?_
    refine lv_iload_n hx hb dX4_likely_20 rfl (lv_at hl 1 rfl) ?_
    refine xald F hP 2 (v := (nI (W k))) rfl (by omega) (by omega) rfl dX4_likely_21 ?_
    exact rtI F hP hD hS dX4_likely_22 (by rw [show (if (1 ≤ (nI k).toInt ∧ (nI k).toInt ≤ 40) then 0 else 1) = 0 from (by (try simp only [nI_tI hk_]); (repeat (first | rw [if_pos (by omega)] | rw [if_neg (by omega)])) <;> rfl)]; first | done | exact ⟨by first | rfl | (simp only [nI_clamp hk_]; done) | (simp only [nI_clamp hk_]; rfl), by first | rfl | (simp only [nI_clamp hk_]; done) | (simp only [nI_clamp hk_]; rfl)⟩)
  · skip
    refine lv_aload_n hx hb dX4_likely_7 rfl (lv_at hl 0 rfl) ?_
    refine lv_iconst (v := (-1)) hx hb dX4_likely_8 (by decide) ?_
    refine cVI (As := [.int (-1)]) (rest := []) F (c_X4_refuse l g x0 h0 d0 k0 b0 a0 t0 r0 r1 ik rn rf (-1) 1 (by decide) (by omega) (by omega)) kX4_refuse rfl gX4_likely_X4_refuse rfl rfl ⟨Nat.le_of_ble_eq_true rfl, Nat.le_of_ble_eq_true rfl⟩ hP hD hS [0, 4] [1, 2, 3] rfl rfl 0 rfl rfl hl.1 rfl rfl (Nat.le_of_ble_eq_true rfl) dX4_likely_9 ⟨Nat.le_of_ble_eq_true rfl, Nat.le_of_ble_eq_true rfl⟩ (fun rz w1 H locs hpo hP hD hS => ?_)
    obtain ⟨rfl, rfl⟩ := hpo
    obtain ⟨hP, hD⟩ := nx (ws' := [(x0, .inr (4, [.ref h0, .ref d0, .ref k0, .int (nI ik), .ref b0, .ref a0, .ref t0, .ref r0, .int (nI rn), .ref r1])), (h0, .inr (0, [.ref h1, .ref h2, .int (nI sk), .int (nI ek), .int (nI tr)])), (h1, .inl (eI g, 41, .inl (fun j => nI (W j)))), (h2, .inl (eI g, 5, .inl (fun j => nI (B j)))), (r1, .inl (eI g, 7, .inl (bump rf 1)))]) hP hD [3, 0, 1, 2, 4] (ndB_ok _ rfl) rfl
    exact rtI F hP hD hS dX4_likely_12 (by rw [show (if (1 ≤ x.toInt ∧ x.toInt ≤ 40) then 0 else 1) = 1 from (by (try simp only [ge_iff_le]); (repeat (first | rw [if_pos (by omega)] | rw [if_neg (by omega)])) <;> rfl)]; first | done | exact ⟨by first | rfl | (simp only [ge_iff_le]; done) | (simp only [ge_iff_le]; rfl), by first | rfl | (simp only [ge_iff_le]; done) | (simp only [ge_iff_le]; rfl)⟩)

theorem inX5_likely_X5 : ∀ w ∈ u_ws RX5 TX5 20, w ∈ wsX5_likely := fun _ h => (List.mem_cons_of_mem _ (List.mem_append_right _ h))
theorem lkX5_likely_1 : Cond.fieldLink RX5 19 "StripInFiveStepsModel" "now" "[I" ∈ wsX5_likely := List.mem_of_getElem? (i := 1) rfl
theorem kX5_likely : Cal yX5_likely wsX5_likely cX5_likely 2 (some .int) 1 := ⟨⟨_, rfl⟩, by decide +kernel⟩
set_option maxHeartbeats 4000000 in
set_option maxRecDepth 100000 in
theorem c_X5_likely (l : Launch) (g : EE) (m0 : Nat) (m1 : Nat) (m2 : Nat) (m3 : Nat) (m4 : Nat) (m5 : Nat) (m6 : Nat) (m7 : Nat) (m8 : Nat) (m9 : Nat) (m10 : Nat) (m11 : Nat) (m12 : Nat) (m13 : Nat) (m14 : Nat) (kp : Nat) (rn : Nat) (tn : Nat) (ia : Nat) (wl : Nat) (si : Nat) (S : Nat → Nat) (rf : Nat → Int32) (x : Int32)  : CI l yX5_likely wsX5_likely ({ frames := 1, cells := 0, slots := 0, locals := 21 }) g [.ref m0, .int x] [(m0, .inr (5, [.ref m1, .ref m2, .ref m3, .int (nI kp), .ref m4, .ref m5, .ref m6, .ref m7, .ref m8, .int (nI rn), .ref m9, .int (nI tn), .int (nI ia), .int (nI wl), .ref m10, .ref m11, .ref m12, .int (nI si), .ref m13, .ref m14])), (m1, .inl (eI g, 7, .inl rf)), (m2, .inl (eI g, 49, .inl (fun j => nI (S j))))] (fun (rz : Int32) (wz : va_W) => rz = (rsp (if (1 ≤ x.toInt ∧ x.toInt ≤ 40) then 0 else 1) (nI (S x.toNatClampNeg))) ∧ wz = [(m0, .inr (5, [.ref m1, .ref m2, .ref m3, .int (nI kp), .ref m4, .ref m5, .ref m6, .ref m7, .ref m8, .int (nI rn), .ref m9, .int (nI tn), .int (nI ia), .int (nI wl), .ref m10, .ref m11, .ref m12, .int (nI si), .ref m13, .ref m14])), (m1, .inl (eI g, 7, .inl (bump rf (if (1 ≤ x.toInt ∧ x.toInt ≤ 40) then 0 else 1)))), (m2, .inl (eI g, 49, .inl (fun j => nI (S j))))]) 0 0 := by
  refine ctI (cc := cX5_likely) (maxL := 2) (ret := (some .int)) (by decide) rfl (Nat.le_of_ble_eq_true rfl) ?_
  intro p_ e_ s_ m_ bl_ mt_ cd_ A ls F hnm hP hD hS hl
  obtain ⟨hx, hb, hml, hown, hts, hK, hX, hA, hrt_, hlocks⟩ := id F
  have hl : lv_has ls 2 [(0, .ref m0), (1, .int x)] := hl
  refine lv_iload_n hx hb dX5_likely_0 rfl (lv_at hl 1 rfl) ?_
  refine cSI (As := [.int x]) (rest := []) F (c_X5_isNoSecond l g x ) kX5_isNoSecond gX5_likely_X5_isNoSecond rfl rfl ⟨Nat.le_of_ble_eq_true rfl, Nat.le_of_ble_eq_true rfl⟩ hP hD hS [] [0, 1, 2] rfl rfl hl.1 rfl rfl (Nat.le_of_ble_eq_true rfl) dX5_likely_1 ⟨Nat.le_of_ble_eq_true rfl, Nat.le_of_ble_eq_true rfl⟩ (fun rz w1 H locs hpo hP hD hS => ?_)
  obtain ⟨rfl, rfl⟩ := hpo
  obtain ⟨hP, hD⟩ := nx (ws' := [(m0, .inr (5, [.ref m1, .ref m2, .ref m3, .int (nI kp), .ref m4, .ref m5, .ref m6, .ref m7, .ref m8, .int (nI rn), .ref m9, .int (nI tn), .int (nI ia), .int (nI wl), .ref m10, .ref m11, .ref m12, .int (nI si), .ref m13, .ref m14])), (m1, .inl (eI g, 7, .inl rf)), (m2, .inl (eI g, 49, .inl (fun j => nI (S j))))]) hP hD [0, 1, 2] (ndB_ok _ rfl) rfl
  refine bqeq (tgt := 15) hx hb dX5_likely_4 (by decide) (fun c4 => ?_) (fun c4 => ?_)
  · skip
    obtain ⟨k, hk_, rfl⟩ := natOf (x := x) (by omega)
    rw [nI_tI hk_] at c4
    refine lv_aload_n hx hb dX5_likely_15 rfl (lv_at hl 0 rfl) ?_
    refine xget F hP inX5_likely_X5 0 rfl rfl 1 (by decide) lkX5_likely_1 rfl dX5_likely_16 ?_
    refine lv_iload_n hx hb dX5_likely_19 rfl (lv_at hl 1 rfl) ?_
    refine xald F hP 2 (v := (nI (S k))) rfl (by omega) (by omega) rfl dX5_likely_20 ?_
    exact rtI F hP hD hS dX5_likely_21 (by rw [show (if (1 ≤ (nI k).toInt ∧ (nI k).toInt ≤ 40) then 0 else 1) = 0 from (by (try simp only [nI_tI hk_]); (repeat (first | rw [if_pos (by omega)] | rw [if_neg (by omega)])) <;> rfl)]; first | done | exact ⟨by first | rfl | (simp only [nI_clamp hk_]; done) | (simp only [nI_clamp hk_]; rfl), by first | rfl | (simp only [nI_clamp hk_]; done) | (simp only [nI_clamp hk_]; rfl)⟩)
  · skip
    refine lv_aload_n hx hb dX5_likely_7 rfl (lv_at hl 0 rfl) ?_
    refine lv_iconst (v := (-1)) hx hb dX5_likely_8 (by decide) ?_
    refine cVI (As := [.int (-1)]) (rest := []) F (c_X5_no l g m0 m1 m2 m3 m4 m5 m6 m7 m8 m9 m10 m11 m12 m13 m14 kp rn tn ia wl si rf (-1) 1 (by decide) (by omega) (by omega)) kX5_no rfl gX5_likely_X5_no rfl rfl ⟨Nat.le_of_ble_eq_true rfl, Nat.le_of_ble_eq_true rfl⟩ hP hD hS [0, 1] [2] rfl rfl 0 rfl rfl hl.1 rfl rfl (Nat.le_of_ble_eq_true rfl) dX5_likely_9 ⟨Nat.le_of_ble_eq_true rfl, Nat.le_of_ble_eq_true rfl⟩ (fun rz w1 H locs hpo hP hD hS => ?_)
    obtain ⟨rfl, rfl⟩ := hpo
    obtain ⟨hP, hD⟩ := nx (ws' := [(m0, .inr (5, [.ref m1, .ref m2, .ref m3, .int (nI kp), .ref m4, .ref m5, .ref m6, .ref m7, .ref m8, .int (nI rn), .ref m9, .int (nI tn), .int (nI ia), .int (nI wl), .ref m10, .ref m11, .ref m12, .int (nI si), .ref m13, .ref m14])), (m1, .inl (eI g, 7, .inl (bump rf 1))), (m2, .inl (eI g, 49, .inl (fun j => nI (S j))))]) hP hD [1, 2, 0] (ndB_ok _ rfl) rfl
    refine lv_goto (tgt := 21) hx hb dX5_likely_12 (by decide) ?_
    exact rtI F hP hD hS dX5_likely_21 (by rw [show (if (1 ≤ x.toInt ∧ x.toInt ≤ 40) then 0 else 1) = 1 from (by (try simp only [ge_iff_le]); (repeat (first | rw [if_pos (by omega)] | rw [if_neg (by omega)])) <;> rfl)]; first | done | exact ⟨by first | rfl | (simp only [ge_iff_le]; done) | (simp only [ge_iff_le]; rfl), by first | rfl | (simp only [ge_iff_le]; done) | (simp only [ge_iff_le]; rfl)⟩)

theorem inX4_make_X4 : ∀ w ∈ u_ws RX4 TX4 10, w ∈ wsX4_make := fun _ h => (List.mem_cons_of_mem _ (List.mem_append_left _ (List.mem_append_right _ h)))
theorem lkX4_make_1 : Cond.fieldLink RX4 10 "StripInFiveSteps" "now" "LStripInFiveSteps$Shed;" ∈ wsX4_make := List.mem_of_getElem? (i := 1) rfl
theorem inX4_make_X0 : ∀ w ∈ u_ws RX0 TX0 5, w ∈ wsX4_make := fun _ h => (List.mem_cons_of_mem _ (List.mem_append_right _ h))
theorem lkX4_make_2 : Cond.fieldLink RX4 84 "StripInFiveSteps$Shed" "weights" "[I" ∈ wsX4_make := List.mem_of_getElem? (i := 2) rfl
theorem kX4_make : Cal yX4_make wsX4_make cX4_make 4 (some .int) 2 := ⟨⟨_, rfl⟩, by decide +kernel⟩
set_option maxHeartbeats 4000000 in
set_option maxRecDepth 100000 in
theorem c_X4_make (l : Launch) (g : EE) (x0 : Nat) (h0 : Nat) (d0 : Nat) (k0 : Nat) (b0 : Nat) (a0 : Nat) (t0 : Nat) (r0 : Nat) (r1 : Nat) (ik : Nat) (rn : Nat) (h1 : Nat) (h2 : Nat) (W : Nat → Nat) (B : Nat → Nat) (sk : Nat) (ek : Nat) (tr : Nat) (rf : Nat → Int32) (x : Int32) (y : Int32)  : CI l yX4_make wsX4_make ({ frames := 1, cells := 0, slots := 0, locals := 22 }) g [.ref x0, .int x, .int y] [(x0, .inr (4, [.ref h0, .ref d0, .ref k0, .int (nI ik), .ref b0, .ref a0, .ref t0, .ref r0, .int (nI rn), .ref r1])), (h0, .inr (0, [.ref h1, .ref h2, .int (nI sk), .int (nI ek), .int (nI tr)])), (h1, .inl (eI g, 41, .inl (fun j => nI (W j)))), (h2, .inl (eI g, 5, .inl (fun j => nI (B j)))), (r1, .inl (eI g, 7, .inl rf))] (fun (rz : Int32) (wz : va_W) => rz = (rsp (if ¬ (1 ≤ x.toInt ∧ x.toInt ≤ 40) then 1 else if y.toInt < 0 then 4 else if 9 < y.toInt then 6 else 0) (nI (W x.toNatClampNeg))) ∧ wz = [(x0, .inr (4, [.ref h0, .ref d0, .ref k0, .int (nI ik), .ref b0, .ref a0, .ref t0, .ref r0, .int (nI rn), .ref r1])), (h0, .inr (0, [.ref h1, .ref h2, .int (nI sk), .int (nI ek), .int (nI tr)])), (h1, .inl (eI g, 41, .inl (fun j => nI ((if (if ¬ (1 ≤ x.toInt ∧ x.toInt ≤ 40) then 1 else if y.toInt < 0 then 4 else if 9 < y.toInt then 6 else 0) = 0 then updN W x.toNatClampNeg y.toNatClampNeg else W) j)))), (h2, .inl (eI g, 5, .inl (fun j => nI (B j)))), (r1, .inl (eI g, 7, .inl (bump rf (if ¬ (1 ≤ x.toInt ∧ x.toInt ≤ 40) then 1 else if y.toInt < 0 then 4 else if 9 < y.toInt then 6 else 0))))]) 0 0 := by
  refine ctI (cc := cX4_make) (maxL := 4) (ret := (some .int)) (by decide) rfl (Nat.le_of_ble_eq_true rfl) ?_
  intro p_ e_ s_ m_ bl_ mt_ cd_ A ls F hnm hP hD hS hl
  obtain ⟨hx, hb, hml, hown, hts, hK, hX, hA, hrt_, hlocks⟩ := id F
  have hl : lv_has ls 4 [(0, .ref x0), (1, .int x), (2, .int y)] := hl
  refine lv_iload_n hx hb dX4_make_0 rfl (lv_at hl 1 rfl) ?_
  refine cSI (As := [.int x]) (rest := []) F (c_X4_isSecond l g x ) kX4_isSecond gX4_make_X4_isSecond rfl rfl ⟨Nat.le_of_ble_eq_true rfl, Nat.le_of_ble_eq_true rfl⟩ hP hD hS [] [0, 1, 2, 3, 4] rfl rfl hl.1 rfl rfl (Nat.le_of_ble_eq_true rfl) dX4_make_1 ⟨Nat.le_of_ble_eq_true rfl, Nat.le_of_ble_eq_true rfl⟩ (fun rz w1 H locs hpo hP hD hS => ?_)
  obtain ⟨rfl, rfl⟩ := hpo
  obtain ⟨hP, hD⟩ := nx (ws' := [(x0, .inr (4, [.ref h0, .ref d0, .ref k0, .int (nI ik), .ref b0, .ref a0, .ref t0, .ref r0, .int (nI rn), .ref r1])), (h0, .inr (0, [.ref h1, .ref h2, .int (nI sk), .int (nI ek), .int (nI tr)])), (h1, .inl (eI g, 41, .inl (fun j => nI (W j)))), (h2, .inl (eI g, 5, .inl (fun j => nI (B j)))), (r1, .inl (eI g, 7, .inl rf))]) hP hD [0, 1, 2, 3, 4] (ndB_ok _ rfl) rfl
  refine bqne (tgt := 13) hx hb dX4_make_4 (by decide) (fun c4 => ?_) (fun c4 => ?_)
  · skip
    refine lv_iload_n hx hb dX4_make_13 rfl (lv_at hl 2 rfl) ?_
    refine wge (tgt := 24) hx hb dX4_make_14 (by decide) (fun c14 => ?_) (fun c14 => ?_)
    · skip
      refine lv_iload_n hx hb dX4_make_24 rfl (lv_at hl 2 rfl) ?_
      refine lv_bipush (v := (nI 9)) hx hb dX4_make_25 (by decide) ?_
      refine yle (tgt := 37) hx hb dX4_make_27 (by decide) (by omega) (fun c27 => ?_) (fun c27 => ?_)
      · skip
        obtain ⟨k, hk_, rfl⟩ := natOf (x := x) (by omega)
        rw [nI_tI hk_] at c4
        obtain ⟨k2, hk2_, rfl⟩ := natOf (x := y) (by omega)
        rw [nI_tI hk2_] at c14
        rw [nI_tI hk2_] at c27
        refine lv_aload_n hx hb dX4_make_37 rfl (lv_at hl 0 rfl) ?_
        refine xget F hP inX4_make_X4 0 rfl rfl 0 (by decide) lkX4_make_1 rfl dX4_make_38 ?_
        refine xget F hP inX4_make_X0 1 rfl rfl 0 (by decide) lkX4_make_2 rfl dX4_make_41 ?_
        refine lv_iload_n hx hb dX4_make_44 rfl (lv_at hl 1 rfl) ?_
        refine xald F hP 2 (v := (nI (W k))) rfl (by omega) (by omega) rfl dX4_make_45 ?_
        refine lv_istore_n (lv' := [(3, .int (nI (W k))), (0, .ref x0), (1, .int (nI k)), (2, .int (nI k2))]) hx hb dX4_make_46 rfl hl (by decide) rfl (fun ls hl => ?_)
        refine lv_aload_n hx hb dX4_make_47 rfl (lv_at hl 1 rfl) ?_
        refine xget F hP inX4_make_X4 0 rfl rfl 0 (by decide) lkX4_make_1 rfl dX4_make_48 ?_
        refine xget F hP inX4_make_X0 1 rfl rfl 0 (by decide) lkX4_make_2 rfl dX4_make_51 ?_
        refine lv_iload_n hx hb dX4_make_54 rfl (lv_at hl 2 rfl) ?_
        refine lv_iload_n hx hb dX4_make_55 rfl (lv_at hl 3 rfl) ?_
        refine xast F hP hD hS 2 (f' := fun j => nI ((updN W k k2) j)) rfl (by omega) (by omega) (upd_nI W k k2) dX4_make_56 (fun H locs hP hD hS => ?_)
        have hP : va_P (eD g) vwCl [(x0, .inr (4, [.ref h0, .ref d0, .ref k0, .int (nI ik), .ref b0, .ref a0, .ref t0, .ref r0, .int (nI rn), .ref r1])), (h0, .inr (0, [.ref h1, .ref h2, .int (nI sk), .int (nI ek), .int (nI tr)])), (h1, .inl (eI g, 41, .inl (fun j => nI ((updN W k k2) j)))), (h2, .inl (eI g, 5, .inl (fun j => nI (B j)))), (r1, .inl (eI g, 7, .inl rf))] H := hP
        have hD : va_D A [(x0, .inr (4, [.ref h0, .ref d0, .ref k0, .int (nI ik), .ref b0, .ref a0, .ref t0, .ref r0, .int (nI rn), .ref r1])), (h0, .inr (0, [.ref h1, .ref h2, .int (nI sk), .int (nI ek), .int (nI tr)])), (h1, .inl (eI g, 41, .inl (fun j => nI ((updN W k k2) j)))), (h2, .inl (eI g, 5, .inl (fun j => nI (B j)))), (r1, .inl (eI g, 7, .inl rf))] := hD
        refine lv_iload_n hx hb dX4_make_57 rfl (lv_at hl 0 rfl) ?_
        exact rtI F hP hD hS dX4_make_58 (by rw [show (if ¬ (1 ≤ (nI k).toInt ∧ (nI k).toInt ≤ 40) then 1 else if (nI k2).toInt < 0 then 4 else if 9 < (nI k2).toInt then 6 else 0) = 0 from (by (try simp only [nI_tI hk_, nI_tI hk2_]); (repeat (first | rw [if_pos (by omega)] | rw [if_neg (by omega)])) <;> rfl)]; first | done | exact ⟨by first | rfl | (simp only [nI_clamp hk_, nI_clamp hk2_]; done) | (simp only [nI_clamp hk_, nI_clamp hk2_]; rfl), by first | rfl | (simp only [nI_clamp hk_, nI_clamp hk2_]; done) | (simp only [nI_clamp hk_, nI_clamp hk2_]; rfl)⟩)
      · skip
        refine lv_aload_n hx hb dX4_make_30 rfl (lv_at hl 0 rfl) ?_
        refine lv_bipush (v := (-6)) hx hb dX4_make_31 (by decide) ?_
        refine cVI (As := [.int (-6)]) (rest := []) F (c_X4_refuse l g x0 h0 d0 k0 b0 a0 t0 r0 r1 ik rn rf (-6) 6 (by decide) (by omega) (by omega)) kX4_refuse rfl gX4_make_X4_refuse rfl rfl ⟨Nat.le_of_ble_eq_true rfl, Nat.le_of_ble_eq_true rfl⟩ hP hD hS [0, 4] [1, 2, 3] rfl rfl 0 rfl rfl hl.1 rfl rfl (Nat.le_of_ble_eq_true rfl) dX4_make_33 ⟨Nat.le_of_ble_eq_true rfl, Nat.le_of_ble_eq_true rfl⟩ (fun rz w1 H locs hpo hP hD hS => ?_)
        obtain ⟨rfl, rfl⟩ := hpo
        obtain ⟨hP, hD⟩ := nx (ws' := [(x0, .inr (4, [.ref h0, .ref d0, .ref k0, .int (nI ik), .ref b0, .ref a0, .ref t0, .ref r0, .int (nI rn), .ref r1])), (h0, .inr (0, [.ref h1, .ref h2, .int (nI sk), .int (nI ek), .int (nI tr)])), (h1, .inl (eI g, 41, .inl (fun j => nI (W j)))), (h2, .inl (eI g, 5, .inl (fun j => nI (B j)))), (r1, .inl (eI g, 7, .inl (bump rf 6)))]) hP hD [3, 0, 1, 2, 4] (ndB_ok _ rfl) rfl
        exact rtI F hP hD hS dX4_make_36 (by rw [show (if ¬ (1 ≤ x.toInt ∧ x.toInt ≤ 40) then 1 else if y.toInt < 0 then 4 else if 9 < y.toInt then 6 else 0) = 6 from (by (try simp only [ge_iff_le]); (repeat (first | rw [if_pos (by omega)] | rw [if_neg (by omega)])) <;> rfl)]; first | done | exact ⟨by first | rfl | (simp only [ge_iff_le]; done) | (simp only [ge_iff_le]; rfl), by first | rfl | (simp only [ge_iff_le]; done) | (simp only [ge_iff_le]; rfl)⟩)
    · skip
      refine lv_aload_n hx hb dX4_make_17 rfl (lv_at hl 0 rfl) ?_
      refine lv_bipush (v := (-4)) hx hb dX4_make_18 (by decide) ?_
      refine cVI (As := [.int (-4)]) (rest := []) F (c_X4_refuse l g x0 h0 d0 k0 b0 a0 t0 r0 r1 ik rn rf (-4) 4 (by decide) (by omega) (by omega)) kX4_refuse rfl gX4_make_X4_refuse rfl rfl ⟨Nat.le_of_ble_eq_true rfl, Nat.le_of_ble_eq_true rfl⟩ hP hD hS [0, 4] [1, 2, 3] rfl rfl 0 rfl rfl hl.1 rfl rfl (Nat.le_of_ble_eq_true rfl) dX4_make_20 ⟨Nat.le_of_ble_eq_true rfl, Nat.le_of_ble_eq_true rfl⟩ (fun rz w1 H locs hpo hP hD hS => ?_)
      obtain ⟨rfl, rfl⟩ := hpo
      obtain ⟨hP, hD⟩ := nx (ws' := [(x0, .inr (4, [.ref h0, .ref d0, .ref k0, .int (nI ik), .ref b0, .ref a0, .ref t0, .ref r0, .int (nI rn), .ref r1])), (h0, .inr (0, [.ref h1, .ref h2, .int (nI sk), .int (nI ek), .int (nI tr)])), (h1, .inl (eI g, 41, .inl (fun j => nI (W j)))), (h2, .inl (eI g, 5, .inl (fun j => nI (B j)))), (r1, .inl (eI g, 7, .inl (bump rf 4)))]) hP hD [3, 0, 1, 2, 4] (ndB_ok _ rfl) rfl
      exact rtI F hP hD hS dX4_make_23 (by rw [show (if ¬ (1 ≤ x.toInt ∧ x.toInt ≤ 40) then 1 else if y.toInt < 0 then 4 else if 9 < y.toInt then 6 else 0) = 4 from (by (try simp only [ge_iff_le]); (repeat (first | rw [if_pos (by omega)] | rw [if_neg (by omega)])) <;> rfl)]; first | done | exact ⟨by first | rfl | (simp only [ge_iff_le]; done) | (simp only [ge_iff_le]; rfl), by first | rfl | (simp only [ge_iff_le]; done) | (simp only [ge_iff_le]; rfl)⟩)
  · skip
    refine lv_aload_n hx hb dX4_make_7 rfl (lv_at hl 0 rfl) ?_
    refine lv_iconst (v := (-1)) hx hb dX4_make_8 (by decide) ?_
    refine cVI (As := [.int (-1)]) (rest := []) F (c_X4_refuse l g x0 h0 d0 k0 b0 a0 t0 r0 r1 ik rn rf (-1) 1 (by decide) (by omega) (by omega)) kX4_refuse rfl gX4_make_X4_refuse rfl rfl ⟨Nat.le_of_ble_eq_true rfl, Nat.le_of_ble_eq_true rfl⟩ hP hD hS [0, 4] [1, 2, 3] rfl rfl 0 rfl rfl hl.1 rfl rfl (Nat.le_of_ble_eq_true rfl) dX4_make_9 ⟨Nat.le_of_ble_eq_true rfl, Nat.le_of_ble_eq_true rfl⟩ (fun rz w1 H locs hpo hP hD hS => ?_)
    obtain ⟨rfl, rfl⟩ := hpo
    obtain ⟨hP, hD⟩ := nx (ws' := [(x0, .inr (4, [.ref h0, .ref d0, .ref k0, .int (nI ik), .ref b0, .ref a0, .ref t0, .ref r0, .int (nI rn), .ref r1])), (h0, .inr (0, [.ref h1, .ref h2, .int (nI sk), .int (nI ek), .int (nI tr)])), (h1, .inl (eI g, 41, .inl (fun j => nI (W j)))), (h2, .inl (eI g, 5, .inl (fun j => nI (B j)))), (r1, .inl (eI g, 7, .inl (bump rf 1)))]) hP hD [3, 0, 1, 2, 4] (ndB_ok _ rfl) rfl
    exact rtI F hP hD hS dX4_make_12 (by rw [show (if ¬ (1 ≤ x.toInt ∧ x.toInt ≤ 40) then 1 else if y.toInt < 0 then 4 else if 9 < y.toInt then 6 else 0) = 1 from (by (try simp only [ge_iff_le]); (repeat (first | rw [if_pos (by omega)] | rw [if_neg (by omega)])) <;> rfl)]; first | done | exact ⟨by first | rfl | (simp only [ge_iff_le]; done) | (simp only [ge_iff_le]; rfl), by first | rfl | (simp only [ge_iff_le]; done) | (simp only [ge_iff_le]; rfl)⟩)

theorem kX5_make : Cal yX5_make wsX5_make cX5_make 3 (some .int) 2 := ⟨⟨_, rfl⟩, by decide +kernel⟩
set_option maxHeartbeats 4000000 in
set_option maxRecDepth 100000 in
theorem c_X5_make (l : Launch) (g : EE) (m0 : Nat) (m1 : Nat) (m2 : Nat) (m3 : Nat) (m4 : Nat) (m5 : Nat) (m6 : Nat) (m7 : Nat) (m8 : Nat) (m9 : Nat) (m10 : Nat) (m11 : Nat) (m12 : Nat) (m13 : Nat) (m14 : Nat) (kp : Nat) (rn : Nat) (tn : Nat) (ia : Nat) (wl : Nat) (si : Nat) (S : Nat → Nat) (rf : Nat → Int32) (x : Int32) (y : Int32)  : CI l yX5_make wsX5_make ({ frames := 2, cells := 0, slots := 0, locals := 46 }) g [.ref m0, .int x, .int y] [(m0, .inr (5, [.ref m1, .ref m2, .ref m3, .int (nI kp), .ref m4, .ref m5, .ref m6, .ref m7, .ref m8, .int (nI rn), .ref m9, .int (nI tn), .int (nI ia), .int (nI wl), .ref m10, .ref m11, .ref m12, .int (nI si), .ref m13, .ref m14])), (m1, .inl (eI g, 7, .inl rf)), (m2, .inl (eI g, 49, .inl (fun j => nI (S j))))] (fun (rz : Int32) (wz : va_W) => rz = (rsp (if ¬ (1 ≤ x.toInt ∧ x.toInt ≤ 40) then 1 else if y.toInt < 0 then 4 else if 9 < y.toInt then 6 else 0) (nI (S x.toNatClampNeg))) ∧ wz = [(m0, .inr (5, [.ref m1, .ref m2, .ref m3, .int (nI kp), .ref m4, .ref m5, .ref m6, .ref m7, .ref m8, .int (nI rn), .ref m9, .int (nI tn), .int (nI ia), .int (nI wl), .ref m10, .ref m11, .ref m12, .int (nI si), .ref m13, .ref m14])), (m1, .inl (eI g, 7, .inl (bump rf (if ¬ (1 ≤ x.toInt ∧ x.toInt ≤ 40) then 1 else if y.toInt < 0 then 4 else if 9 < y.toInt then 6 else 0)))), (m2, .inl (eI g, 49, .inl (fun j => nI ((if (if ¬ (1 ≤ x.toInt ∧ x.toInt ≤ 40) then 1 else if y.toInt < 0 then 4 else if 9 < y.toInt then 6 else 0) = 0 then updN S x.toNatClampNeg y.toNatClampNeg else S) j))))]) 0 0 := by
  refine ctI (cc := cX5_make) (maxL := 3) (ret := (some .int)) (by decide) rfl (Nat.le_of_ble_eq_true rfl) ?_
  intro p_ e_ s_ m_ bl_ mt_ cd_ A ls F hnm hP hD hS hl
  obtain ⟨hx, hb, hml, hown, hts, hK, hX, hA, hrt_, hlocks⟩ := id F
  have hl : lv_has ls 3 [(0, .ref m0), (1, .int x), (2, .int y)] := hl
  refine lv_iload_n hx hb dX5_make_0 rfl (lv_at hl 1 rfl) ?_
  refine cSI (As := [.int x]) (rest := []) F (c_X5_isNoSecond l g x ) kX5_isNoSecond gX5_make_X5_isNoSecond rfl rfl ⟨Nat.le_of_ble_eq_true rfl, Nat.le_of_ble_eq_true rfl⟩ hP hD hS [] [0, 1, 2] rfl rfl hl.1 rfl rfl (Nat.le_of_ble_eq_true rfl) dX5_make_1 ⟨Nat.le_of_ble_eq_true rfl, Nat.le_of_ble_eq_true rfl⟩ (fun rz w1 H locs hpo hP hD hS => ?_)
  obtain ⟨rfl, rfl⟩ := hpo
  obtain ⟨hP, hD⟩ := nx (ws' := [(m0, .inr (5, [.ref m1, .ref m2, .ref m3, .int (nI kp), .ref m4, .ref m5, .ref m6, .ref m7, .ref m8, .int (nI rn), .ref m9, .int (nI tn), .int (nI ia), .int (nI wl), .ref m10, .ref m11, .ref m12, .int (nI si), .ref m13, .ref m14])), (m1, .inl (eI g, 7, .inl rf)), (m2, .inl (eI g, 49, .inl (fun j => nI (S j))))]) hP hD [0, 1, 2] (ndB_ok _ rfl) rfl
  refine bqeq (tgt := 15) hx hb dX5_make_4 (by decide) (fun c4 => ?_) (fun c4 => ?_)
  · skip
    obtain ⟨k, hk_, rfl⟩ := natOf (x := x) (by omega)
    rw [nI_tI hk_] at c4
    refine lv_aload_n hx hb dX5_make_15 rfl (lv_at hl 0 rfl) ?_
    refine lv_iload_n hx hb dX5_make_16 rfl (lv_at hl 1 rfl) ?_
    refine lv_iload_n hx hb dX5_make_17 rfl (lv_at hl 2 rfl) ?_
    refine lv_iconst (v := (nI 0)) hx hb dX5_make_18 (by decide) ?_
    refine lv_bipush (v := (nI 9)) hx hb dX5_make_19 (by decide) ?_
    refine cVI (As := [.int (nI k), .int y, .int (nI 0), .int (nI 9)]) (rest := []) F (c_X5_change l g m0 m1 m2 m3 m4 m5 m6 m7 m8 m9 m10 m11 m12 m13 m14 kp rn tn ia wl si rf S k y 0 9 (by omega) (by omega) (by omega)) kX5_change rfl gX5_make_X5_change rfl rfl ⟨Nat.le_of_ble_eq_true rfl, Nat.le_of_ble_eq_true rfl⟩ hP hD hS [0, 1, 2] [] rfl rfl 0 rfl rfl hl.1 rfl rfl (Nat.le_of_ble_eq_true rfl) dX5_make_21 ⟨Nat.le_of_ble_eq_true rfl, Nat.le_of_ble_eq_true rfl⟩ (fun rz w1 H locs hpo hP hD hS => ?_)
    obtain ⟨rfl, rfl⟩ := hpo
    obtain ⟨hP, hD⟩ := nx (ws' := [(m0, .inr (5, [.ref m1, .ref m2, .ref m3, .int (nI kp), .ref m4, .ref m5, .ref m6, .ref m7, .ref m8, .int (nI rn), .ref m9, .int (nI tn), .int (nI ia), .int (nI wl), .ref m10, .ref m11, .ref m12, .int (nI si), .ref m13, .ref m14])), (m1, .inl (eI g, 7, .inl (bump rf (cdC y 0 9)))), (m2, .inl (eI g, 49, .inl (fun j => nI ((if cdC y 0 9 = 0 then updN S k y.toNatClampNeg else S) j))))]) hP hD [0, 1, 2] (ndB_ok _ rfl) rfl
    exact rtI F hP hD hS dX5_make_24 (⟨by (try simp only [nI_tI hk_, nI_clamp hk_]); (try unfold cdC); (repeat (first | rw [if_pos (by omega)] | rw [if_neg (by omega)])) <;> (first | rfl | (rcases (show y.toInt < 0 ∨ 9 < y.toInt ∨ (0 ≤ y.toInt ∧ y.toInt ≤ 9) by omega) with h | h | h <;> (repeat (first | rw [if_pos (by omega)] | rw [if_neg (by omega)])) <;> rfl)), by (try simp only [nI_tI hk_, nI_clamp hk_]); (try unfold cdC); (repeat (first | rw [if_pos (by omega)] | rw [if_neg (by omega)])) <;> (first | rfl | (rcases (show y.toInt < 0 ∨ 9 < y.toInt ∨ (0 ≤ y.toInt ∧ y.toInt ≤ 9) by omega) with h | h | h <;> (repeat (first | rw [if_pos (by omega)] | rw [if_neg (by omega)])) <;> rfl))⟩)
  · skip
    refine lv_aload_n hx hb dX5_make_7 rfl (lv_at hl 0 rfl) ?_
    refine lv_iconst (v := (-1)) hx hb dX5_make_8 (by decide) ?_
    refine cVI (As := [.int (-1)]) (rest := []) F (c_X5_no l g m0 m1 m2 m3 m4 m5 m6 m7 m8 m9 m10 m11 m12 m13 m14 kp rn tn ia wl si rf (-1) 1 (by decide) (by omega) (by omega)) kX5_no rfl gX5_make_X5_no rfl rfl ⟨Nat.le_of_ble_eq_true rfl, Nat.le_of_ble_eq_true rfl⟩ hP hD hS [0, 1] [2] rfl rfl 0 rfl rfl hl.1 rfl rfl (Nat.le_of_ble_eq_true rfl) dX5_make_9 ⟨Nat.le_of_ble_eq_true rfl, Nat.le_of_ble_eq_true rfl⟩ (fun rz w1 H locs hpo hP hD hS => ?_)
    obtain ⟨rfl, rfl⟩ := hpo
    obtain ⟨hP, hD⟩ := nx (ws' := [(m0, .inr (5, [.ref m1, .ref m2, .ref m3, .int (nI kp), .ref m4, .ref m5, .ref m6, .ref m7, .ref m8, .int (nI rn), .ref m9, .int (nI tn), .int (nI ia), .int (nI wl), .ref m10, .ref m11, .ref m12, .int (nI si), .ref m13, .ref m14])), (m1, .inl (eI g, 7, .inl (bump rf 1))), (m2, .inl (eI g, 49, .inl (fun j => nI (S j))))]) hP hD [1, 2, 0] (ndB_ok _ rfl) rfl
    refine lv_goto (tgt := 24) hx hb dX5_make_12 (by decide) ?_
    exact rtI F hP hD hS dX5_make_24 (⟨by (repeat (first | rw [if_pos (by omega)] | rw [if_neg (by omega)])) <;> rfl, by (repeat (first | rw [if_pos (by omega)] | rw [if_neg (by omega)])) <;> rfl⟩)

theorem inX4_parts_X4 : ∀ w ∈ u_ws RX4 TX4 10, w ∈ wsX4_parts := fun _ h => (List.mem_cons_of_mem _ (List.mem_append_left _ (List.mem_append_left _ (List.mem_append_left _ (List.mem_append_right _ h)))))
theorem lkX4_parts_1 : Cond.fieldLink RX4 36 "StripInFiveSteps" "strips" "LStripInFiveSteps$Strips;" ∈ wsX4_parts := List.mem_of_getElem? (i := 1) rfl
theorem lkX4_parts_2 : Cond.fieldLink RX4 10 "StripInFiveSteps" "now" "LStripInFiveSteps$Shed;" ∈ wsX4_parts := List.mem_of_getElem? (i := 2) rfl
theorem inX4_parts_X0 : ∀ w ∈ u_ws RX0 TX0 5, w ∈ wsX4_parts := fun _ h => (List.mem_cons_of_mem _ (List.mem_append_left _ (List.mem_append_left _ (List.mem_append_right _ h))))
theorem lkX4_parts_3 : Cond.fieldLink RX4 99 "StripInFiveSteps$Shed" "stripKind" "I" ∈ wsX4_parts := List.mem_of_getElem? (i := 3) rfl
theorem kX4_parts : Cal yX4_parts wsX4_parts cX4_parts 2 (some .int) 1 := ⟨⟨_, rfl⟩, by decide +kernel⟩
set_option maxHeartbeats 4000000 in
set_option maxRecDepth 100000 in
theorem c_X4_parts (l : Launch) (g : EE) (x0 : Nat) (h0 : Nat) (d0 : Nat) (k0 : Nat) (b0 : Nat) (a0 : Nat) (t0 : Nat) (r0 : Nat) (r1 : Nat) (ik : Nat) (rn : Nat) (h1 : Nat) (h2 : Nat) (W : Nat → Nat) (B : Nat → Nat) (sk : Nat) (ek : Nat) (tr : Nat) (a1 : Nat) (a2 : Nat) (a3 : Nat) (a4 : Nat) (a5 : Nat) (T : Nat → Int64) (ka : Nat) (Lb : Nat → Nat) (q2 : Nat → Nat) (n2 : Nat) (rf : Nat → Int32) (x : Int32) (hW : ∀ j, W j ≤ 9) (hB : okB B) (hsk : sk ≤ 3) (hek : ek ≤ 4) (hC : Cch T Lb) : CI l yX4_parts wsX4_parts ({ frames := 5, cells := 0, slots := 0, locals := 122 }) g [.ref x0, .int x] [(x0, .inr (4, [.ref h0, .ref d0, .ref k0, .int (nI ik), .ref b0, .ref a0, .ref t0, .ref r0, .int (nI rn), .ref r1])), (h0, .inr (0, [.ref h1, .ref h2, .int (nI sk), .int (nI ek), .int (nI tr)])), (h1, .inl (eI g, 41, .inl (fun j => nI (W j)))), (h2, .inl (eI g, 5, .inl (fun j => nI (B j)))), (a0, .inr (2, [.ref a1, .ref a2, .ref a3, .int (nI ka), .ref a5])), (a1, .inl (eJ g, 1476, .inr (.inl T))), (a2, .inl (eI g, 4, .inl (fun j => nI (Lb j)))), (a3, .inr (1, [.ref a4, .int (nI n2)])), (a4, .inl (eI g, 7, .inl (fun j => nI (q2 j)))), (r1, .inl (eI g, 7, .inl rf))] (fun (rz : Int32) (wz : va_W) => ∃ T9 : Nat → Int64, ∃ ka9 : Nat, ∃ Lb9 : Nat → Nat, ∃ q9 : Nat → Nat, ∃ n9 : Nat, rz = (rsp (if (1 ≤ x.toInt ∧ x.toInt ≤ 40) then 0 else 1) (nI (paS (tlT B sk ek) (lpB W) x.toNatClampNeg))) ∧ wz = [(x0, .inr (4, [.ref h0, .ref d0, .ref k0, .int (nI ik), .ref b0, .ref a0, .ref t0, .ref r0, .int (nI rn), .ref r1])), (h0, .inr (0, [.ref h1, .ref h2, .int (nI sk), .int (nI ek), .int (nI tr)])), (h1, .inl (eI g, 41, .inl (fun j => nI (W j)))), (h2, .inl (eI g, 5, .inl (fun j => nI (B j)))), (a0, .inr (2, [.ref a1, .ref a2, .ref a3, .int (nI ka9), .ref a5])), (a1, .inl (eJ g, 1476, .inr (.inl T9))), (a2, .inl (eI g, 4, .inl (fun j => nI (Lb9 j)))), (a3, .inr (1, [.ref a4, .int (nI n9)])), (a4, .inl (eI g, 7, .inl (fun j => nI (q9 j)))), (r1, .inl (eI g, 7, .inl (bump rf (if (1 ≤ x.toInt ∧ x.toInt ≤ 40) then 0 else 1))))] ∧ Cch T9 Lb9) 0 0 := by
  refine ctI (cc := cX4_parts) (maxL := 2) (ret := (some .int)) (by decide) rfl (Nat.le_of_ble_eq_true rfl) ?_
  intro p_ e_ s_ m_ bl_ mt_ cd_ A ls F hnm hP hD hS hl
  obtain ⟨hx, hb, hml, hown, hts, hK, hX, hA, hrt_, hlocks⟩ := id F
  have hl : lv_has ls 2 [(0, .ref x0), (1, .int x)] := hl
  obtain ⟨hb0, hb1, hb2, hb3, hb4, hb5⟩ := okB_b hB
  refine lv_iload_n hx hb dX4_parts_0 rfl (lv_at hl 1 rfl) ?_
  refine cSI (As := [.int x]) (rest := []) F (c_X4_isSecond l g x ) kX4_isSecond gX4_parts_X4_isSecond rfl rfl ⟨Nat.le_of_ble_eq_true rfl, Nat.le_of_ble_eq_true rfl⟩ hP hD hS [] [0, 1, 2, 3, 4, 5, 6, 7, 8, 9] rfl rfl hl.1 rfl rfl (Nat.le_of_ble_eq_true rfl) dX4_parts_1 ⟨Nat.le_of_ble_eq_true rfl, Nat.le_of_ble_eq_true rfl⟩ (fun rz w1 H locs hpo hP hD hS => ?_)
  obtain ⟨rfl, rfl⟩ := hpo
  obtain ⟨hP, hD⟩ := nx (ws' := [(x0, .inr (4, [.ref h0, .ref d0, .ref k0, .int (nI ik), .ref b0, .ref a0, .ref t0, .ref r0, .int (nI rn), .ref r1])), (h0, .inr (0, [.ref h1, .ref h2, .int (nI sk), .int (nI ek), .int (nI tr)])), (h1, .inl (eI g, 41, .inl (fun j => nI (W j)))), (h2, .inl (eI g, 5, .inl (fun j => nI (B j)))), (a0, .inr (2, [.ref a1, .ref a2, .ref a3, .int (nI ka), .ref a5])), (a1, .inl (eJ g, 1476, .inr (.inl T))), (a2, .inl (eI g, 4, .inl (fun j => nI (Lb j)))), (a3, .inr (1, [.ref a4, .int (nI n2)])), (a4, .inl (eI g, 7, .inl (fun j => nI (q2 j)))), (r1, .inl (eI g, 7, .inl rf))]) hP hD [0, 1, 2, 3, 4, 5, 6, 7, 8, 9] (ndB_ok _ rfl) rfl
  refine bqne (tgt := 13) hx hb dX4_parts_4 (by decide) (fun c4 => ?_) (fun c4 => ?_)
  · skip
    obtain ⟨k, hk_, rfl⟩ := natOf (x := x) (by omega)
    rw [nI_tI hk_] at c4
    refine lv_aload_n hx hb dX4_parts_13 rfl (lv_at hl 0 rfl) ?_
    refine xget F hP inX4_parts_X4 0 rfl rfl 5 (by decide) lkX4_parts_1 rfl dX4_parts_14 ?_
    refine lv_aload_n hx hb dX4_parts_17 rfl (lv_at hl 0 rfl) ?_
    refine xget F hP inX4_parts_X4 0 rfl rfl 0 (by decide) lkX4_parts_2 rfl dX4_parts_18 ?_
    refine lv_aload_n hx hb dX4_parts_21 rfl (lv_at hl 0 rfl) ?_
    refine xget F hP inX4_parts_X4 0 rfl rfl 0 (by decide) lkX4_parts_2 rfl dX4_parts_22 ?_
    refine xget F hP inX4_parts_X0 1 rfl rfl 2 (by decide) lkX4_parts_3 rfl dX4_parts_25 ?_
    refine cVV (As := [.ref h0, .int (nI sk)]) (rest := []) F (c_X2_take l g a0 a1 a2 a3 a4 a5 T ka Lb q2 n2 h0 h1 h2 W B sk ek tr sk (hC) (hB) (hek) (hsk)) kX2_take rfl gX4_parts_X2_take rfl rfl ⟨Nat.le_of_ble_eq_true rfl, Nat.le_of_ble_eq_true rfl⟩ hP hD hS [4, 5, 6, 7, 8, 1, 2, 3] [0, 9] rfl rfl 0 rfl rfl hl.1 rfl rfl (Nat.le_of_ble_eq_true rfl) dX4_parts_28 ⟨Nat.le_of_ble_eq_true rfl, Nat.le_of_ble_eq_true rfl⟩ (fun w1 H locs hpo hP hD hS => ?_)
    obtain ⟨T9_2, Lb9_2, q9_2, n9_2, rfl, hpo2⟩ := hpo
    obtain ⟨hP, hD⟩ := nx (ws' := [(x0, .inr (4, [.ref h0, .ref d0, .ref k0, .int (nI ik), .ref b0, .ref a0, .ref t0, .ref r0, .int (nI rn), .ref r1])), (h0, .inr (0, [.ref h1, .ref h2, .int (nI sk), .int (nI ek), .int (nI tr)])), (h1, .inl (eI g, 41, .inl (fun j => nI (W j)))), (h2, .inl (eI g, 5, .inl (fun j => nI (B j)))), (a0, .inr (2, [.ref a1, .ref a2, .ref a3, .int (nI (sk * 369)), .ref a5])), (a1, .inl (eJ g, 1476, .inr (.inl T9_2))), (a2, .inl (eI g, 4, .inl (fun j => nI (Lb9_2 j)))), (a3, .inr (1, [.ref a4, .int (nI n9_2)])), (a4, .inl (eI g, 7, .inl (fun j => nI (q9_2 j)))), (r1, .inl (eI g, 7, .inl rf))]) hP hD [0, 7, 8, 9, 2, 3, 4, 5, 6, 1] (ndB_ok _ rfl) rfl
    obtain ⟨hC9, hR9⟩ := hpo2
    refine lv_aload_n hx hb dX4_parts_31 rfl (lv_at hl 0 rfl) ?_
    refine xget F hP inX4_parts_X4 0 rfl rfl 5 (by decide) lkX4_parts_1 rfl dX4_parts_32 ?_
    refine lv_iload_n hx hb dX4_parts_35 rfl (lv_at hl 1 rfl) ?_
    refine lv_aload_n hx hb dX4_parts_36 rfl (lv_at hl 0 rfl) ?_
    refine xget F hP inX4_parts_X4 0 rfl rfl 0 (by decide) lkX4_parts_2 rfl dX4_parts_37 ?_
    refine cVL (As := []) (rest := [.int (nI k), .ref a0]) F (c_X0_left l g h0 h1 h2 W B sk ek tr (hW)) kX0_left rfl gX4_parts_X0_left rfl rfl ⟨Nat.le_of_ble_eq_true rfl, Nat.le_of_ble_eq_true rfl⟩ hP hD hS [1, 2, 3] [0, 4, 5, 6, 7, 8, 9] rfl rfl 0 rfl rfl hl.1 rfl rfl (Nat.le_of_ble_eq_true rfl) dX4_parts_40 ⟨Nat.le_of_ble_eq_true rfl, Nat.le_of_ble_eq_true rfl⟩ (fun rz w1 H locs hpo hP hD hS => ?_)
    obtain ⟨rfl, rfl⟩ := hpo
    obtain ⟨hP, hD⟩ := nx (ws' := [(x0, .inr (4, [.ref h0, .ref d0, .ref k0, .int (nI ik), .ref b0, .ref a0, .ref t0, .ref r0, .int (nI rn), .ref r1])), (h0, .inr (0, [.ref h1, .ref h2, .int (nI sk), .int (nI ek), .int (nI tr)])), (h1, .inl (eI g, 41, .inl (fun j => nI (W j)))), (h2, .inl (eI g, 5, .inl (fun j => nI (B j)))), (a0, .inr (2, [.ref a1, .ref a2, .ref a3, .int (nI (sk * 369)), .ref a5])), (a1, .inl (eJ g, 1476, .inr (.inl T9_2))), (a2, .inl (eI g, 4, .inl (fun j => nI (Lb9_2 j)))), (a3, .inr (1, [.ref a4, .int (nI n9_2)])), (a4, .inl (eI g, 7, .inl (fun j => nI (q9_2 j)))), (r1, .inl (eI g, 7, .inl rf))]) hP hD [0, 7, 8, 9, 1, 2, 3, 4, 5, 6] (ndB_ok _ rfl) rfl
    refine cVI (As := [.int (nI k), .long (lfM W)]) (rest := []) F (c_X2_partsOf l g a0 a1 a2 a3 a5 T9_2 (sk * 369) (tlT B sk ek) k (lfM W) (hR9) (by omega) (by omega) (by omega) (inS_lf W)) kX2_partsOf rfl gX4_parts_X2_partsOf rfl rfl ⟨Nat.le_of_ble_eq_true rfl, Nat.le_of_ble_eq_true rfl⟩ hP hD hS [4, 5] [0, 1, 2, 3, 6, 7, 8, 9] rfl rfl 0 rfl rfl hl.1 rfl rfl (Nat.le_of_ble_eq_true rfl) dX4_parts_43 ⟨Nat.le_of_ble_eq_true rfl, Nat.le_of_ble_eq_true rfl⟩ (fun rz w1 H locs hpo hP hD hS => ?_)
    obtain ⟨rfl, rfl⟩ := hpo
    obtain ⟨hP, hD⟩ := nx (ws' := [(x0, .inr (4, [.ref h0, .ref d0, .ref k0, .int (nI ik), .ref b0, .ref a0, .ref t0, .ref r0, .int (nI rn), .ref r1])), (h0, .inr (0, [.ref h1, .ref h2, .int (nI sk), .int (nI ek), .int (nI tr)])), (h1, .inl (eI g, 41, .inl (fun j => nI (W j)))), (h2, .inl (eI g, 5, .inl (fun j => nI (B j)))), (a0, .inr (2, [.ref a1, .ref a2, .ref a3, .int (nI (sk * 369)), .ref a5])), (a1, .inl (eJ g, 1476, .inr (.inl T9_2))), (a2, .inl (eI g, 4, .inl (fun j => nI (Lb9_2 j)))), (a3, .inr (1, [.ref a4, .int (nI n9_2)])), (a4, .inl (eI g, 7, .inl (fun j => nI (q9_2 j)))), (r1, .inl (eI g, 7, .inl rf))]) hP hD [0, 1, 2, 3, 8, 9, 4, 5, 6, 7] (ndB_ok _ rfl) rfl
    exact rtI F hP hD hS dX4_parts_46 (⟨_, _, _, _, _, by (try simp only [nI_tI hk_, nI_clamp hk_, bitL_lfM]); (repeat (first | rw [if_pos (by omega)] | rw [if_neg (by omega)])) <;> rfl, by (try simp only [nI_tI hk_, nI_clamp hk_]); (repeat (first | rw [if_pos (by omega)] | rw [if_neg (by omega)])) <;> rfl, hC9⟩)
  · skip
    refine lv_aload_n hx hb dX4_parts_7 rfl (lv_at hl 0 rfl) ?_
    refine lv_iconst (v := (-1)) hx hb dX4_parts_8 (by decide) ?_
    refine cVI (As := [.int (-1)]) (rest := []) F (c_X4_refuse l g x0 h0 d0 k0 b0 a0 t0 r0 r1 ik rn rf (-1) 1 (by decide) (by omega) (by omega)) kX4_refuse rfl gX4_parts_X4_refuse rfl rfl ⟨Nat.le_of_ble_eq_true rfl, Nat.le_of_ble_eq_true rfl⟩ hP hD hS [0, 9] [1, 2, 3, 4, 5, 6, 7, 8] rfl rfl 0 rfl rfl hl.1 rfl rfl (Nat.le_of_ble_eq_true rfl) dX4_parts_9 ⟨Nat.le_of_ble_eq_true rfl, Nat.le_of_ble_eq_true rfl⟩ (fun rz w1 H locs hpo hP hD hS => ?_)
    obtain ⟨rfl, rfl⟩ := hpo
    obtain ⟨hP, hD⟩ := nx (ws' := [(x0, .inr (4, [.ref h0, .ref d0, .ref k0, .int (nI ik), .ref b0, .ref a0, .ref t0, .ref r0, .int (nI rn), .ref r1])), (h0, .inr (0, [.ref h1, .ref h2, .int (nI sk), .int (nI ek), .int (nI tr)])), (h1, .inl (eI g, 41, .inl (fun j => nI (W j)))), (h2, .inl (eI g, 5, .inl (fun j => nI (B j)))), (a0, .inr (2, [.ref a1, .ref a2, .ref a3, .int (nI ka), .ref a5])), (a1, .inl (eJ g, 1476, .inr (.inl T))), (a2, .inl (eI g, 4, .inl (fun j => nI (Lb j)))), (a3, .inr (1, [.ref a4, .int (nI n2)])), (a4, .inl (eI g, 7, .inl (fun j => nI (q2 j)))), (r1, .inl (eI g, 7, .inl (bump rf 1)))]) hP hD [8, 0, 1, 2, 3, 4, 5, 6, 7, 9] (ndB_ok _ rfl) rfl
    exact rtI F hP hD hS dX4_parts_12 (⟨T, ka, Lb, q2, n2, by (repeat (first | rw [if_pos (by omega)] | rw [if_neg (by omega)])) <;> rfl, by (repeat (first | rw [if_pos (by omega)] | rw [if_neg (by omega)])) <;> rfl, hC⟩)

theorem inX5_parts_X5 : ∀ w ∈ u_ws RX5 TX5 20, w ∈ wsX5_parts := fun _ h => (List.mem_cons_of_mem _ (List.mem_append_right _ h))
theorem lkX5_parts_1 : Cond.fieldLink RX5 19 "StripInFiveStepsModel" "now" "[I" ∈ wsX5_parts := List.mem_of_getElem? (i := 1) rfl
theorem kX5_parts : Cal yX5_parts wsX5_parts cX5_parts 2 (some .int) 1 := ⟨⟨_, rfl⟩, by decide +kernel⟩
set_option maxHeartbeats 4000000 in
set_option maxRecDepth 100000 in
theorem c_X5_parts (l : Launch) (g : EE) (m0 : Nat) (m1 : Nat) (m2 : Nat) (m3 : Nat) (m4 : Nat) (m5 : Nat) (m6 : Nat) (m7 : Nat) (m8 : Nat) (m9 : Nat) (m10 : Nat) (m11 : Nat) (m12 : Nat) (m13 : Nat) (m14 : Nat) (kp : Nat) (rn : Nat) (tn : Nat) (ia : Nat) (wl : Nat) (si : Nat) (S : Nat → Nat) (O : Nat → Int32) (Y : Nat → Nat) (Z : Nat → Nat) (rf : Nat → Int32) (x : Int32) (hO : okS S) : CI l yX5_parts wsX5_parts ({ frames := 6, cells := 0, slots := 0, locals := 137 }) g [.ref m0, .int x] [(m0, .inr (5, [.ref m1, .ref m2, .ref m3, .int (nI kp), .ref m4, .ref m5, .ref m6, .ref m7, .ref m8, .int (nI rn), .ref m9, .int (nI tn), .int (nI ia), .int (nI wl), .ref m10, .ref m11, .ref m12, .int (nI si), .ref m13, .ref m14])), (m2, .inl (eI g, 49, .inl (fun j => nI (S j)))), (m4, .inl (eI g, 41, .inl O)), (m5, .inl (eI g, 9, .inl (fun j => nI (Y j)))), (m6, .inl (eI g, 9, .inl (fun j => nI (Z j)))), (m1, .inl (eI g, 7, .inl rf))] (fun (rz : Int32) (wz : va_W) => ∃ O9 : Nat → Int32, ∃ Y9 : Nat → Nat, ∃ Z9 : Nat → Nat, rz = (rsp (if (1 ≤ x.toInt ∧ x.toInt ≤ 40) then 0 else 1) (nI (paS (tlS S) (lpB S) x.toNatClampNeg))) ∧ wz = [(m0, .inr (5, [.ref m1, .ref m2, .ref m3, .int (nI kp), .ref m4, .ref m5, .ref m6, .ref m7, .ref m8, .int (nI rn), .ref m9, .int (nI tn), .int (nI ia), .int (nI wl), .ref m10, .ref m11, .ref m12, .int (nI si), .ref m13, .ref m14])), (m2, .inl (eI g, 49, .inl (fun j => nI (S j)))), (m4, .inl (eI g, 41, .inl O9)), (m5, .inl (eI g, 9, .inl (fun j => nI (Y9 j)))), (m6, .inl (eI g, 9, .inl (fun j => nI (Z9 j)))), (m1, .inl (eI g, 7, .inl (bump rf (if (1 ≤ x.toInt ∧ x.toInt ≤ 40) then 0 else 1))))]) 0 0 := by
  refine ctI (cc := cX5_parts) (maxL := 2) (ret := (some .int)) (by decide) rfl (Nat.le_of_ble_eq_true rfl) ?_
  intro p_ e_ s_ m_ bl_ mt_ cd_ A ls F hnm hP hD hS hl
  obtain ⟨hx, hb, hml, hown, hts, hK, hX, hA, hrt_, hlocks⟩ := id F
  have hl : lv_has ls 2 [(0, .ref m0), (1, .int x)] := hl
  refine lv_iload_n hx hb dX5_parts_0 rfl (lv_at hl 1 rfl) ?_
  refine cSI (As := [.int x]) (rest := []) F (c_X5_isNoSecond l g x ) kX5_isNoSecond gX5_parts_X5_isNoSecond rfl rfl ⟨Nat.le_of_ble_eq_true rfl, Nat.le_of_ble_eq_true rfl⟩ hP hD hS [] [0, 1, 2, 3, 4, 5] rfl rfl hl.1 rfl rfl (Nat.le_of_ble_eq_true rfl) dX5_parts_1 ⟨Nat.le_of_ble_eq_true rfl, Nat.le_of_ble_eq_true rfl⟩ (fun rz w1 H locs hpo hP hD hS => ?_)
  obtain ⟨rfl, rfl⟩ := hpo
  obtain ⟨hP, hD⟩ := nx (ws' := [(m0, .inr (5, [.ref m1, .ref m2, .ref m3, .int (nI kp), .ref m4, .ref m5, .ref m6, .ref m7, .ref m8, .int (nI rn), .ref m9, .int (nI tn), .int (nI ia), .int (nI wl), .ref m10, .ref m11, .ref m12, .int (nI si), .ref m13, .ref m14])), (m2, .inl (eI g, 49, .inl (fun j => nI (S j)))), (m4, .inl (eI g, 41, .inl O)), (m5, .inl (eI g, 9, .inl (fun j => nI (Y j)))), (m6, .inl (eI g, 9, .inl (fun j => nI (Z j)))), (m1, .inl (eI g, 7, .inl rf))]) hP hD [0, 1, 2, 3, 4, 5] (ndB_ok _ rfl) rfl
  refine bqeq (tgt := 15) hx hb dX5_parts_4 (by decide) (fun c4 => ?_) (fun c4 => ?_)
  · skip
    obtain ⟨k, hk_, rfl⟩ := natOf (x := x) (by omega)
    rw [nI_tI hk_] at c4
    refine lv_aload_n hx hb dX5_parts_15 rfl (lv_at hl 0 rfl) ?_
    refine lv_aload_n hx hb dX5_parts_16 rfl (lv_at hl 0 rfl) ?_
    refine xget F hP inX5_parts_X5 0 rfl rfl 1 (by decide) lkX5_parts_1 rfl dX5_parts_17 ?_
    refine lv_iload_n hx hb dX5_parts_20 rfl (lv_at hl 1 rfl) ?_
    refine cVI (As := [.ref m2, .int (nI k)]) (rest := []) F (nc_X5_partsOf l g m0 m1 m2 m3 m4 m5 m6 m7 m8 m9 m10 m11 m12 m13 m14 kp rn tn ia wl si S O Y Z k (hO) (by omega)) kX5_partsOf rfl gX5_parts_X5_partsOf rfl rfl ⟨Nat.le_of_ble_eq_true rfl, Nat.le_of_ble_eq_true rfl⟩ hP hD hS [0, 1, 2, 3, 4] [5] rfl rfl 0 rfl rfl hl.1 rfl rfl (Nat.le_of_ble_eq_true rfl) dX5_parts_21 ⟨Nat.le_of_ble_eq_true rfl, Nat.le_of_ble_eq_true rfl⟩ (fun rz w1 H locs hpo hP hD hS => ?_)
    obtain ⟨O9_2, Y9_2, Z9_2, rfl, rfl⟩ := hpo
    obtain ⟨hP, hD⟩ := nx (ws' := [(m0, .inr (5, [.ref m1, .ref m2, .ref m3, .int (nI kp), .ref m4, .ref m5, .ref m6, .ref m7, .ref m8, .int (nI rn), .ref m9, .int (nI tn), .int (nI ia), .int (nI wl), .ref m10, .ref m11, .ref m12, .int (nI si), .ref m13, .ref m14])), (m2, .inl (eI g, 49, .inl (fun j => nI (S j)))), (m4, .inl (eI g, 41, .inl O9_2)), (m5, .inl (eI g, 9, .inl (fun j => nI (Y9_2 j)))), (m6, .inl (eI g, 9, .inl (fun j => nI (Z9_2 j)))), (m1, .inl (eI g, 7, .inl rf))]) hP hD [1, 2, 3, 4, 5, 0] (ndB_ok _ rfl) rfl
    exact rtI F hP hD hS dX5_parts_24 (⟨_, _, _, by (try simp only [nI_tI hk_, nI_clamp hk_]); (repeat (first | rw [if_pos (by omega)] | rw [if_neg (by omega)])) <;> rfl, by (try simp only [nI_tI hk_, nI_clamp hk_]); (repeat (first | rw [if_pos (by omega)] | rw [if_neg (by omega)])) <;> rfl⟩)
  · skip
    refine lv_aload_n hx hb dX5_parts_7 rfl (lv_at hl 0 rfl) ?_
    refine lv_iconst (v := (-1)) hx hb dX5_parts_8 (by decide) ?_
    refine cVI (As := [.int (-1)]) (rest := []) F (c_X5_no l g m0 m1 m2 m3 m4 m5 m6 m7 m8 m9 m10 m11 m12 m13 m14 kp rn tn ia wl si rf (-1) 1 (by decide) (by omega) (by omega)) kX5_no rfl gX5_parts_X5_no rfl rfl ⟨Nat.le_of_ble_eq_true rfl, Nat.le_of_ble_eq_true rfl⟩ hP hD hS [0, 5] [1, 2, 3, 4] rfl rfl 0 rfl rfl hl.1 rfl rfl (Nat.le_of_ble_eq_true rfl) dX5_parts_9 ⟨Nat.le_of_ble_eq_true rfl, Nat.le_of_ble_eq_true rfl⟩ (fun rz w1 H locs hpo hP hD hS => ?_)
    obtain ⟨rfl, rfl⟩ := hpo
    obtain ⟨hP, hD⟩ := nx (ws' := [(m0, .inr (5, [.ref m1, .ref m2, .ref m3, .int (nI kp), .ref m4, .ref m5, .ref m6, .ref m7, .ref m8, .int (nI rn), .ref m9, .int (nI tn), .int (nI ia), .int (nI wl), .ref m10, .ref m11, .ref m12, .int (nI si), .ref m13, .ref m14])), (m2, .inl (eI g, 49, .inl (fun j => nI (S j)))), (m4, .inl (eI g, 41, .inl O)), (m5, .inl (eI g, 9, .inl (fun j => nI (Y j)))), (m6, .inl (eI g, 9, .inl (fun j => nI (Z j)))), (m1, .inl (eI g, 7, .inl (bump rf 1)))]) hP hD [4, 0, 1, 2, 3, 5] (ndB_ok _ rfl) rfl
    refine lv_goto (tgt := 24) hx hb dX5_parts_12 (by decide) ?_
    exact rtI F hP hD hS dX5_parts_24 (⟨O, Y, Z, by (repeat (first | rw [if_pos (by omega)] | rw [if_neg (by omega)])) <;> rfl, by (repeat (first | rw [if_pos (by omega)] | rw [if_neg (by omega)])) <;> rfl⟩)

theorem inX4_worst_X4 : ∀ w ∈ u_ws RX4 TX4 10, w ∈ wsX4_worst := fun _ h => (List.mem_cons_of_mem _ (List.mem_append_left _ (List.mem_append_left _ (List.mem_append_left _ (List.mem_append_right _ h)))))
theorem lkX4_worst_1 : Cond.fieldLink RX4 36 "StripInFiveSteps" "strips" "LStripInFiveSteps$Strips;" ∈ wsX4_worst := List.mem_of_getElem? (i := 1) rfl
theorem lkX4_worst_2 : Cond.fieldLink RX4 10 "StripInFiveSteps" "now" "LStripInFiveSteps$Shed;" ∈ wsX4_worst := List.mem_of_getElem? (i := 2) rfl
theorem inX4_worst_X0 : ∀ w ∈ u_ws RX0 TX0 5, w ∈ wsX4_worst := fun _ h => (List.mem_cons_of_mem _ (List.mem_append_left _ (List.mem_append_left _ (List.mem_append_right _ h))))
theorem lkX4_worst_3 : Cond.fieldLink RX4 99 "StripInFiveSteps$Shed" "stripKind" "I" ∈ wsX4_worst := List.mem_of_getElem? (i := 3) rfl
theorem kX4_worst : Cal yX4_worst wsX4_worst cX4_worst 2 (some .int) 1 := ⟨⟨_, rfl⟩, by decide +kernel⟩
set_option maxHeartbeats 4000000 in
set_option maxRecDepth 100000 in
theorem c_X4_worst (l : Launch) (g : EE) (x0 : Nat) (h0 : Nat) (d0 : Nat) (k0 : Nat) (b0 : Nat) (a0 : Nat) (t0 : Nat) (r0 : Nat) (r1 : Nat) (ik : Nat) (rn : Nat) (h1 : Nat) (h2 : Nat) (W : Nat → Nat) (B : Nat → Nat) (sk : Nat) (ek : Nat) (tr : Nat) (a1 : Nat) (a2 : Nat) (a3 : Nat) (a4 : Nat) (a5 : Nat) (T : Nat → Int64) (ka : Nat) (Lb : Nat → Nat) (q2 : Nat → Nat) (n2 : Nat) (rf : Nat → Int32) (x : Int32) (hW : ∀ j, W j ≤ 9) (hB : okB B) (hsk : sk ≤ 3) (hek : ek ≤ 4) (hC : Cch T Lb) : CI l yX4_worst wsX4_worst ({ frames := 5, cells := 0, slots := 0, locals := 122 }) g [.ref x0, .int x] [(x0, .inr (4, [.ref h0, .ref d0, .ref k0, .int (nI ik), .ref b0, .ref a0, .ref t0, .ref r0, .int (nI rn), .ref r1])), (h0, .inr (0, [.ref h1, .ref h2, .int (nI sk), .int (nI ek), .int (nI tr)])), (h1, .inl (eI g, 41, .inl (fun j => nI (W j)))), (h2, .inl (eI g, 5, .inl (fun j => nI (B j)))), (a0, .inr (2, [.ref a1, .ref a2, .ref a3, .int (nI ka), .ref a5])), (a1, .inl (eJ g, 1476, .inr (.inl T))), (a2, .inl (eI g, 4, .inl (fun j => nI (Lb j)))), (a3, .inr (1, [.ref a4, .int (nI n2)])), (a4, .inl (eI g, 7, .inl (fun j => nI (q2 j)))), (r1, .inl (eI g, 7, .inl rf))] (fun (rz : Int32) (wz : va_W) => ∃ T9 : Nat → Int64, ∃ ka9 : Nat, ∃ Lb9 : Nat → Nat, ∃ q9 : Nat → Nat, ∃ n9 : Nat, rz = (rsp (if (1 ≤ x.toInt ∧ x.toInt ≤ 40) then 0 else 1) (nI (woS (tlT B sk ek) (lpB W) x.toNatClampNeg))) ∧ wz = [(x0, .inr (4, [.ref h0, .ref d0, .ref k0, .int (nI ik), .ref b0, .ref a0, .ref t0, .ref r0, .int (nI rn), .ref r1])), (h0, .inr (0, [.ref h1, .ref h2, .int (nI sk), .int (nI ek), .int (nI tr)])), (h1, .inl (eI g, 41, .inl (fun j => nI (W j)))), (h2, .inl (eI g, 5, .inl (fun j => nI (B j)))), (a0, .inr (2, [.ref a1, .ref a2, .ref a3, .int (nI ka9), .ref a5])), (a1, .inl (eJ g, 1476, .inr (.inl T9))), (a2, .inl (eI g, 4, .inl (fun j => nI (Lb9 j)))), (a3, .inr (1, [.ref a4, .int (nI n9)])), (a4, .inl (eI g, 7, .inl (fun j => nI (q9 j)))), (r1, .inl (eI g, 7, .inl (bump rf (if (1 ≤ x.toInt ∧ x.toInt ≤ 40) then 0 else 1))))] ∧ Cch T9 Lb9) 0 0 := by
  refine ctI (cc := cX4_worst) (maxL := 2) (ret := (some .int)) (by decide) rfl (Nat.le_of_ble_eq_true rfl) ?_
  intro p_ e_ s_ m_ bl_ mt_ cd_ A ls F hnm hP hD hS hl
  obtain ⟨hx, hb, hml, hown, hts, hK, hX, hA, hrt_, hlocks⟩ := id F
  have hl : lv_has ls 2 [(0, .ref x0), (1, .int x)] := hl
  obtain ⟨hb0, hb1, hb2, hb3, hb4, hb5⟩ := okB_b hB
  refine lv_iload_n hx hb dX4_worst_0 rfl (lv_at hl 1 rfl) ?_
  refine cSI (As := [.int x]) (rest := []) F (c_X4_isSecond l g x ) kX4_isSecond gX4_worst_X4_isSecond rfl rfl ⟨Nat.le_of_ble_eq_true rfl, Nat.le_of_ble_eq_true rfl⟩ hP hD hS [] [0, 1, 2, 3, 4, 5, 6, 7, 8, 9] rfl rfl hl.1 rfl rfl (Nat.le_of_ble_eq_true rfl) dX4_worst_1 ⟨Nat.le_of_ble_eq_true rfl, Nat.le_of_ble_eq_true rfl⟩ (fun rz w1 H locs hpo hP hD hS => ?_)
  obtain ⟨rfl, rfl⟩ := hpo
  obtain ⟨hP, hD⟩ := nx (ws' := [(x0, .inr (4, [.ref h0, .ref d0, .ref k0, .int (nI ik), .ref b0, .ref a0, .ref t0, .ref r0, .int (nI rn), .ref r1])), (h0, .inr (0, [.ref h1, .ref h2, .int (nI sk), .int (nI ek), .int (nI tr)])), (h1, .inl (eI g, 41, .inl (fun j => nI (W j)))), (h2, .inl (eI g, 5, .inl (fun j => nI (B j)))), (a0, .inr (2, [.ref a1, .ref a2, .ref a3, .int (nI ka), .ref a5])), (a1, .inl (eJ g, 1476, .inr (.inl T))), (a2, .inl (eI g, 4, .inl (fun j => nI (Lb j)))), (a3, .inr (1, [.ref a4, .int (nI n2)])), (a4, .inl (eI g, 7, .inl (fun j => nI (q2 j)))), (r1, .inl (eI g, 7, .inl rf))]) hP hD [0, 1, 2, 3, 4, 5, 6, 7, 8, 9] (ndB_ok _ rfl) rfl
  refine bqne (tgt := 13) hx hb dX4_worst_4 (by decide) (fun c4 => ?_) (fun c4 => ?_)
  · skip
    obtain ⟨k, hk_, rfl⟩ := natOf (x := x) (by omega)
    rw [nI_tI hk_] at c4
    refine lv_aload_n hx hb dX4_worst_13 rfl (lv_at hl 0 rfl) ?_
    refine xget F hP inX4_worst_X4 0 rfl rfl 5 (by decide) lkX4_worst_1 rfl dX4_worst_14 ?_
    refine lv_aload_n hx hb dX4_worst_17 rfl (lv_at hl 0 rfl) ?_
    refine xget F hP inX4_worst_X4 0 rfl rfl 0 (by decide) lkX4_worst_2 rfl dX4_worst_18 ?_
    refine lv_aload_n hx hb dX4_worst_21 rfl (lv_at hl 0 rfl) ?_
    refine xget F hP inX4_worst_X4 0 rfl rfl 0 (by decide) lkX4_worst_2 rfl dX4_worst_22 ?_
    refine xget F hP inX4_worst_X0 1 rfl rfl 2 (by decide) lkX4_worst_3 rfl dX4_worst_25 ?_
    refine cVV (As := [.ref h0, .int (nI sk)]) (rest := []) F (c_X2_take l g a0 a1 a2 a3 a4 a5 T ka Lb q2 n2 h0 h1 h2 W B sk ek tr sk (hC) (hB) (hek) (hsk)) kX2_take rfl gX4_worst_X2_take rfl rfl ⟨Nat.le_of_ble_eq_true rfl, Nat.le_of_ble_eq_true rfl⟩ hP hD hS [4, 5, 6, 7, 8, 1, 2, 3] [0, 9] rfl rfl 0 rfl rfl hl.1 rfl rfl (Nat.le_of_ble_eq_true rfl) dX4_worst_28 ⟨Nat.le_of_ble_eq_true rfl, Nat.le_of_ble_eq_true rfl⟩ (fun w1 H locs hpo hP hD hS => ?_)
    obtain ⟨T9_2, Lb9_2, q9_2, n9_2, rfl, hpo2⟩ := hpo
    obtain ⟨hP, hD⟩ := nx (ws' := [(x0, .inr (4, [.ref h0, .ref d0, .ref k0, .int (nI ik), .ref b0, .ref a0, .ref t0, .ref r0, .int (nI rn), .ref r1])), (h0, .inr (0, [.ref h1, .ref h2, .int (nI sk), .int (nI ek), .int (nI tr)])), (h1, .inl (eI g, 41, .inl (fun j => nI (W j)))), (h2, .inl (eI g, 5, .inl (fun j => nI (B j)))), (a0, .inr (2, [.ref a1, .ref a2, .ref a3, .int (nI (sk * 369)), .ref a5])), (a1, .inl (eJ g, 1476, .inr (.inl T9_2))), (a2, .inl (eI g, 4, .inl (fun j => nI (Lb9_2 j)))), (a3, .inr (1, [.ref a4, .int (nI n9_2)])), (a4, .inl (eI g, 7, .inl (fun j => nI (q9_2 j)))), (r1, .inl (eI g, 7, .inl rf))]) hP hD [0, 7, 8, 9, 2, 3, 4, 5, 6, 1] (ndB_ok _ rfl) rfl
    obtain ⟨hC9, hR9⟩ := hpo2
    refine lv_aload_n hx hb dX4_worst_31 rfl (lv_at hl 0 rfl) ?_
    refine xget F hP inX4_worst_X4 0 rfl rfl 5 (by decide) lkX4_worst_1 rfl dX4_worst_32 ?_
    refine lv_iload_n hx hb dX4_worst_35 rfl (lv_at hl 1 rfl) ?_
    refine lv_aload_n hx hb dX4_worst_36 rfl (lv_at hl 0 rfl) ?_
    refine xget F hP inX4_worst_X4 0 rfl rfl 0 (by decide) lkX4_worst_2 rfl dX4_worst_37 ?_
    refine cVL (As := []) (rest := [.int (nI k), .ref a0]) F (c_X0_left l g h0 h1 h2 W B sk ek tr (hW)) kX0_left rfl gX4_worst_X0_left rfl rfl ⟨Nat.le_of_ble_eq_true rfl, Nat.le_of_ble_eq_true rfl⟩ hP hD hS [1, 2, 3] [0, 4, 5, 6, 7, 8, 9] rfl rfl 0 rfl rfl hl.1 rfl rfl (Nat.le_of_ble_eq_true rfl) dX4_worst_40 ⟨Nat.le_of_ble_eq_true rfl, Nat.le_of_ble_eq_true rfl⟩ (fun rz w1 H locs hpo hP hD hS => ?_)
    obtain ⟨rfl, rfl⟩ := hpo
    obtain ⟨hP, hD⟩ := nx (ws' := [(x0, .inr (4, [.ref h0, .ref d0, .ref k0, .int (nI ik), .ref b0, .ref a0, .ref t0, .ref r0, .int (nI rn), .ref r1])), (h0, .inr (0, [.ref h1, .ref h2, .int (nI sk), .int (nI ek), .int (nI tr)])), (h1, .inl (eI g, 41, .inl (fun j => nI (W j)))), (h2, .inl (eI g, 5, .inl (fun j => nI (B j)))), (a0, .inr (2, [.ref a1, .ref a2, .ref a3, .int (nI (sk * 369)), .ref a5])), (a1, .inl (eJ g, 1476, .inr (.inl T9_2))), (a2, .inl (eI g, 4, .inl (fun j => nI (Lb9_2 j)))), (a3, .inr (1, [.ref a4, .int (nI n9_2)])), (a4, .inl (eI g, 7, .inl (fun j => nI (q9_2 j)))), (r1, .inl (eI g, 7, .inl rf))]) hP hD [0, 7, 8, 9, 1, 2, 3, 4, 5, 6] (ndB_ok _ rfl) rfl
    refine cVI (As := [.int (nI k), .long (lfM W)]) (rest := []) F (c_X2_worstOf l g a0 a1 a2 a3 a5 T9_2 (sk * 369) (tlT B sk ek) k (lfM W) (hR9) (by omega) (by omega) (by omega) (inS_lf W)) kX2_worstOf rfl gX4_worst_X2_worstOf rfl rfl ⟨Nat.le_of_ble_eq_true rfl, Nat.le_of_ble_eq_true rfl⟩ hP hD hS [4, 5] [0, 1, 2, 3, 6, 7, 8, 9] rfl rfl 0 rfl rfl hl.1 rfl rfl (Nat.le_of_ble_eq_true rfl) dX4_worst_43 ⟨Nat.le_of_ble_eq_true rfl, Nat.le_of_ble_eq_true rfl⟩ (fun rz w1 H locs hpo hP hD hS => ?_)
    obtain ⟨rfl, rfl⟩ := hpo
    obtain ⟨hP, hD⟩ := nx (ws' := [(x0, .inr (4, [.ref h0, .ref d0, .ref k0, .int (nI ik), .ref b0, .ref a0, .ref t0, .ref r0, .int (nI rn), .ref r1])), (h0, .inr (0, [.ref h1, .ref h2, .int (nI sk), .int (nI ek), .int (nI tr)])), (h1, .inl (eI g, 41, .inl (fun j => nI (W j)))), (h2, .inl (eI g, 5, .inl (fun j => nI (B j)))), (a0, .inr (2, [.ref a1, .ref a2, .ref a3, .int (nI (sk * 369)), .ref a5])), (a1, .inl (eJ g, 1476, .inr (.inl T9_2))), (a2, .inl (eI g, 4, .inl (fun j => nI (Lb9_2 j)))), (a3, .inr (1, [.ref a4, .int (nI n9_2)])), (a4, .inl (eI g, 7, .inl (fun j => nI (q9_2 j)))), (r1, .inl (eI g, 7, .inl rf))]) hP hD [0, 1, 2, 3, 8, 9, 4, 5, 6, 7] (ndB_ok _ rfl) rfl
    exact rtI F hP hD hS dX4_worst_46 (⟨_, _, _, _, _, by (try simp only [nI_tI hk_, nI_clamp hk_, bitL_lfM]); (repeat (first | rw [if_pos (by omega)] | rw [if_neg (by omega)])) <;> rfl, by (try simp only [nI_tI hk_, nI_clamp hk_]); (repeat (first | rw [if_pos (by omega)] | rw [if_neg (by omega)])) <;> rfl, hC9⟩)
  · skip
    refine lv_aload_n hx hb dX4_worst_7 rfl (lv_at hl 0 rfl) ?_
    refine lv_iconst (v := (-1)) hx hb dX4_worst_8 (by decide) ?_
    refine cVI (As := [.int (-1)]) (rest := []) F (c_X4_refuse l g x0 h0 d0 k0 b0 a0 t0 r0 r1 ik rn rf (-1) 1 (by decide) (by omega) (by omega)) kX4_refuse rfl gX4_worst_X4_refuse rfl rfl ⟨Nat.le_of_ble_eq_true rfl, Nat.le_of_ble_eq_true rfl⟩ hP hD hS [0, 9] [1, 2, 3, 4, 5, 6, 7, 8] rfl rfl 0 rfl rfl hl.1 rfl rfl (Nat.le_of_ble_eq_true rfl) dX4_worst_9 ⟨Nat.le_of_ble_eq_true rfl, Nat.le_of_ble_eq_true rfl⟩ (fun rz w1 H locs hpo hP hD hS => ?_)
    obtain ⟨rfl, rfl⟩ := hpo
    obtain ⟨hP, hD⟩ := nx (ws' := [(x0, .inr (4, [.ref h0, .ref d0, .ref k0, .int (nI ik), .ref b0, .ref a0, .ref t0, .ref r0, .int (nI rn), .ref r1])), (h0, .inr (0, [.ref h1, .ref h2, .int (nI sk), .int (nI ek), .int (nI tr)])), (h1, .inl (eI g, 41, .inl (fun j => nI (W j)))), (h2, .inl (eI g, 5, .inl (fun j => nI (B j)))), (a0, .inr (2, [.ref a1, .ref a2, .ref a3, .int (nI ka), .ref a5])), (a1, .inl (eJ g, 1476, .inr (.inl T))), (a2, .inl (eI g, 4, .inl (fun j => nI (Lb j)))), (a3, .inr (1, [.ref a4, .int (nI n2)])), (a4, .inl (eI g, 7, .inl (fun j => nI (q2 j)))), (r1, .inl (eI g, 7, .inl (bump rf 1)))]) hP hD [8, 0, 1, 2, 3, 4, 5, 6, 7, 9] (ndB_ok _ rfl) rfl
    exact rtI F hP hD hS dX4_worst_12 (⟨T, ka, Lb, q2, n2, by (repeat (first | rw [if_pos (by omega)] | rw [if_neg (by omega)])) <;> rfl, by (repeat (first | rw [if_pos (by omega)] | rw [if_neg (by omega)])) <;> rfl, hC⟩)

theorem inX5_worst_X5 : ∀ w ∈ u_ws RX5 TX5 20, w ∈ wsX5_worst := fun _ h => (List.mem_cons_of_mem _ (List.mem_append_right _ h))
theorem lkX5_worst_1 : Cond.fieldLink RX5 19 "StripInFiveStepsModel" "now" "[I" ∈ wsX5_worst := List.mem_of_getElem? (i := 1) rfl
theorem kX5_worst : Cal yX5_worst wsX5_worst cX5_worst 2 (some .int) 1 := ⟨⟨_, rfl⟩, by decide +kernel⟩
set_option maxHeartbeats 4000000 in
set_option maxRecDepth 100000 in
theorem c_X5_worst (l : Launch) (g : EE) (m0 : Nat) (m1 : Nat) (m2 : Nat) (m3 : Nat) (m4 : Nat) (m5 : Nat) (m6 : Nat) (m7 : Nat) (m8 : Nat) (m9 : Nat) (m10 : Nat) (m11 : Nat) (m12 : Nat) (m13 : Nat) (m14 : Nat) (kp : Nat) (rn : Nat) (tn : Nat) (ia : Nat) (wl : Nat) (si : Nat) (S : Nat → Nat) (O : Nat → Int32) (Y : Nat → Nat) (Z : Nat → Nat) (rf : Nat → Int32) (x : Int32) (hO : okS S) : CI l yX5_worst wsX5_worst ({ frames := 6, cells := 0, slots := 0, locals := 137 }) g [.ref m0, .int x] [(m0, .inr (5, [.ref m1, .ref m2, .ref m3, .int (nI kp), .ref m4, .ref m5, .ref m6, .ref m7, .ref m8, .int (nI rn), .ref m9, .int (nI tn), .int (nI ia), .int (nI wl), .ref m10, .ref m11, .ref m12, .int (nI si), .ref m13, .ref m14])), (m2, .inl (eI g, 49, .inl (fun j => nI (S j)))), (m4, .inl (eI g, 41, .inl O)), (m5, .inl (eI g, 9, .inl (fun j => nI (Y j)))), (m6, .inl (eI g, 9, .inl (fun j => nI (Z j)))), (m1, .inl (eI g, 7, .inl rf))] (fun (rz : Int32) (wz : va_W) => ∃ O9 : Nat → Int32, ∃ Y9 : Nat → Nat, ∃ Z9 : Nat → Nat, rz = (rsp (if (1 ≤ x.toInt ∧ x.toInt ≤ 40) then 0 else 1) (nI (woS (tlS S) (lpB S) x.toNatClampNeg))) ∧ wz = [(m0, .inr (5, [.ref m1, .ref m2, .ref m3, .int (nI kp), .ref m4, .ref m5, .ref m6, .ref m7, .ref m8, .int (nI rn), .ref m9, .int (nI tn), .int (nI ia), .int (nI wl), .ref m10, .ref m11, .ref m12, .int (nI si), .ref m13, .ref m14])), (m2, .inl (eI g, 49, .inl (fun j => nI (S j)))), (m4, .inl (eI g, 41, .inl O9)), (m5, .inl (eI g, 9, .inl (fun j => nI (Y9 j)))), (m6, .inl (eI g, 9, .inl (fun j => nI (Z9 j)))), (m1, .inl (eI g, 7, .inl (bump rf (if (1 ≤ x.toInt ∧ x.toInt ≤ 40) then 0 else 1))))]) 0 0 := by
  refine ctI (cc := cX5_worst) (maxL := 2) (ret := (some .int)) (by decide) rfl (Nat.le_of_ble_eq_true rfl) ?_
  intro p_ e_ s_ m_ bl_ mt_ cd_ A ls F hnm hP hD hS hl
  obtain ⟨hx, hb, hml, hown, hts, hK, hX, hA, hrt_, hlocks⟩ := id F
  have hl : lv_has ls 2 [(0, .ref m0), (1, .int x)] := hl
  refine lv_iload_n hx hb dX5_worst_0 rfl (lv_at hl 1 rfl) ?_
  refine cSI (As := [.int x]) (rest := []) F (c_X5_isNoSecond l g x ) kX5_isNoSecond gX5_worst_X5_isNoSecond rfl rfl ⟨Nat.le_of_ble_eq_true rfl, Nat.le_of_ble_eq_true rfl⟩ hP hD hS [] [0, 1, 2, 3, 4, 5] rfl rfl hl.1 rfl rfl (Nat.le_of_ble_eq_true rfl) dX5_worst_1 ⟨Nat.le_of_ble_eq_true rfl, Nat.le_of_ble_eq_true rfl⟩ (fun rz w1 H locs hpo hP hD hS => ?_)
  obtain ⟨rfl, rfl⟩ := hpo
  obtain ⟨hP, hD⟩ := nx (ws' := [(m0, .inr (5, [.ref m1, .ref m2, .ref m3, .int (nI kp), .ref m4, .ref m5, .ref m6, .ref m7, .ref m8, .int (nI rn), .ref m9, .int (nI tn), .int (nI ia), .int (nI wl), .ref m10, .ref m11, .ref m12, .int (nI si), .ref m13, .ref m14])), (m2, .inl (eI g, 49, .inl (fun j => nI (S j)))), (m4, .inl (eI g, 41, .inl O)), (m5, .inl (eI g, 9, .inl (fun j => nI (Y j)))), (m6, .inl (eI g, 9, .inl (fun j => nI (Z j)))), (m1, .inl (eI g, 7, .inl rf))]) hP hD [0, 1, 2, 3, 4, 5] (ndB_ok _ rfl) rfl
  refine bqeq (tgt := 15) hx hb dX5_worst_4 (by decide) (fun c4 => ?_) (fun c4 => ?_)
  · skip
    obtain ⟨k, hk_, rfl⟩ := natOf (x := x) (by omega)
    rw [nI_tI hk_] at c4
    refine lv_aload_n hx hb dX5_worst_15 rfl (lv_at hl 0 rfl) ?_
    refine lv_aload_n hx hb dX5_worst_16 rfl (lv_at hl 0 rfl) ?_
    refine xget F hP inX5_worst_X5 0 rfl rfl 1 (by decide) lkX5_worst_1 rfl dX5_worst_17 ?_
    refine lv_iload_n hx hb dX5_worst_20 rfl (lv_at hl 1 rfl) ?_
    refine cVI (As := [.ref m2, .int (nI k)]) (rest := []) F (nc_X5_worstOf l g m0 m1 m2 m3 m4 m5 m6 m7 m8 m9 m10 m11 m12 m13 m14 kp rn tn ia wl si S O Y Z k (hO) (by omega)) kX5_worstOf rfl gX5_worst_X5_worstOf rfl rfl ⟨Nat.le_of_ble_eq_true rfl, Nat.le_of_ble_eq_true rfl⟩ hP hD hS [0, 1, 2, 3, 4] [5] rfl rfl 0 rfl rfl hl.1 rfl rfl (Nat.le_of_ble_eq_true rfl) dX5_worst_21 ⟨Nat.le_of_ble_eq_true rfl, Nat.le_of_ble_eq_true rfl⟩ (fun rz w1 H locs hpo hP hD hS => ?_)
    obtain ⟨O9_2, Y9_2, Z9_2, rfl, rfl⟩ := hpo
    obtain ⟨hP, hD⟩ := nx (ws' := [(m0, .inr (5, [.ref m1, .ref m2, .ref m3, .int (nI kp), .ref m4, .ref m5, .ref m6, .ref m7, .ref m8, .int (nI rn), .ref m9, .int (nI tn), .int (nI ia), .int (nI wl), .ref m10, .ref m11, .ref m12, .int (nI si), .ref m13, .ref m14])), (m2, .inl (eI g, 49, .inl (fun j => nI (S j)))), (m4, .inl (eI g, 41, .inl O9_2)), (m5, .inl (eI g, 9, .inl (fun j => nI (Y9_2 j)))), (m6, .inl (eI g, 9, .inl (fun j => nI (Z9_2 j)))), (m1, .inl (eI g, 7, .inl rf))]) hP hD [1, 2, 3, 4, 5, 0] (ndB_ok _ rfl) rfl
    exact rtI F hP hD hS dX5_worst_24 (⟨_, _, _, by (try simp only [nI_tI hk_, nI_clamp hk_]); (repeat (first | rw [if_pos (by omega)] | rw [if_neg (by omega)])) <;> rfl, by (try simp only [nI_tI hk_, nI_clamp hk_]); (repeat (first | rw [if_pos (by omega)] | rw [if_neg (by omega)])) <;> rfl⟩)
  · skip
    refine lv_aload_n hx hb dX5_worst_7 rfl (lv_at hl 0 rfl) ?_
    refine lv_iconst (v := (-1)) hx hb dX5_worst_8 (by decide) ?_
    refine cVI (As := [.int (-1)]) (rest := []) F (c_X5_no l g m0 m1 m2 m3 m4 m5 m6 m7 m8 m9 m10 m11 m12 m13 m14 kp rn tn ia wl si rf (-1) 1 (by decide) (by omega) (by omega)) kX5_no rfl gX5_worst_X5_no rfl rfl ⟨Nat.le_of_ble_eq_true rfl, Nat.le_of_ble_eq_true rfl⟩ hP hD hS [0, 5] [1, 2, 3, 4] rfl rfl 0 rfl rfl hl.1 rfl rfl (Nat.le_of_ble_eq_true rfl) dX5_worst_9 ⟨Nat.le_of_ble_eq_true rfl, Nat.le_of_ble_eq_true rfl⟩ (fun rz w1 H locs hpo hP hD hS => ?_)
    obtain ⟨rfl, rfl⟩ := hpo
    obtain ⟨hP, hD⟩ := nx (ws' := [(m0, .inr (5, [.ref m1, .ref m2, .ref m3, .int (nI kp), .ref m4, .ref m5, .ref m6, .ref m7, .ref m8, .int (nI rn), .ref m9, .int (nI tn), .int (nI ia), .int (nI wl), .ref m10, .ref m11, .ref m12, .int (nI si), .ref m13, .ref m14])), (m2, .inl (eI g, 49, .inl (fun j => nI (S j)))), (m4, .inl (eI g, 41, .inl O)), (m5, .inl (eI g, 9, .inl (fun j => nI (Y j)))), (m6, .inl (eI g, 9, .inl (fun j => nI (Z j)))), (m1, .inl (eI g, 7, .inl (bump rf 1)))]) hP hD [4, 0, 1, 2, 3, 5] (ndB_ok _ rfl) rfl
    refine lv_goto (tgt := 24) hx hb dX5_worst_12 (by decide) ?_
    exact rtI F hP hD hS dX5_worst_24 (⟨O, Y, Z, by (repeat (first | rw [if_pos (by omega)] | rw [if_neg (by omega)])) <;> rfl, by (repeat (first | rw [if_pos (by omega)] | rw [if_neg (by omega)])) <;> rfl⟩)

theorem inX4_give_X4 : ∀ w ∈ u_ws RX4 TX4 10, w ∈ wsX4_give := fun _ h => (List.mem_cons_of_mem _ (List.mem_append_left _ (List.mem_append_right _ h)))
theorem lkX4_give_1 : Cond.fieldLink RX4 10 "StripInFiveSteps" "now" "LStripInFiveSteps$Shed;" ∈ wsX4_give := List.mem_of_getElem? (i := 1) rfl
theorem kX4_give : Cal yX4_give wsX4_give cX4_give 3 (some .int) 0 := ⟨⟨_, rfl⟩, by decide +kernel⟩
set_option maxHeartbeats 4000000 in
set_option maxRecDepth 100000 in
theorem c_X4_give (l : Launch) (g : EE) (x0 : Nat) (h0 : Nat) (d0 : Nat) (k0 : Nat) (b0 : Nat) (a0 : Nat) (t0 : Nat) (r0 : Nat) (r1 : Nat) (ik : Nat) (rn : Nat) (h1 : Nat) (h2 : Nat) (W : Nat → Nat) (B : Nat → Nat) (sk : Nat) (ek : Nat) (tr : Nat) (rf : Nat → Int32) (hW : ∀ j, W j ≤ 9) (hB : okB B) : CI l yX4_give wsX4_give ({ frames := 3, cells := 0, slots := 0, locals := 76 }) g [.ref x0] [(x0, .inr (4, [.ref h0, .ref d0, .ref k0, .int (nI ik), .ref b0, .ref a0, .ref t0, .ref r0, .int (nI rn), .ref r1])), (h0, .inr (0, [.ref h1, .ref h2, .int (nI sk), .int (nI ek), .int (nI tr)])), (h1, .inl (eI g, 41, .inl (fun j => nI (W j)))), (h2, .inl (eI g, 5, .inl (fun j => nI (B j)))), (r1, .inl (eI g, 7, .inl rf))] (fun (rz : Int32) (wz : va_W) => rz = (rsp (if cnS (lpB W) = 0 then 3 else 0) (nI (giS W (lpB W) (B 4)))) ∧ wz = [(x0, .inr (4, [.ref h0, .ref d0, .ref k0, .int (nI ik), .ref b0, .ref a0, .ref t0, .ref r0, .int (nI rn), .ref r1])), (h0, .inr (0, [.ref h1, .ref h2, .int (nI sk), .int (nI ek), .int (nI tr)])), (h1, .inl (eI g, 41, .inl (fun j => nI (W j)))), (h2, .inl (eI g, 5, .inl (fun j => nI (B j)))), (r1, .inl (eI g, 7, .inl (bump rf (if cnS (lpB W) = 0 then 3 else 0))))]) 0 0 := by
  refine ctI (cc := cX4_give) (maxL := 3) (ret := (some .int)) (by decide) rfl (Nat.le_of_ble_eq_true rfl) ?_
  intro p_ e_ s_ m_ bl_ mt_ cd_ A ls F hnm hP hD hS hl
  obtain ⟨hx, hb, hml, hown, hts, hK, hX, hA, hrt_, hlocks⟩ := id F
  have hl : lv_has ls 3 [(0, .ref x0)] := hl
  obtain ⟨hb0, hb1, hb2, hb3, hb4, hb5⟩ := okB_b hB
  refine lv_aload_n hx hb dX4_give_0 rfl (lv_at hl 0 rfl) ?_
  refine xget F hP inX4_give_X4 0 rfl rfl 0 (by decide) lkX4_give_1 rfl dX4_give_1 ?_
  refine cVL (As := []) (rest := []) F (c_X0_left l g h0 h1 h2 W B sk ek tr (hW)) kX0_left rfl gX4_give_X0_left rfl rfl ⟨Nat.le_of_ble_eq_true rfl, Nat.le_of_ble_eq_true rfl⟩ hP hD hS [1, 2, 3] [0, 4] rfl rfl 0 rfl rfl hl.1 rfl rfl (Nat.le_of_ble_eq_true rfl) dX4_give_4 ⟨Nat.le_of_ble_eq_true rfl, Nat.le_of_ble_eq_true rfl⟩ (fun rz w1 H locs hpo hP hD hS => ?_)
  obtain ⟨rfl, rfl⟩ := hpo
  obtain ⟨hP, hD⟩ := nx (ws' := [(x0, .inr (4, [.ref h0, .ref d0, .ref k0, .int (nI ik), .ref b0, .ref a0, .ref t0, .ref r0, .int (nI rn), .ref r1])), (h0, .inr (0, [.ref h1, .ref h2, .int (nI sk), .int (nI ek), .int (nI tr)])), (h1, .inl (eI g, 41, .inl (fun j => nI (W j)))), (h2, .inl (eI g, 5, .inl (fun j => nI (B j)))), (r1, .inl (eI g, 7, .inl rf))]) hP hD [0, 2, 3, 4, 1] (ndB_ok _ rfl) rfl
  refine lv_lstore_n (lv' := [(1, .long (lfM W)), (0, .ref x0)]) hx hb dX4_give_7 rfl hl (by decide) rfl (fun ls hl => ?_)
  refine lv_lload_n hx hb dX4_give_8 rfl (lv_at hl 0 rfl) ?_
  refine lv_lconst (v := lN 0) hx hb dX4_give_9 rfl ?_
  refine jne (tgt := 21) hx hb dX4_give_10 dX4_give_11 (by decide) (fun c11 => ?_) (fun c11 => ?_)
  · skip
    have hc0 : ¬ cnS (lpB W) = 0 := fun z => c11 ((lf0 W).mpr z)
    refine lv_aload_n hx hb dX4_give_21 rfl (lv_at hl 1 rfl) ?_
    refine xget F hP inX4_give_X4 0 rfl rfl 0 (by decide) lkX4_give_1 rfl dX4_give_22 ?_
    refine lv_lload_n hx hb dX4_give_25 rfl (lv_at hl 0 rfl) ?_
    refine cVI (As := [.long (lfM W)]) (rest := []) F (c_X0_sheetFor l g h0 h1 h2 W B sk ek tr (lfM W) (hW) (by omega)) kX0_sheetFor rfl gX4_give_X0_sheetFor rfl rfl ⟨Nat.le_of_ble_eq_true rfl, Nat.le_of_ble_eq_true rfl⟩ hP hD hS [1, 2, 3] [0, 4] rfl rfl 0 rfl rfl hl.1 rfl rfl (Nat.le_of_ble_eq_true rfl) dX4_give_26 ⟨Nat.le_of_ble_eq_true rfl, Nat.le_of_ble_eq_true rfl⟩ (fun rz w1 H locs hpo hP hD hS => ?_)
    obtain ⟨rfl, rfl⟩ := hpo
    obtain ⟨hP, hD⟩ := nx (ws' := [(x0, .inr (4, [.ref h0, .ref d0, .ref k0, .int (nI ik), .ref b0, .ref a0, .ref t0, .ref r0, .int (nI rn), .ref r1])), (h0, .inr (0, [.ref h1, .ref h2, .int (nI sk), .int (nI ek), .int (nI tr)])), (h1, .inl (eI g, 41, .inl (fun j => nI (W j)))), (h2, .inl (eI g, 5, .inl (fun j => nI (B j)))), (r1, .inl (eI g, 7, .inl rf))]) hP hD [0, 2, 3, 4, 1] (ndB_ok _ rfl) rfl
    exact rtI F hP hD hS dX4_give_29 (by rw [show (if cnS (lpB W) = 0 then 3 else 0) = 0 from (by (try simp only [ge_iff_le]); (repeat (first | rw [if_pos (by omega)] | rw [if_neg (by omega)])) <;> rfl)]; first | done | exact ⟨by first | rfl | (simp only [bitL_lfM]; done) | (simp only [bitL_lfM]; rfl), by first | rfl | (simp only [bitL_lfM]; done) | (simp only [bitL_lfM]; rfl)⟩)
  · skip
    have hc0 : cnS (lpB W) = 0 := (lf0 W).mp c11
    refine lv_aload_n hx hb dX4_give_14 rfl (lv_at hl 1 rfl) ?_
    refine lv_bipush (v := (-3)) hx hb dX4_give_15 (by decide) ?_
    refine cVI (As := [.int (-3)]) (rest := []) F (c_X4_refuse l g x0 h0 d0 k0 b0 a0 t0 r0 r1 ik rn rf (-3) 3 (by decide) (by omega) (by omega)) kX4_refuse rfl gX4_give_X4_refuse rfl rfl ⟨Nat.le_of_ble_eq_true rfl, Nat.le_of_ble_eq_true rfl⟩ hP hD hS [0, 4] [1, 2, 3] rfl rfl 0 rfl rfl hl.1 rfl rfl (Nat.le_of_ble_eq_true rfl) dX4_give_17 ⟨Nat.le_of_ble_eq_true rfl, Nat.le_of_ble_eq_true rfl⟩ (fun rz w1 H locs hpo hP hD hS => ?_)
    obtain ⟨rfl, rfl⟩ := hpo
    obtain ⟨hP, hD⟩ := nx (ws' := [(x0, .inr (4, [.ref h0, .ref d0, .ref k0, .int (nI ik), .ref b0, .ref a0, .ref t0, .ref r0, .int (nI rn), .ref r1])), (h0, .inr (0, [.ref h1, .ref h2, .int (nI sk), .int (nI ek), .int (nI tr)])), (h1, .inl (eI g, 41, .inl (fun j => nI (W j)))), (h2, .inl (eI g, 5, .inl (fun j => nI (B j)))), (r1, .inl (eI g, 7, .inl (bump rf 3)))]) hP hD [3, 0, 1, 2, 4] (ndB_ok _ rfl) rfl
    exact rtI F hP hD hS dX4_give_20 (by rw [show (if cnS (lpB W) = 0 then 3 else 0) = 3 from (by (try simp only [ge_iff_le]); (repeat (first | rw [if_pos (by omega)] | rw [if_neg (by omega)])) <;> rfl)]; first | done | exact ⟨by first | rfl | (simp only [bitL_lfM]; done) | (simp only [bitL_lfM]; rfl), by first | rfl | (simp only [bitL_lfM]; done) | (simp only [bitL_lfM]; rfl)⟩)

theorem inX4_faults_X4 : ∀ w ∈ u_ws RX4 TX4 10, w ∈ wsX4_faults := fun _ h => (List.mem_cons_of_mem _ (List.mem_append_left _ (List.mem_append_right _ h)))
theorem lkX4_faults_1 : Cond.fieldLink RX4 10 "StripInFiveSteps" "now" "LStripInFiveSteps$Shed;" ∈ wsX4_faults := List.mem_of_getElem? (i := 1) rfl
theorem kX4_faults : Cal yX4_faults wsX4_faults cX4_faults 4 (some .long) 1 := ⟨⟨_, rfl⟩, by decide +kernel⟩
set_option maxHeartbeats 4000000 in
set_option maxRecDepth 100000 in
theorem c_X4_faults (l : Launch) (g : EE) (x0 : Nat) (h0 : Nat) (d0 : Nat) (k0 : Nat) (b0 : Nat) (a0 : Nat) (t0 : Nat) (r0 : Nat) (r1 : Nat) (ik : Nat) (rn : Nat) (h1 : Nat) (h2 : Nat) (W : Nat → Nat) (B : Nat → Nat) (sk : Nat) (ek : Nat) (tr : Nat) (rf : Nat → Int32) (x : Int32) (hW : ∀ j, W j ≤ 9) (hB : okB B) : CL l yX4_faults wsX4_faults ({ frames := 4, cells := 0, slots := 0, locals := 98 }) g [.ref x0, .int x] [(x0, .inr (4, [.ref h0, .ref d0, .ref k0, .int (nI ik), .ref b0, .ref a0, .ref t0, .ref r0, .int (nI rn), .ref r1])), (h0, .inr (0, [.ref h1, .ref h2, .int (nI sk), .int (nI ek), .int (nI tr)])), (h1, .inl (eI g, 41, .inl (fun j => nI (W j)))), (h2, .inl (eI g, 5, .inl (fun j => nI (B j)))), (r1, .inl (eI g, 7, .inl rf))] (fun (rz : Int64) (wz : va_W) => rz = (rspL (if ¬ (x.toInt = 0 ∨ x.toInt = 1) then 2 else if cnS (lpB W) = 0 then 3 else 0) (lN (frN (faS W (lpB W) (giS W (lpB W) (B 4)) * B 4) (sg W 40) (decide (x.toInt = 0))))) ∧ wz = [(x0, .inr (4, [.ref h0, .ref d0, .ref k0, .int (nI ik), .ref b0, .ref a0, .ref t0, .ref r0, .int (nI rn), .ref r1])), (h0, .inr (0, [.ref h1, .ref h2, .int (nI sk), .int (nI ek), .int (nI tr)])), (h1, .inl (eI g, 41, .inl (fun j => nI (W j)))), (h2, .inl (eI g, 5, .inl (fun j => nI (B j)))), (r1, .inl (eI g, 7, .inl (bump rf (if ¬ (x.toInt = 0 ∨ x.toInt = 1) then 2 else if cnS (lpB W) = 0 then 3 else 0))))]) 0 0 := by
  refine ctL (cc := cX4_faults) (maxL := 4) (ret := (some .long)) (by decide) rfl (Nat.le_of_ble_eq_true rfl) ?_
  intro p_ e_ s_ m_ bl_ mt_ cd_ A ls F hnm hP hD hS hl
  obtain ⟨hx, hb, hml, hown, hts, hK, hX, hA, hrt_, hlocks⟩ := id F
  have hl : lv_has ls 4 [(0, .ref x0), (1, .int x)] := hl
  obtain ⟨hb0, hb1, hb2, hb3, hb4, hb5⟩ := okB_b hB
  refine lv_iload_n hx hb dX4_faults_0 rfl (lv_at hl 1 rfl) ?_
  refine cSI (As := [.int x]) (rest := []) F (c_X4_isPart l g x ) kX4_isPart gX4_faults_X4_isPart rfl rfl ⟨Nat.le_of_ble_eq_true rfl, Nat.le_of_ble_eq_true rfl⟩ hP hD hS [] [0, 1, 2, 3, 4] rfl rfl hl.1 rfl rfl (Nat.le_of_ble_eq_true rfl) dX4_faults_1 ⟨Nat.le_of_ble_eq_true rfl, Nat.le_of_ble_eq_true rfl⟩ (fun rz w1 H locs hpo hP hD hS => ?_)
  obtain ⟨rfl, rfl⟩ := hpo
  obtain ⟨hP, hD⟩ := nx (ws' := [(x0, .inr (4, [.ref h0, .ref d0, .ref k0, .int (nI ik), .ref b0, .ref a0, .ref t0, .ref r0, .int (nI rn), .ref r1])), (h0, .inr (0, [.ref h1, .ref h2, .int (nI sk), .int (nI ek), .int (nI tr)])), (h1, .inl (eI g, 41, .inl (fun j => nI (W j)))), (h2, .inl (eI g, 5, .inl (fun j => nI (B j)))), (r1, .inl (eI g, 7, .inl rf))]) hP hD [0, 1, 2, 3, 4] (ndB_ok _ rfl) rfl
  refine bqne (tgt := 14) hx hb dX4_faults_4 (by decide) (fun c4 => ?_) (fun c4 => ?_)
  · skip
    refine lv_aload_n hx hb dX4_faults_14 rfl (lv_at hl 0 rfl) ?_
    refine xget F hP inX4_faults_X4 0 rfl rfl 0 (by decide) lkX4_faults_1 rfl dX4_faults_15 ?_
    refine cVL (As := []) (rest := []) F (c_X0_left l g h0 h1 h2 W B sk ek tr (hW)) kX0_left rfl gX4_faults_X0_left rfl rfl ⟨Nat.le_of_ble_eq_true rfl, Nat.le_of_ble_eq_true rfl⟩ hP hD hS [1, 2, 3] [0, 4] rfl rfl 0 rfl rfl hl.1 rfl rfl (Nat.le_of_ble_eq_true rfl) dX4_faults_18 ⟨Nat.le_of_ble_eq_true rfl, Nat.le_of_ble_eq_true rfl⟩ (fun rz w1 H locs hpo hP hD hS => ?_)
    obtain ⟨rfl, rfl⟩ := hpo
    obtain ⟨hP, hD⟩ := nx (ws' := [(x0, .inr (4, [.ref h0, .ref d0, .ref k0, .int (nI ik), .ref b0, .ref a0, .ref t0, .ref r0, .int (nI rn), .ref r1])), (h0, .inr (0, [.ref h1, .ref h2, .int (nI sk), .int (nI ek), .int (nI tr)])), (h1, .inl (eI g, 41, .inl (fun j => nI (W j)))), (h2, .inl (eI g, 5, .inl (fun j => nI (B j)))), (r1, .inl (eI g, 7, .inl rf))]) hP hD [0, 2, 3, 4, 1] (ndB_ok _ rfl) rfl
    refine lv_lstore_n (lv' := [(2, .long (lfM W)), (0, .ref x0), (1, .int x)]) hx hb dX4_faults_21 rfl hl (by decide) rfl (fun ls hl => ?_)
    refine lv_lload_n hx hb dX4_faults_22 rfl (lv_at hl 0 rfl) ?_
    refine lv_lconst (v := lN 0) hx hb dX4_faults_23 rfl ?_
    refine jne (tgt := 35) hx hb dX4_faults_24 dX4_faults_25 (by decide) (fun c25 => ?_) (fun c25 => ?_)
    · skip
      have hc0 : ¬ cnS (lpB W) = 0 := fun z => c25 ((lf0 W).mpr z)
      refine lv_aload_n hx hb dX4_faults_35 rfl (lv_at hl 1 rfl) ?_
      refine xget F hP inX4_faults_X4 0 rfl rfl 0 (by decide) lkX4_faults_1 rfl dX4_faults_36 ?_
      refine lv_lload_n hx hb dX4_faults_39 rfl (lv_at hl 0 rfl) ?_
      refine cVL (As := [.long (lfM W)]) (rest := []) F (c_X0_leastFaults l g h0 h1 h2 W B sk ek tr (lfM W) (hW) (by omega)) kX0_leastFaults rfl gX4_faults_X0_leastFaults rfl rfl ⟨Nat.le_of_ble_eq_true rfl, Nat.le_of_ble_eq_true rfl⟩ hP hD hS [1, 2, 3] [0, 4] rfl rfl 0 rfl rfl hl.1 rfl rfl (Nat.le_of_ble_eq_true rfl) dX4_faults_40 ⟨Nat.le_of_ble_eq_true rfl, Nat.le_of_ble_eq_true rfl⟩ (fun rz w1 H locs hpo hP hD hS => ?_)
      obtain ⟨rfl, rfl⟩ := hpo
      obtain ⟨hP, hD⟩ := nx (ws' := [(x0, .inr (4, [.ref h0, .ref d0, .ref k0, .int (nI ik), .ref b0, .ref a0, .ref t0, .ref r0, .int (nI rn), .ref r1])), (h0, .inr (0, [.ref h1, .ref h2, .int (nI sk), .int (nI ek), .int (nI tr)])), (h1, .inl (eI g, 41, .inl (fun j => nI (W j)))), (h2, .inl (eI g, 5, .inl (fun j => nI (B j)))), (r1, .inl (eI g, 7, .inl rf))]) hP hD [0, 2, 3, 4, 1] (ndB_ok _ rfl) rfl
      refine lv_aload_n hx hb dX4_faults_43 rfl (lv_at hl 1 rfl) ?_
      refine xget F hP inX4_faults_X4 0 rfl rfl 0 (by decide) lkX4_faults_1 rfl dX4_faults_44 ?_
      refine lv_lload_n hx hb dX4_faults_47 rfl (lv_at hl 0 rfl) ?_
      refine cVI (As := [.long (lfM W)]) (rest := [.long (lN (faS W (bitL (lfM W)) (giS W (bitL (lfM W)) (B 4)) * B 4))]) F (c_X0_weightOf l g h0 h1 h2 W B sk ek tr (lfM W) ) kX0_weightOf rfl gX4_faults_X0_weightOf rfl rfl ⟨Nat.le_of_ble_eq_true rfl, Nat.le_of_ble_eq_true rfl⟩ hP hD hS [1, 2, 3] [0, 4] rfl rfl 0 rfl rfl hl.1 rfl rfl (Nat.le_of_ble_eq_true rfl) dX4_faults_48 ⟨Nat.le_of_ble_eq_true rfl, Nat.le_of_ble_eq_true rfl⟩ (fun rz w1 H locs hpo hP hD hS => ?_)
      obtain ⟨rfl, rfl⟩ := hpo
      obtain ⟨hP, hD⟩ := nx (ws' := [(x0, .inr (4, [.ref h0, .ref d0, .ref k0, .int (nI ik), .ref b0, .ref a0, .ref t0, .ref r0, .int (nI rn), .ref r1])), (h0, .inr (0, [.ref h1, .ref h2, .int (nI sk), .int (nI ek), .int (nI tr)])), (h1, .inl (eI g, 41, .inl (fun j => nI (W j)))), (h2, .inl (eI g, 5, .inl (fun j => nI (B j)))), (r1, .inl (eI g, 7, .inl rf))]) hP hD [0, 2, 3, 4, 1] (ndB_ok _ rfl) rfl
      refine lv_i2l (v := lN (wtS W (bitL (lfM W)))) hx hb dX4_faults_51 (nI_l (by have := wtS_b (p := bitL (lfM W)) hW; omega)) ?_
      refine lv_iload_n hx hb dX4_faults_52 rfl (lv_at hl 2 rfl) ?_
      refine cSL (As := [.long (lN (faS W (bitL (lfM W)) (giS W (bitL (lfM W)) (B 4)) * B 4)), .long (lN (wtS W (bitL (lfM W)))), .int x]) (rest := []) F (c_X4_fraction l g (faS W (bitL (lfM W)) (giS W (bitL (lfM W)) (B 4)) * B 4) (wtS W (bitL (lfM W))) x (by have := faS_b (p := bitL (lfM W)) hW (giS_in W (bitL (lfM W)) (B 4)).2 (show B 4 ≤ 99 by omega); omega) (by have := wtS_b (p := bitL (lfM W)) hW; omega)) kX4_fraction gX4_faults_X4_fraction rfl rfl ⟨Nat.le_of_ble_eq_true rfl, Nat.le_of_ble_eq_true rfl⟩ hP hD hS [] [0, 1, 2, 3, 4] rfl rfl hl.1 rfl rfl (Nat.le_of_ble_eq_true rfl) dX4_faults_53 ⟨Nat.le_of_ble_eq_true rfl, Nat.le_of_ble_eq_true rfl⟩ (fun rz w1 H locs hpo hP hD hS => ?_)
      obtain ⟨rfl, rfl⟩ := hpo
      obtain ⟨hP, hD⟩ := nx (ws' := [(x0, .inr (4, [.ref h0, .ref d0, .ref k0, .int (nI ik), .ref b0, .ref a0, .ref t0, .ref r0, .int (nI rn), .ref r1])), (h0, .inr (0, [.ref h1, .ref h2, .int (nI sk), .int (nI ek), .int (nI tr)])), (h1, .inl (eI g, 41, .inl (fun j => nI (W j)))), (h2, .inl (eI g, 5, .inl (fun j => nI (B j)))), (r1, .inl (eI g, 7, .inl rf))]) hP hD [0, 1, 2, 3, 4] (ndB_ok _ rfl) rfl
      exact rtL F hP hD hS dX4_faults_56 (by rw [show (if ¬ (x.toInt = 0 ∨ x.toInt = 1) then 2 else if cnS (lpB W) = 0 then 3 else 0) = 0 from (by (try simp only [ge_iff_le]); (repeat (first | rw [if_pos (by omega)] | rw [if_neg (by omega)])) <;> rfl)]; first | done | exact ⟨by first | rfl | (simp only [bitL_lfM, wtS_lp]; done) | (simp only [bitL_lfM, wtS_lp]; rfl), by first | rfl | (simp only [bitL_lfM, wtS_lp]; done) | (simp only [bitL_lfM, wtS_lp]; rfl)⟩)
    · skip
      have hc0 : cnS (lpB W) = 0 := (lf0 W).mp c25
      refine lv_aload_n hx hb dX4_faults_28 rfl (lv_at hl 1 rfl) ?_
      refine lv_bipush (v := (-3)) hx hb dX4_faults_29 (by decide) ?_
      refine cVL (As := [.int (-3)]) (rest := []) F (c_X4_refuseLong l g x0 h0 d0 k0 b0 a0 t0 r0 r1 ik rn rf (-3) 3 (by decide) (by omega) (by omega)) kX4_refuseLong rfl gX4_faults_X4_refuseLong rfl rfl ⟨Nat.le_of_ble_eq_true rfl, Nat.le_of_ble_eq_true rfl⟩ hP hD hS [0, 4] [1, 2, 3] rfl rfl 0 rfl rfl hl.1 rfl rfl (Nat.le_of_ble_eq_true rfl) dX4_faults_31 ⟨Nat.le_of_ble_eq_true rfl, Nat.le_of_ble_eq_true rfl⟩ (fun rz w1 H locs hpo hP hD hS => ?_)
      obtain ⟨rfl, rfl⟩ := hpo
      obtain ⟨hP, hD⟩ := nx (ws' := [(x0, .inr (4, [.ref h0, .ref d0, .ref k0, .int (nI ik), .ref b0, .ref a0, .ref t0, .ref r0, .int (nI rn), .ref r1])), (h0, .inr (0, [.ref h1, .ref h2, .int (nI sk), .int (nI ek), .int (nI tr)])), (h1, .inl (eI g, 41, .inl (fun j => nI (W j)))), (h2, .inl (eI g, 5, .inl (fun j => nI (B j)))), (r1, .inl (eI g, 7, .inl (bump rf 3)))]) hP hD [3, 0, 1, 2, 4] (ndB_ok _ rfl) rfl
      exact rtL F hP hD hS dX4_faults_34 (by rw [show (if ¬ (x.toInt = 0 ∨ x.toInt = 1) then 2 else if cnS (lpB W) = 0 then 3 else 0) = 3 from (by (try simp only [ge_iff_le]); (repeat (first | rw [if_pos (by omega)] | rw [if_neg (by omega)])) <;> rfl)]; first | done | exact ⟨by first | rfl | (simp only [bitL_lfM, wtS_lp]; done) | (simp only [bitL_lfM, wtS_lp]; rfl), by first | rfl | (simp only [bitL_lfM, wtS_lp]; done) | (simp only [bitL_lfM, wtS_lp]; rfl)⟩)
  · skip
    refine lv_aload_n hx hb dX4_faults_7 rfl (lv_at hl 0 rfl) ?_
    refine lv_bipush (v := (-2)) hx hb dX4_faults_8 (by decide) ?_
    refine cVL (As := [.int (-2)]) (rest := []) F (c_X4_refuseLong l g x0 h0 d0 k0 b0 a0 t0 r0 r1 ik rn rf (-2) 2 (by decide) (by omega) (by omega)) kX4_refuseLong rfl gX4_faults_X4_refuseLong rfl rfl ⟨Nat.le_of_ble_eq_true rfl, Nat.le_of_ble_eq_true rfl⟩ hP hD hS [0, 4] [1, 2, 3] rfl rfl 0 rfl rfl hl.1 rfl rfl (Nat.le_of_ble_eq_true rfl) dX4_faults_10 ⟨Nat.le_of_ble_eq_true rfl, Nat.le_of_ble_eq_true rfl⟩ (fun rz w1 H locs hpo hP hD hS => ?_)
    obtain ⟨rfl, rfl⟩ := hpo
    obtain ⟨hP, hD⟩ := nx (ws' := [(x0, .inr (4, [.ref h0, .ref d0, .ref k0, .int (nI ik), .ref b0, .ref a0, .ref t0, .ref r0, .int (nI rn), .ref r1])), (h0, .inr (0, [.ref h1, .ref h2, .int (nI sk), .int (nI ek), .int (nI tr)])), (h1, .inl (eI g, 41, .inl (fun j => nI (W j)))), (h2, .inl (eI g, 5, .inl (fun j => nI (B j)))), (r1, .inl (eI g, 7, .inl (bump rf 2)))]) hP hD [3, 0, 1, 2, 4] (ndB_ok _ rfl) rfl
    exact rtL F hP hD hS dX4_faults_13 (by rw [show (if ¬ (x.toInt = 0 ∨ x.toInt = 1) then 2 else if cnS (lpB W) = 0 then 3 else 0) = 2 from (by (try simp only [ge_iff_le]); (repeat (first | rw [if_pos (by omega)] | rw [if_neg (by omega)])) <;> rfl)]; first | done | exact ⟨by first | rfl | (simp only [bitL_lfM, wtS_lp]; done) | (simp only [bitL_lfM, wtS_lp]; rfl), by first | rfl | (simp only [bitL_lfM, wtS_lp]; done) | (simp only [bitL_lfM, wtS_lp]; rfl)⟩)

theorem inX4_row_X4 : ∀ w ∈ u_ws RX4 TX4 10, w ∈ wsX4_row := fun _ h => (List.mem_cons_of_mem _ (List.mem_append_right _ h))
theorem lkX4_row_1 : Cond.fieldLink RX4 51 "StripInFiveSteps" "rowSize" "I" ∈ wsX4_row := List.mem_of_getElem? (i := 1) rfl
theorem lkX4_row_2 : Cond.fieldLink RX4 47 "StripInFiveSteps" "rowNumbers" "[I" ∈ wsX4_row := List.mem_of_getElem? (i := 2) rfl
theorem kX4_row : Cal yX4_row wsX4_row cX4_row 2 (some .int) 1 := ⟨⟨_, rfl⟩, by decide +kernel⟩
set_option maxHeartbeats 4000000 in
set_option maxRecDepth 100000 in
theorem c_X4_row (l : Launch) (g : EE) (x0 : Nat) (h0 : Nat) (d0 : Nat) (k0 : Nat) (b0 : Nat) (a0 : Nat) (t0 : Nat) (r0 : Nat) (r1 : Nat) (ik : Nat) (rn : Nat) (rw_ : Nat → Nat) (rf : Nat → Int32) (x : Int32) (hrn : rn ≤ 12) : CI l yX4_row wsX4_row ({ frames := 1, cells := 0, slots := 0, locals := 22 }) g [.ref x0, .int x] [(x0, .inr (4, [.ref h0, .ref d0, .ref k0, .int (nI ik), .ref b0, .ref a0, .ref t0, .ref r0, .int (nI rn), .ref r1])), (r0, .inl (eI g, 12, .inl (fun j => nI (rw_ j)))), (r1, .inl (eI g, 7, .inl rf))] (fun (rz : Int32) (wz : va_W) => rz = (rsp (if x.toInt < 0 then 4 else if 99 < x.toInt ∨ rn = 12 then 6 else 0) (nI (rn + 1))) ∧ wz = [(x0, .inr (4, [.ref h0, .ref d0, .ref k0, .int (nI ik), .ref b0, .ref a0, .ref t0, .ref r0, .int (nI (if (if x.toInt < 0 then 4 else if 99 < x.toInt ∨ rn = 12 then 6 else 0) = 0 then rn + 1 else rn)), .ref r1])), (r0, .inl (eI g, 12, .inl (fun j => nI ((if (if x.toInt < 0 then 4 else if 99 < x.toInt ∨ rn = 12 then 6 else 0) = 0 then updN rw_ rn x.toNatClampNeg else rw_) j)))), (r1, .inl (eI g, 7, .inl (bump rf (if x.toInt < 0 then 4 else if 99 < x.toInt ∨ rn = 12 then 6 else 0))))]) 0 0 := by
  refine ctI (cc := cX4_row) (maxL := 2) (ret := (some .int)) (by decide) rfl (Nat.le_of_ble_eq_true rfl) ?_
  intro p_ e_ s_ m_ bl_ mt_ cd_ A ls F hnm hP hD hS hl
  obtain ⟨hx, hb, hml, hown, hts, hK, hX, hA, hrt_, hlocks⟩ := id F
  have hl : lv_has ls 2 [(0, .ref x0), (1, .int x)] := hl
  refine lv_iload_n hx hb dX4_row_0 rfl (lv_at hl 1 rfl) ?_
  refine wge (tgt := 11) hx hb dX4_row_1 (by decide) (fun c1 => ?_) (fun c1 => ?_)
  · skip
    refine lv_iload_n hx hb dX4_row_11 rfl (lv_at hl 1 rfl) ?_
    refine lv_bipush (v := (nI 99)) hx hb dX4_row_12 (by decide) ?_
    refine ygt (tgt := 26) hx hb dX4_row_14 (by decide) (by omega) (fun c14 => ?_) (fun c14 => ?_)
    · skip
      refine lv_aload_n hx hb dX4_row_26 rfl (lv_at hl 0 rfl) ?_
      refine lv_bipush (v := (-6)) hx hb dX4_row_27 (by decide) ?_
      refine cVI (As := [.int (-6)]) (rest := []) F (c_X4_refuse l g x0 h0 d0 k0 b0 a0 t0 r0 r1 ik rn rf (-6) 6 (by decide) (by omega) (by omega)) kX4_refuse rfl gX4_row_X4_refuse rfl rfl ⟨Nat.le_of_ble_eq_true rfl, Nat.le_of_ble_eq_true rfl⟩ hP hD hS [0, 2] [1] rfl rfl 0 rfl rfl hl.1 rfl rfl (Nat.le_of_ble_eq_true rfl) dX4_row_29 ⟨Nat.le_of_ble_eq_true rfl, Nat.le_of_ble_eq_true rfl⟩ (fun rz w1 H locs hpo hP hD hS => ?_)
      obtain ⟨rfl, rfl⟩ := hpo
      obtain ⟨hP, hD⟩ := nx (ws' := [(x0, .inr (4, [.ref h0, .ref d0, .ref k0, .int (nI ik), .ref b0, .ref a0, .ref t0, .ref r0, .int (nI rn), .ref r1])), (r0, .inl (eI g, 12, .inl (fun j => nI (rw_ j)))), (r1, .inl (eI g, 7, .inl (bump rf 6)))]) hP hD [1, 0, 2] (ndB_ok _ rfl) rfl
      exact rtI F hP hD hS dX4_row_32 (by rw [show (if x.toInt < 0 then 4 else if 99 < x.toInt ∨ rn = 12 then 6 else 0) = 6 from (by (try simp only [ge_iff_le]); (repeat (first | rw [if_pos (by omega)] | rw [if_neg (by omega)])) <;> rfl)]; first | done | exact ⟨by first | rfl | (simp only [ge_iff_le]; done) | (simp only [ge_iff_le]; rfl), by first | rfl | (simp only [ge_iff_le]; done) | (simp only [ge_iff_le]; rfl)⟩)
    · skip
      refine lv_aload_n hx hb dX4_row_17 rfl (lv_at hl 0 rfl) ?_
      refine xget F hP inX4_row_X4 0 rfl rfl 8 (by decide) lkX4_row_1 rfl dX4_row_18 ?_
      refine lv_bipush (v := (nI 12)) hx hb dX4_row_21 (by decide) ?_
      refine xlt (tgt := 33) hx hb dX4_row_23 (by decide) (by omega) (by omega) (fun c23 => ?_) (fun c23 => ?_)
      · skip
        obtain ⟨k, hk_, rfl⟩ := natOf (x := x) (by omega)
        rw [nI_tI hk_] at c1
        rw [nI_tI hk_] at c14
        refine lv_aload_n hx hb dX4_row_33 rfl (lv_at hl 0 rfl) ?_
        refine xget F hP inX4_row_X4 0 rfl rfl 7 (by decide) lkX4_row_2 rfl dX4_row_34 ?_
        refine lv_aload_n hx hb dX4_row_37 rfl (lv_at hl 0 rfl) ?_
        refine xget F hP inX4_row_X4 0 rfl rfl 8 (by decide) lkX4_row_1 rfl dX4_row_38 ?_
        refine lv_iload_n hx hb dX4_row_41 rfl (lv_at hl 1 rfl) ?_
        refine xast F hP hD hS 1 (f' := fun j => nI ((updN rw_ rn k) j)) rfl (by omega) (by omega) (upd_nI rw_ rn k) dX4_row_42 (fun H locs hP hD hS => ?_)
        have hP : va_P (eD g) vwCl [(x0, .inr (4, [.ref h0, .ref d0, .ref k0, .int (nI ik), .ref b0, .ref a0, .ref t0, .ref r0, .int (nI rn), .ref r1])), (r0, .inl (eI g, 12, .inl (fun j => nI ((updN rw_ rn k) j)))), (r1, .inl (eI g, 7, .inl rf))] H := hP
        have hD : va_D A [(x0, .inr (4, [.ref h0, .ref d0, .ref k0, .int (nI ik), .ref b0, .ref a0, .ref t0, .ref r0, .int (nI rn), .ref r1])), (r0, .inl (eI g, 12, .inl (fun j => nI ((updN rw_ rn k) j)))), (r1, .inl (eI g, 7, .inl rf))] := hD
        refine lv_aload_n hx hb dX4_row_43 rfl (lv_at hl 0 rfl) ?_
        refine lv_dup hx hb dX4_row_44 rfl ?_
        refine xget F hP inX4_row_X4 0 rfl rfl 8 (by decide) lkX4_row_1 rfl dX4_row_45 ?_
        refine lv_iconst (v := (nI 1)) hx hb dX4_row_48 (by decide) ?_
        refine xadd hx hb dX4_row_49 ?_
        refine xput F hP hD hS inX4_row_X4 tyX4 tyX4_ok nmX4 0 rfl rfl 8 (by decide) lkX4_row_1 rfl rfl rfl (Nat.le_of_ble_eq_true rfl) dX4_row_50 (fun H locs hP hD hS => ?_)
        have hP : va_P (eD g) vwCl [(x0, .inr (4, [.ref h0, .ref d0, .ref k0, .int (nI ik), .ref b0, .ref a0, .ref t0, .ref r0, .int (nI (rn + 1)), .ref r1])), (r0, .inl (eI g, 12, .inl (fun j => nI ((updN rw_ rn k) j)))), (r1, .inl (eI g, 7, .inl rf))] H := hP
        have hD : va_D A [(x0, .inr (4, [.ref h0, .ref d0, .ref k0, .int (nI ik), .ref b0, .ref a0, .ref t0, .ref r0, .int (nI (rn + 1)), .ref r1])), (r0, .inl (eI g, 12, .inl (fun j => nI ((updN rw_ rn k) j)))), (r1, .inl (eI g, 7, .inl rf))] := hD
        refine lv_aload_n hx hb dX4_row_53 rfl (lv_at hl 0 rfl) ?_
        refine xget F hP inX4_row_X4 0 rfl rfl 8 (by decide) lkX4_row_1 rfl dX4_row_54 ?_
        exact rtI F hP hD hS dX4_row_57 (by rw [show (if (nI k).toInt < 0 then 4 else if 99 < (nI k).toInt ∨ rn = 12 then 6 else 0) = 0 from (by (try simp only [nI_tI hk_]); (repeat (first | rw [if_pos (by omega)] | rw [if_neg (by omega)])) <;> rfl)]; first | done | exact ⟨by first | rfl | (simp only [nI_clamp hk_]; done) | (simp only [nI_clamp hk_]; rfl), by first | rfl | (simp only [nI_clamp hk_]; done) | (simp only [nI_clamp hk_]; rfl)⟩)
      · skip
        refine lv_aload_n hx hb dX4_row_26 rfl (lv_at hl 0 rfl) ?_
        refine lv_bipush (v := (-6)) hx hb dX4_row_27 (by decide) ?_
        refine cVI (As := [.int (-6)]) (rest := []) F (c_X4_refuse l g x0 h0 d0 k0 b0 a0 t0 r0 r1 ik rn rf (-6) 6 (by decide) (by omega) (by omega)) kX4_refuse rfl gX4_row_X4_refuse rfl rfl ⟨Nat.le_of_ble_eq_true rfl, Nat.le_of_ble_eq_true rfl⟩ hP hD hS [0, 2] [1] rfl rfl 0 rfl rfl hl.1 rfl rfl (Nat.le_of_ble_eq_true rfl) dX4_row_29 ⟨Nat.le_of_ble_eq_true rfl, Nat.le_of_ble_eq_true rfl⟩ (fun rz w1 H locs hpo hP hD hS => ?_)
        obtain ⟨rfl, rfl⟩ := hpo
        obtain ⟨hP, hD⟩ := nx (ws' := [(x0, .inr (4, [.ref h0, .ref d0, .ref k0, .int (nI ik), .ref b0, .ref a0, .ref t0, .ref r0, .int (nI rn), .ref r1])), (r0, .inl (eI g, 12, .inl (fun j => nI (rw_ j)))), (r1, .inl (eI g, 7, .inl (bump rf 6)))]) hP hD [1, 0, 2] (ndB_ok _ rfl) rfl
        exact rtI F hP hD hS dX4_row_32 (by rw [show (if x.toInt < 0 then 4 else if 99 < x.toInt ∨ rn = 12 then 6 else 0) = 6 from (by (try simp only [ge_iff_le]); (repeat (first | rw [if_pos (by omega)] | rw [if_neg (by omega)])) <;> rfl)]; first | done | exact ⟨by first | rfl | (simp only [ge_iff_le]; done) | (simp only [ge_iff_le]; rfl), by first | rfl | (simp only [ge_iff_le]; done) | (simp only [ge_iff_le]; rfl)⟩)
  · skip
    refine lv_aload_n hx hb dX4_row_4 rfl (lv_at hl 0 rfl) ?_
    refine lv_bipush (v := (-4)) hx hb dX4_row_5 (by decide) ?_
    refine cVI (As := [.int (-4)]) (rest := []) F (c_X4_refuse l g x0 h0 d0 k0 b0 a0 t0 r0 r1 ik rn rf (-4) 4 (by decide) (by omega) (by omega)) kX4_refuse rfl gX4_row_X4_refuse rfl rfl ⟨Nat.le_of_ble_eq_true rfl, Nat.le_of_ble_eq_true rfl⟩ hP hD hS [0, 2] [1] rfl rfl 0 rfl rfl hl.1 rfl rfl (Nat.le_of_ble_eq_true rfl) dX4_row_7 ⟨Nat.le_of_ble_eq_true rfl, Nat.le_of_ble_eq_true rfl⟩ (fun rz w1 H locs hpo hP hD hS => ?_)
    obtain ⟨rfl, rfl⟩ := hpo
    obtain ⟨hP, hD⟩ := nx (ws' := [(x0, .inr (4, [.ref h0, .ref d0, .ref k0, .int (nI ik), .ref b0, .ref a0, .ref t0, .ref r0, .int (nI rn), .ref r1])), (r0, .inl (eI g, 12, .inl (fun j => nI (rw_ j)))), (r1, .inl (eI g, 7, .inl (bump rf 4)))]) hP hD [1, 0, 2] (ndB_ok _ rfl) rfl
    exact rtI F hP hD hS dX4_row_10 (by rw [show (if x.toInt < 0 then 4 else if 99 < x.toInt ∨ rn = 12 then 6 else 0) = 4 from (by (try simp only [ge_iff_le]); (repeat (first | rw [if_pos (by omega)] | rw [if_neg (by omega)])) <;> rfl)]; first | done | exact ⟨by first | rfl | (simp only [ge_iff_le]; done) | (simp only [ge_iff_le]; rfl), by first | rfl | (simp only [ge_iff_le]; done) | (simp only [ge_iff_le]; rfl)⟩)
