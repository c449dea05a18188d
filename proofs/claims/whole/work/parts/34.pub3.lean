theorem lkX4_set_1 : Cond.fieldLink RX4 87 "StripInFiveSteps" "LEAST" "[I" ∈ wsX4_set := List.mem_of_getElem? (i := 1) rfl
theorem lkX4_set_2 : Cond.fieldLink RX4 90 "StripInFiveSteps" "GREATEST" "[I" ∈ wsX4_set := List.mem_of_getElem? (i := 2) rfl
theorem inX4_set_X4 : ∀ w ∈ u_ws RX4 TX4 10, w ∈ wsX4_set := fun _ h => (List.mem_cons_of_mem _ (List.mem_append_left _ (List.mem_append_right _ h)))
theorem lkX4_set_3 : Cond.fieldLink RX4 10 "StripInFiveSteps" "now" "LStripInFiveSteps$Shed;" ∈ wsX4_set := List.mem_of_getElem? (i := 3) rfl
theorem inX4_set_X0 : ∀ w ∈ u_ws RX0 TX0 5, w ∈ wsX4_set := fun _ h => (List.mem_cons_of_mem _ (List.mem_append_right _ h))
theorem lkX4_set_4 : Cond.fieldLink RX4 93 "StripInFiveSteps$Shed" "numbers" "[I" ∈ wsX4_set := List.mem_of_getElem? (i := 4) rfl
theorem kX4_set : Cal yX4_set wsX4_set cX4_set 4 (some .int) 2 := ⟨⟨_, rfl⟩, by decide +kernel⟩
set_option maxHeartbeats 4000000 in
set_option maxRecDepth 100000 in
theorem c_X4_set (l : Launch) (g : EE) (x0 : Nat) (h0 : Nat) (d0 : Nat) (k0 : Nat) (b0 : Nat) (a0 : Nat) (t0 : Nat) (r0 : Nat) (r1 : Nat) (ik : Nat) (rn : Nat) (h1 : Nat) (h2 : Nat) (B : Nat → Nat) (sk : Nat) (ek : Nat) (tr : Nat) (rf : Nat → Int32) (x : Int32) (y : Int32)  : CI l yX4_set wsX4_set ({ frames := 1, cells := 0, slots := 0, locals := 22 }) g [.ref x0, .int x, .int y] [(x0, .inr (4, [.ref h0, .ref d0, .ref k0, .int (nI ik), .ref b0, .ref a0, .ref t0, .ref r0, .int (nI rn), .ref r1])), (h0, .inr (0, [.ref h1, .ref h2, .int (nI sk), .int (nI ek), .int (nI tr)])), (h2, .inl (eI g, 5, .inl (fun j => nI (B j)))), (r1, .inl (eI g, 7, .inl rf))] (fun (rz : Int32) (wz : va_W) => rz = (rsp (if x.toInt < 0 ∨ 5 ≤ x.toInt then 2 else cdC y (leastN x.toNatClampNeg) (greatN x.toNatClampNeg)) (nI (B x.toNatClampNeg))) ∧ wz = [(x0, .inr (4, [.ref h0, .ref d0, .ref k0, .int (nI ik), .ref b0, .ref a0, .ref t0, .ref r0, .int (nI rn), .ref r1])), (h0, .inr (0, [.ref h1, .ref h2, .int (nI sk), .int (nI ek), .int (nI tr)])), (h2, .inl (eI g, 5, .inl (fun j => nI ((if (if x.toInt < 0 ∨ 5 ≤ x.toInt then 2 else cdC y (leastN x.toNatClampNeg) (greatN x.toNatClampNeg)) = 0 then updN B (x.toNatClampNeg) y.toNatClampNeg else B) j)))), (r1, .inl (eI g, 7, .inl (bump rf (if x.toInt < 0 ∨ 5 ≤ x.toInt then 2 else cdC y (leastN x.toNatClampNeg) (greatN x.toNatClampNeg)))))]) 0 0 := by
  refine ctI (cc := cX4_set) (maxL := 4) (ret := (some .int)) (by decide) rfl (Nat.le_of_ble_eq_true rfl) ?_
  intro p_ e_ s_ m_ bl_ mt_ cd_ A ls F hnm hP hD hS hl
  obtain ⟨hx, hb, hml, hown, hts, hK, hX, hA, hrt_, hlocks⟩ := id F
  have hl : lv_has ls 4 [(0, .ref x0), (1, .int x), (2, .int y)] := hl
  refine lv_iload_n hx hb dX4_set_0 rfl (lv_at hl 1 rfl) ?_
  refine wlt (tgt := 9) hx hb dX4_set_1 (by decide) (fun c1 => ?_) (fun c1 => ?_)
  · skip
    refine lv_aload_n hx hb dX4_set_9 rfl (lv_at hl 0 rfl) ?_
    refine lv_bipush (v := (-2)) hx hb dX4_set_10 (by decide) ?_
    refine cVI (As := [.int (-2)]) (rest := []) F (c_X4_refuse l g x0 h0 d0 k0 b0 a0 t0 r0 r1 ik rn rf (-2) 2 (by decide) (by omega) (by omega)) kX4_refuse rfl gX4_set_X4_refuse rfl rfl ⟨Nat.le_of_ble_eq_true rfl, Nat.le_of_ble_eq_true rfl⟩ hP hD hS [0, 3] [1, 2] rfl rfl 0 rfl rfl hl.1 rfl rfl (Nat.le_of_ble_eq_true rfl) dX4_set_12 ⟨Nat.le_of_ble_eq_true rfl, Nat.le_of_ble_eq_true rfl⟩ (fun rz w1 H locs hpo hP hD hS => ?_)
    obtain ⟨rfl, rfl⟩ := hpo
    obtain ⟨hP, hD⟩ := nx (ws' := [(x0, .inr (4, [.ref h0, .ref d0, .ref k0, .int (nI ik), .ref b0, .ref a0, .ref t0, .ref r0, .int (nI rn), .ref r1])), (h0, .inr (0, [.ref h1, .ref h2, .int (nI sk), .int (nI ek), .int (nI tr)])), (h2, .inl (eI g, 5, .inl (fun j => nI (B j)))), (r1, .inl (eI g, 7, .inl (bump rf 2)))]) hP hD [2, 0, 1, 3] (ndB_ok _ rfl) rfl
    exact rtI F hP hD hS dX4_set_15 (by rw [show (if x.toInt < 0 ∨ 5 ≤ x.toInt then 2 else cdC y (leastN x.toNatClampNeg) (greatN x.toNatClampNeg)) = 2 from (by first | (exfalso; omega) | ((try unfold cdC); (try simp only [true_and, and_true]); (repeat (first | rw [if_pos (by omega)] | rw [if_neg (by omega)])) <;> rfl))]; first | done | exact ⟨by rfl, by rfl⟩)
  · skip
    refine lv_iload_n hx hb dX4_set_4 rfl (lv_at hl 1 rfl) ?_
    refine lv_iconst (v := (nI 5)) hx hb dX4_set_5 (by decide) ?_
    refine ylt (tgt := 16) hx hb dX4_set_6 (by decide) (by omega) (fun c6 => ?_) (fun c6 => ?_)
    · skip
      obtain ⟨k, hk_, rfl⟩ := natOf (x := x) (by omega)
      rw [nI_tI hk_] at c1
      rw [nI_tI hk_] at c6
      refine lv_iload_n hx hb dX4_set_16 rfl (lv_at hl 2 rfl) ?_
      refine xgL F hS lkX4_set_1 dX4_set_17 ?_
      refine lv_iload_n hx hb dX4_set_20 rfl (lv_at hl 1 rfl) ?_
      refine xtL F hS (by omega) dX4_set_21 ?_
      have hbd1 := leastN_le k
      refine yge (tgt := 32) hx hb dX4_set_22 (by decide) (by omega) (fun c22 => ?_) (fun c22 => ?_)
      · skip
        refine lv_iload_n hx hb dX4_set_32 rfl (lv_at hl 2 rfl) ?_
        refine xgG F hS lkX4_set_2 dX4_set_33 ?_
        refine lv_iload_n hx hb dX4_set_36 rfl (lv_at hl 1 rfl) ?_
        refine xtG F hS (by omega) dX4_set_37 ?_
        have hbd2 := greatN_le k
        refine yle (tgt := 48) hx hb dX4_set_38 (by decide) (by omega) (fun c38 => ?_) (fun c38 => ?_)
        · skip
          obtain ⟨k2, hk2_, rfl⟩ := natOf (x := y) (by omega)
          rw [nI_tI hk2_] at c22
          rw [nI_tI hk2_] at c38
          refine lv_aload_n hx hb dX4_set_48 rfl (lv_at hl 0 rfl) ?_
          refine xget F hP inX4_set_X4 0 rfl rfl 0 (by decide) lkX4_set_3 rfl dX4_set_49 ?_
          refine xget F hP inX4_set_X0 1 rfl rfl 1 (by decide) lkX4_set_4 rfl dX4_set_52 ?_
          refine lv_iload_n hx hb dX4_set_55 rfl (lv_at hl 1 rfl) ?_
          refine xald F hP 2 (v := (nI (B k))) rfl (by omega) (by omega) rfl dX4_set_56 ?_
          refine lv_istore_n (lv' := [(3, .int (nI (B k))), (0, .ref x0), (1, .int (nI k)), (2, .int (nI k2))]) hx hb dX4_set_57 rfl hl (by decide) rfl (fun ls hl => ?_)
          refine lv_aload_n hx hb dX4_set_58 rfl (lv_at hl 1 rfl) ?_
          refine xget F hP inX4_set_X4 0 rfl rfl 0 (by decide) lkX4_set_3 rfl dX4_set_59 ?_
          refine xget F hP inX4_set_X0 1 rfl rfl 1 (by decide) lkX4_set_4 rfl dX4_set_62 ?_
          refine lv_iload_n hx hb dX4_set_65 rfl (lv_at hl 2 rfl) ?_
          refine lv_iload_n hx hb dX4_set_66 rfl (lv_at hl 3 rfl) ?_
          refine xast F hP hD hS 2 (f' := fun j => nI ((updN B k k2) j)) rfl (by omega) (by omega) (upd_nI B k k2) dX4_set_67 (fun H locs hP hD hS => ?_)
          have hP : va_P (eD g) vwCl [(x0, .inr (4, [.ref h0, .ref d0, .ref k0, .int (nI ik), .ref b0, .ref a0, .ref t0, .ref r0, .int (nI rn), .ref r1])), (h0, .inr (0, [.ref h1, .ref h2, .int (nI sk), .int (nI ek), .int (nI tr)])), (h2, .inl (eI g, 5, .inl (fun j => nI ((updN B k k2) j)))), (r1, .inl (eI g, 7, .inl rf))] H := hP
          have hD : va_D A [(x0, .inr (4, [.ref h0, .ref d0, .ref k0, .int (nI ik), .ref b0, .ref a0, .ref t0, .ref r0, .int (nI rn), .ref r1])), (h0, .inr (0, [.ref h1, .ref h2, .int (nI sk), .int (nI ek), .int (nI tr)])), (h2, .inl (eI g, 5, .inl (fun j => nI ((updN B k k2) j)))), (r1, .inl (eI g, 7, .inl rf))] := hD
          refine lv_iload_n hx hb dX4_set_68 rfl (lv_at hl 0 rfl) ?_
          exact rtI F hP hD hS dX4_set_69 (by rw [show (if (nI k).toInt < 0 ∨ 5 ≤ (nI k).toInt then 2 else cdC (nI k2) (leastN (nI k).toNatClampNeg) (greatN (nI k).toNatClampNeg)) = 0 from (by first | (exfalso; omega) | ((try unfold cdC); (try simp only [nI_tI hk_, nI_tI hk2_, nI_clamp hk_, nI_clamp hk2_, true_and, and_true]); (repeat (first | rw [if_pos (by omega)] | rw [if_neg (by omega)])) <;> rfl))]; first | done | exact ⟨by first | ((try simp only [nI_tI hk_, nI_tI hk2_, nI_clamp hk_, nI_clamp hk2_, true_and, and_true, rsp_0, rspL_0, bump_0]) <;> (repeat (first | rw [if_pos (by omega)] | rw [if_neg (by omega)])) <;> rfl) | (exfalso; omega), by first | ((try simp only [nI_tI hk_, nI_tI hk2_, nI_clamp hk_, nI_clamp hk2_, true_and, and_true, rsp_0, rspL_0, bump_0]) <;> (repeat (first | rw [if_pos (by omega)] | rw [if_neg (by omega)])) <;> rfl) | (exfalso; omega)⟩)
        · skip
          refine lv_aload_n hx hb dX4_set_41 rfl (lv_at hl 0 rfl) ?_
          refine lv_bipush (v := (-6)) hx hb dX4_set_42 (by decide) ?_
          refine cVI (As := [.int (-6)]) (rest := []) F (c_X4_refuse l g x0 h0 d0 k0 b0 a0 t0 r0 r1 ik rn rf (-6) 6 (by decide) (by omega) (by omega)) kX4_refuse rfl gX4_set_X4_refuse rfl rfl ⟨Nat.le_of_ble_eq_true rfl, Nat.le_of_ble_eq_true rfl⟩ hP hD hS [0, 3] [1, 2] rfl rfl 0 rfl rfl hl.1 rfl rfl (Nat.le_of_ble_eq_true rfl) dX4_set_44 ⟨Nat.le_of_ble_eq_true rfl, Nat.le_of_ble_eq_true rfl⟩ (fun rz w1 H locs hpo hP hD hS => ?_)
          obtain ⟨rfl, rfl⟩ := hpo
          obtain ⟨hP, hD⟩ := nx (ws' := [(x0, .inr (4, [.ref h0, .ref d0, .ref k0, .int (nI ik), .ref b0, .ref a0, .ref t0, .ref r0, .int (nI rn), .ref r1])), (h0, .inr (0, [.ref h1, .ref h2, .int (nI sk), .int (nI ek), .int (nI tr)])), (h2, .inl (eI g, 5, .inl (fun j => nI (B j)))), (r1, .inl (eI g, 7, .inl (bump rf 6)))]) hP hD [2, 0, 1, 3] (ndB_ok _ rfl) rfl
          exact rtI F hP hD hS dX4_set_47 (by rw [show (if (nI k).toInt < 0 ∨ 5 ≤ (nI k).toInt then 2 else cdC y (leastN (nI k).toNatClampNeg) (greatN (nI k).toNatClampNeg)) = 6 from (by first | (exfalso; omega) | ((try unfold cdC); (try simp only [nI_tI hk_, nI_clamp hk_, true_and, and_true]); (repeat (first | rw [if_pos (by omega)] | rw [if_neg (by omega)])) <;> rfl))]; first | done | exact ⟨by rfl, by rfl⟩)
      · skip
        refine lv_aload_n hx hb dX4_set_25 rfl (lv_at hl 0 rfl) ?_
        refine lv_bipush (v := (-4)) hx hb dX4_set_26 (by decide) ?_
        refine cVI (As := [.int (-4)]) (rest := []) F (c_X4_refuse l g x0 h0 d0 k0 b0 a0 t0 r0 r1 ik rn rf (-4) 4 (by decide) (by omega) (by omega)) kX4_refuse rfl gX4_set_X4_refuse rfl rfl ⟨Nat.le_of_ble_eq_true rfl, Nat.le_of_ble_eq_true rfl⟩ hP hD hS [0, 3] [1, 2] rfl rfl 0 rfl rfl hl.1 rfl rfl (Nat.le_of_ble_eq_true rfl) dX4_set_28 ⟨Nat.le_of_ble_eq_true rfl, Nat.le_of_ble_eq_true rfl⟩ (fun rz w1 H locs hpo hP hD hS => ?_)
        obtain ⟨rfl, rfl⟩ := hpo
        obtain ⟨hP, hD⟩ := nx (ws' := [(x0, .inr (4, [.ref h0, .ref d0, .ref k0, .int (nI ik), .ref b0, .ref a0, .ref t0, .ref r0, .int (nI rn), .ref r1])), (h0, .inr (0, [.ref h1, .ref h2, .int (nI sk), .int (nI ek), .int (nI tr)])), (h2, .inl (eI g, 5, .inl (fun j => nI (B j)))), (r1, .inl (eI g, 7, .inl (bump rf 4)))]) hP hD [2, 0, 1, 3] (ndB_ok _ rfl) rfl
        exact rtI F hP hD hS dX4_set_31 (by rw [show (if (nI k).toInt < 0 ∨ 5 ≤ (nI k).toInt then 2 else cdC y (leastN (nI k).toNatClampNeg) (greatN (nI k).toNatClampNeg)) = 4 from (by first | (exfalso; omega) | ((try unfold cdC); (try simp only [nI_tI hk_, nI_clamp hk_, true_and, and_true]); (repeat (first | rw [if_pos (by omega)] | rw [if_neg (by omega)])) <;> rfl))]; first | done | exact ⟨by rfl, by rfl⟩)
    · skip
      refine lv_aload_n hx hb dX4_set_9 rfl (lv_at hl 0 rfl) ?_
      refine lv_bipush (v := (-2)) hx hb dX4_set_10 (by decide) ?_
      refine cVI (As := [.int (-2)]) (rest := []) F (c_X4_refuse l g x0 h0 d0 k0 b0 a0 t0 r0 r1 ik rn rf (-2) 2 (by decide) (by omega) (by omega)) kX4_refuse rfl gX4_set_X4_refuse rfl rfl ⟨Nat.le_of_ble_eq_true rfl, Nat.le_of_ble_eq_true rfl⟩ hP hD hS [0, 3] [1, 2] rfl rfl 0 rfl rfl hl.1 rfl rfl (Nat.le_of_ble_eq_true rfl) dX4_set_12 ⟨Nat.le_of_ble_eq_true rfl, Nat.le_of_ble_eq_true rfl⟩ (fun rz w1 H locs hpo hP hD hS => ?_)
      obtain ⟨rfl, rfl⟩ := hpo
      obtain ⟨hP, hD⟩ := nx (ws' := [(x0, .inr (4, [.ref h0, .ref d0, .ref k0, .int (nI ik), .ref b0, .ref a0, .ref t0, .ref r0, .int (nI rn), .ref r1])), (h0, .inr (0, [.ref h1, .ref h2, .int (nI sk), .int (nI ek), .int (nI tr)])), (h2, .inl (eI g, 5, .inl (fun j => nI (B j)))), (r1, .inl (eI g, 7, .inl (bump rf 2)))]) hP hD [2, 0, 1, 3] (ndB_ok _ rfl) rfl
      exact rtI F hP hD hS dX4_set_15 (by rw [show (if x.toInt < 0 ∨ 5 ≤ x.toInt then 2 else cdC y (leastN x.toNatClampNeg) (greatN x.toNatClampNeg)) = 2 from (by first | (exfalso; omega) | ((try unfold cdC); (try simp only [true_and, and_true]); (repeat (first | rw [if_pos (by omega)] | rw [if_neg (by omega)])) <;> rfl))]; first | done | exact ⟨by rfl, by rfl⟩)

theorem kX5_set : Cal yX5_set wsX5_set cX5_set 5 (some .int) 2 := ⟨⟨_, rfl⟩, by decide +kernel⟩
set_option maxHeartbeats 4000000 in
set_option maxRecDepth 100000 in
theorem c_X5_set (l : Launch) (g : EE) (m0 : Nat) (m1 : Nat) (m2 : Nat) (m3 : Nat) (m4 : Nat) (m5 : Nat) (m6 : Nat) (m7 : Nat) (m8 : Nat) (m9 : Nat) (m10 : Nat) (m11 : Nat) (m12 : Nat) (m13 : Nat) (m14 : Nat) (kp : Nat) (rn : Nat) (tn : Nat) (ia : Nat) (wl : Nat) (si : Nat) (S : Nat → Nat) (rf : Nat → Int32) (x : Int32) (y : Int32) (hO : okS S) : CI l yX5_set wsX5_set ({ frames := 2, cells := 0, slots := 0, locals := 46 }) g [.ref m0, .int x, .int y] [(m0, .inr (5, [.ref m1, .ref m2, .ref m3, .int (nI kp), .ref m4, .ref m5, .ref m6, .ref m7, .ref m8, .int (nI rn), .ref m9, .int (nI tn), .int (nI ia), .int (nI wl), .ref m10, .ref m11, .ref m12, .int (nI si), .ref m13, .ref m14])), (m1, .inl (eI g, 7, .inl rf)), (m2, .inl (eI g, 49, .inl (fun j => nI (S j))))] (fun (rz : Int32) (wz : va_W) => rz = (rsp (if x.toInt < 0 ∨ 5 ≤ x.toInt then 2 else cdC y (leastN x.toNatClampNeg) (greatN x.toNatClampNeg)) (nI (S (41 + x.toNatClampNeg)))) ∧ wz = [(m0, .inr (5, [.ref m1, .ref m2, .ref m3, .int (nI kp), .ref m4, .ref m5, .ref m6, .ref m7, .ref m8, .int (nI rn), .ref m9, .int (nI tn), .int (nI ia), .int (nI wl), .ref m10, .ref m11, .ref m12, .int (nI si), .ref m13, .ref m14])), (m1, .inl (eI g, 7, .inl (bump rf (if x.toInt < 0 ∨ 5 ≤ x.toInt then 2 else cdC y (leastN x.toNatClampNeg) (greatN x.toNatClampNeg))))), (m2, .inl (eI g, 49, .inl (fun j => nI ((if (if x.toInt < 0 ∨ 5 ≤ x.toInt then 2 else cdC y (leastN x.toNatClampNeg) (greatN x.toNatClampNeg)) = 0 then updN S (41 + x.toNatClampNeg) y.toNatClampNeg else S) j))))]) 0 0 := by
  refine ctI (cc := cX5_set) (maxL := 5) (ret := (some .int)) (by decide) rfl (Nat.le_of_ble_eq_true rfl) ?_
  intro p_ e_ s_ m_ bl_ mt_ cd_ A ls F hnm hP hD hS hl
  obtain ⟨hx, hb, hml, hown, hts, hK, hX, hA, hrt_, hlocks⟩ := id F
  have hl : lv_has ls 5 [(0, .ref m0), (1, .int x), (2, .int y)] := hl
  refine lv_iload_n hx hb dX5_set_0 rfl (lv_at hl 1 rfl) ?_
  refine wlt (tgt := 9) hx hb dX5_set_1 (by decide) (fun c1 => ?_) (fun c1 => ?_)
  · skip
    refine lv_aload_n hx hb dX5_set_9 rfl (lv_at hl 0 rfl) ?_
    refine lv_bipush (v := (-2)) hx hb dX5_set_10 (by decide) ?_
    refine cVI (As := [.int (-2)]) (rest := []) F (c_X5_no l g m0 m1 m2 m3 m4 m5 m6 m7 m8 m9 m10 m11 m12 m13 m14 kp rn tn ia wl si rf (-2) 2 (by decide) (by omega) (by omega)) kX5_no rfl gX5_set_X5_no rfl rfl ⟨Nat.le_of_ble_eq_true rfl, Nat.le_of_ble_eq_true rfl⟩ hP hD hS [0, 1] [2] rfl rfl 0 rfl rfl hl.1 rfl rfl (Nat.le_of_ble_eq_true rfl) dX5_set_12 ⟨Nat.le_of_ble_eq_true rfl, Nat.le_of_ble_eq_true rfl⟩ (fun rz w1 H locs hpo hP hD hS => ?_)
    obtain ⟨rfl, rfl⟩ := hpo
    obtain ⟨hP, hD⟩ := nx (ws' := [(m0, .inr (5, [.ref m1, .ref m2, .ref m3, .int (nI kp), .ref m4, .ref m5, .ref m6, .ref m7, .ref m8, .int (nI rn), .ref m9, .int (nI tn), .int (nI ia), .int (nI wl), .ref m10, .ref m11, .ref m12, .int (nI si), .ref m13, .ref m14])), (m1, .inl (eI g, 7, .inl (bump rf 2))), (m2, .inl (eI g, 49, .inl (fun j => nI (S j))))]) hP hD [1, 2, 0] (ndB_ok _ rfl) rfl
    exact rtI F hP hD hS dX5_set_15 (by rw [show (if x.toInt < 0 ∨ 5 ≤ x.toInt then 2 else cdC y (leastN x.toNatClampNeg) (greatN x.toNatClampNeg)) = 2 from (by first | (exfalso; omega) | ((try simp only [true_and, and_true]); (repeat (first | rw [if_pos (by omega)] | rw [if_neg (by omega)])) <;> rfl))]; first | done | exact ⟨by rfl, by rfl⟩)
  · skip
    refine lv_iload_n hx hb dX5_set_4 rfl (lv_at hl 1 rfl) ?_
    refine lv_iconst (v := (nI 4)) hx hb dX5_set_5 (by decide) ?_
    refine yle (tgt := 16) hx hb dX5_set_6 (by decide) (by omega) (fun c6 => ?_) (fun c6 => ?_)
    · skip
      obtain ⟨k, hk_, rfl⟩ := natOf (x := x) (by omega)
      rw [nI_tI hk_] at c1
      rw [nI_tI hk_] at c6
      refine lv_iload_n hx hb dX5_set_16 rfl (lv_at hl 1 rfl) ?_
      refine xjo (A := A) (g := g) (σ := Nat) 34 5 (fun (z : Nat) => [(0, .ref m0), (1, .int (nI k)), (2, .int y)]) (fun (z : Nat) => [(m0, .inr (5, [.ref m1, .ref m2, .ref m3, .int (nI kp), .ref m4, .ref m5, .ref m6, .ref m7, .ref m8, .int (nI rn), .ref m9, .int (nI tn), .int (nI ia), .int (nI wl), .ref m10, .ref m11, .ref m12, .int (nI si), .ref m13, .ref m14])), (m1, .inl (eI g, 7, .inl rf)), (m2, .inl (eI g, 49, .inl (fun j => nI (S j))))]) (fun (z : Nat) => [.int (nI z)]) (fun (z : Nat) => z = leastN k) (fun jn34 => ?_) (fun xz_ hI H locs ls hP hD hS hl => ?_)
      · skip
        refine zne (tgt := 24) hx hb dX5_set_17 (by decide) (by omega) (fun c17 => ?_) (fun c17 => ?_)
        · skip
          refine lv_iload_n hx hb dX5_set_24 rfl (lv_at hl 1 rfl) ?_
          refine lv_iconst (v := (nI 1)) hx hb dX5_set_25 (by decide) ?_
          refine xne (tgt := 33) hx hb dX5_set_26 (by decide) (by omega) (by omega) (fun c26 => ?_) (fun c26 => ?_)
          · skip
            refine lv_iconst (v := (nI 0)) hx hb dX5_set_33 (by decide) ?_
            exact jn34 0 (show 0 = leastN k from (by unfold leastN; (repeat' split) <;> omega)) _ _ _ hP hD hS (lv_sub hl [0, 1, 2] rfl)
          · skip
            refine lv_iconst (v := (nI 1)) hx hb dX5_set_29 (by decide) ?_
            refine lv_goto (tgt := 34) hx hb dX5_set_30 (by decide) ?_
            exact jn34 1 (show 1 = leastN k from (by unfold leastN; (repeat' split) <;> omega)) _ _ _ hP hD hS (lv_sub hl [0, 1, 2] rfl)
        · skip
          refine lv_iconst (v := (nI 2)) hx hb dX5_set_20 (by decide) ?_
          refine lv_goto (tgt := 34) hx hb dX5_set_21 (by decide) ?_
          exact jn34 2 (show 2 = leastN k from (by unfold leastN; (repeat' split) <;> omega)) _ _ _ hP hD hS (lv_sub hl [0, 1, 2] rfl)
      · skip
        obtain ⟨z, rfl⟩ : ∃ z, z = xz_ := ⟨_, rfl⟩
        have hP : va_P (eD g) vwCl [(m0, .inr (5, [.ref m1, .ref m2, .ref m3, .int (nI kp), .ref m4, .ref m5, .ref m6, .ref m7, .ref m8, .int (nI rn), .ref m9, .int (nI tn), .int (nI ia), .int (nI wl), .ref m10, .ref m11, .ref m12, .int (nI si), .ref m13, .ref m14])), (m1, .inl (eI g, 7, .inl rf)), (m2, .inl (eI g, 49, .inl (fun j => nI (S j))))] H := hP
        have hD : va_D A [(m0, .inr (5, [.ref m1, .ref m2, .ref m3, .int (nI kp), .ref m4, .ref m5, .ref m6, .ref m7, .ref m8, .int (nI rn), .ref m9, .int (nI tn), .int (nI ia), .int (nI wl), .ref m10, .ref m11, .ref m12, .int (nI si), .ref m13, .ref m14])), (m1, .inl (eI g, 7, .inl rf)), (m2, .inl (eI g, 49, .inl (fun j => nI (S j))))] := hD
        have hl : lv_has ls 5 [(0, .ref m0), (1, .int (nI k)), (2, .int y)] := hl
        have hI34 : z = leastN k := hI
        clear hI
        have hzb : z ≤ 2 := by rw [hI34]; exact leastN_le k
        refine lv_istore_n (lv' := [(3, .int (nI z)), (0, .ref m0), (1, .int (nI k)), (2, .int y)]) hx hb dX5_set_34 rfl hl (by decide) rfl (fun ls hl => ?_)
        refine lv_iload_n hx hb dX5_set_35 rfl (lv_at hl 2 rfl) ?_
        refine xjo (A := A) (g := g) (σ := Nat) 56 5 (fun (z2 : Nat) => [(0, .ref m0), (1, .int (nI k)), (2, .int y), (3, .int (nI z))]) (fun (z2 : Nat) => [(m0, .inr (5, [.ref m1, .ref m2, .ref m3, .int (nI kp), .ref m4, .ref m5, .ref m6, .ref m7, .ref m8, .int (nI rn), .ref m9, .int (nI tn), .int (nI ia), .int (nI wl), .ref m10, .ref m11, .ref m12, .int (nI si), .ref m13, .ref m14])), (m1, .inl (eI g, 7, .inl rf)), (m2, .inl (eI g, 49, .inl (fun j => nI (S j))))]) (fun (z2 : Nat) => [.int (nI z2)]) (fun (z2 : Nat) => z2 = greatN k) (fun jn56 => ?_) (fun xz_ hI H locs ls hP hD hS hl => ?_)
        · skip
          refine zne (tgt := 44) hx hb dX5_set_36 (by decide) (by omega) (fun c36 => ?_) (fun c36 => ?_)
          · skip
            refine lv_iload_n hx hb dX5_set_44 rfl (lv_at hl 2 rfl) ?_
            refine lv_iconst (v := (nI 3)) hx hb dX5_set_45 (by decide) ?_
            refine xge (tgt := 54) hx hb dX5_set_46 (by decide) (by omega) (by omega) (fun c46 => ?_) (fun c46 => ?_)
            · skip
              refine lv_bipush (v := (nI 99)) hx hb dX5_set_54 (by decide) ?_
              exact jn56 99 (show 99 = greatN k from (by unfold greatN; (repeat' split) <;> omega)) _ _ _ hP hD hS (lv_sub hl [1, 2, 3, 0] rfl)
            · skip
              refine lv_bipush (v := (nI 9)) hx hb dX5_set_49 (by decide) ?_
              refine lv_goto (tgt := 56) hx hb dX5_set_51 (by decide) ?_
              exact jn56 9 (show 9 = greatN k from (by unfold greatN; (repeat' split) <;> omega)) _ _ _ hP hD hS (lv_sub hl [1, 2, 3, 0] rfl)
          · skip
            refine lv_bipush (v := (nI 7)) hx hb dX5_set_39 (by decide) ?_
            refine lv_goto (tgt := 56) hx hb dX5_set_41 (by decide) ?_
            exact jn56 7 (show 7 = greatN k from (by unfold greatN; (repeat' split) <;> omega)) _ _ _ hP hD hS (lv_sub hl [1, 2, 3, 0] rfl)
        · skip
          obtain ⟨z2, rfl⟩ : ∃ z, z = xz_ := ⟨_, rfl⟩
          have hP : va_P (eD g) vwCl [(m0, .inr (5, [.ref m1, .ref m2, .ref m3, .int (nI kp), .ref m4, .ref m5, .ref m6, .ref m7, .ref m8, .int (nI rn), .ref m9, .int (nI tn), .int (nI ia), .int (nI wl), .ref m10, .ref m11, .ref m12, .int (nI si), .ref m13, .ref m14])), (m1, .inl (eI g, 7, .inl rf)), (m2, .inl (eI g, 49, .inl (fun j => nI (S j))))] H := hP
          have hD : va_D A [(m0, .inr (5, [.ref m1, .ref m2, .ref m3, .int (nI kp), .ref m4, .ref m5, .ref m6, .ref m7, .ref m8, .int (nI rn), .ref m9, .int (nI tn), .int (nI ia), .int (nI wl), .ref m10, .ref m11, .ref m12, .int (nI si), .ref m13, .ref m14])), (m1, .inl (eI g, 7, .inl rf)), (m2, .inl (eI g, 49, .inl (fun j => nI (S j))))] := hD
          have hl : lv_has ls 5 [(0, .ref m0), (1, .int (nI k)), (2, .int y), (3, .int (nI z))] := hl
          have hI56 : z2 = greatN k := hI
          clear hI
          have hzb2 : z2 ≤ 99 := by rw [hI56]; exact greatN_le k
          refine lv_istore (lv' := [(4, .int (nI z2)), (0, .ref m0), (1, .int (nI k)), (2, .int y), (3, .int (nI z))]) hx hb dX5_set_56 hl (by decide) rfl (fun ls hl => ?_)
          refine lv_aload_n hx hb dX5_set_58 rfl (lv_at hl 1 rfl) ?_
          refine lv_bipush (v := (nI 41)) hx hb dX5_set_59 (by decide) ?_
          refine lv_iload_n hx hb dX5_set_61 rfl (lv_at hl 2 rfl) ?_
          refine xadd hx hb dX5_set_62 ?_
          refine lv_iload_n hx hb dX5_set_63 rfl (lv_at hl 3 rfl) ?_
          refine lv_iload_n hx hb dX5_set_64 rfl (lv_at hl 4 rfl) ?_
          refine lv_iload hx hb dX5_set_65 (lv_at hl 0 rfl) ?_
          refine cVI (As := [.int (nI (41 + k)), .int y, .int (nI z), .int (nI z2)]) (rest := []) F (c_X5_change l g m0 m1 m2 m3 m4 m5 m6 m7 m8 m9 m10 m11 m12 m13 m14 kp rn tn ia wl si rf S (41 + k) y z z2 (by omega) (by omega) (by omega)) kX5_change rfl gX5_set_X5_change rfl rfl ⟨Nat.le_of_ble_eq_true rfl, Nat.le_of_ble_eq_true rfl⟩ hP hD hS [0, 1, 2] [] rfl rfl 0 rfl rfl hl.1 rfl rfl (Nat.le_of_ble_eq_true rfl) dX5_set_67 ⟨Nat.le_of_ble_eq_true rfl, Nat.le_of_ble_eq_true rfl⟩ (fun rz w1 H locs hpo hP hD hS => ?_)
          obtain ⟨rfl, rfl⟩ := hpo
          obtain ⟨hP, hD⟩ := nx (ws' := [(m0, .inr (5, [.ref m1, .ref m2, .ref m3, .int (nI kp), .ref m4, .ref m5, .ref m6, .ref m7, .ref m8, .int (nI rn), .ref m9, .int (nI tn), .int (nI ia), .int (nI wl), .ref m10, .ref m11, .ref m12, .int (nI si), .ref m13, .ref m14])), (m1, .inl (eI g, 7, .inl (bump rf (cdC y z z2)))), (m2, .inl (eI g, 49, .inl (fun j => nI ((if cdC y z z2 = 0 then updN S (41 + k) y.toNatClampNeg else S) j))))]) hP hD [0, 1, 2] (ndB_ok _ rfl) rfl
          exact rtI F hP hD hS dX5_set_70 (by rw [show (if (nI k).toInt < 0 ∨ 5 ≤ (nI k).toInt then 2 else cdC y (leastN (nI k).toNatClampNeg) (greatN (nI k).toNatClampNeg)) = cdC y z z2 from (by rw [nI_tI hk_, nI_clamp hk_, if_neg (by omega), hI34, hI56])]; rw [nI_clamp hk_]; exact ⟨rfl, rfl⟩)
    · skip
      refine lv_aload_n hx hb dX5_set_9 rfl (lv_at hl 0 rfl) ?_
      refine lv_bipush (v := (-2)) hx hb dX5_set_10 (by decide) ?_
      refine cVI (As := [.int (-2)]) (rest := []) F (c_X5_no l g m0 m1 m2 m3 m4 m5 m6 m7 m8 m9 m10 m11 m12 m13 m14 kp rn tn ia wl si rf (-2) 2 (by decide) (by omega) (by omega)) kX5_no rfl gX5_set_X5_no rfl rfl ⟨Nat.le_of_ble_eq_true rfl, Nat.le_of_ble_eq_true rfl⟩ hP hD hS [0, 1] [2] rfl rfl 0 rfl rfl hl.1 rfl rfl (Nat.le_of_ble_eq_true rfl) dX5_set_12 ⟨Nat.le_of_ble_eq_true rfl, Nat.le_of_ble_eq_true rfl⟩ (fun rz w1 H locs hpo hP hD hS => ?_)
      obtain ⟨rfl, rfl⟩ := hpo
      obtain ⟨hP, hD⟩ := nx (ws' := [(m0, .inr (5, [.ref m1, .ref m2, .ref m3, .int (nI kp), .ref m4, .ref m5, .ref m6, .ref m7, .ref m8, .int (nI rn), .ref m9, .int (nI tn), .int (nI ia), .int (nI wl), .ref m10, .ref m11, .ref m12, .int (nI si), .ref m13, .ref m14])), (m1, .inl (eI g, 7, .inl (bump rf 2))), (m2, .inl (eI g, 49, .inl (fun j => nI (S j))))]) hP hD [1, 2, 0] (ndB_ok _ rfl) rfl
      exact rtI F hP hD hS dX5_set_15 (by rw [show (if x.toInt < 0 ∨ 5 ≤ x.toInt then 2 else cdC y (leastN x.toNatClampNeg) (greatN x.toNatClampNeg)) = 2 from (by first | (exfalso; omega) | ((try simp only [true_and, and_true]); (repeat (first | rw [if_pos (by omega)] | rw [if_neg (by omega)])) <;> rfl))]; first | done | exact ⟨by rfl, by rfl⟩)

theorem inX4_kind_X4 : ∀ w ∈ u_ws RX4 TX4 10, w ∈ wsX4_kind := fun _ h => (List.mem_cons_of_mem _ (List.mem_append_left _ (List.mem_append_right _ h)))
theorem lkX4_kind_1 : Cond.fieldLink RX4 10 "StripInFiveSteps" "now" "LStripInFiveSteps$Shed;" ∈ wsX4_kind := List.mem_of_getElem? (i := 1) rfl
theorem inX4_kind_X0 : ∀ w ∈ u_ws RX0 TX0 5, w ∈ wsX4_kind := fun _ h => (List.mem_cons_of_mem _ (List.mem_append_right _ h))
theorem lkX4_kind_3 : Cond.fieldLink RX4 105 "StripInFiveSteps$Shed" "eyeKind" "I" ∈ wsX4_kind := List.mem_of_getElem? (i := 3) rfl
theorem lkX4_kind_2 : Cond.fieldLink RX4 99 "StripInFiveSteps$Shed" "stripKind" "I" ∈ wsX4_kind := List.mem_of_getElem? (i := 2) rfl
theorem kX4_kind : Cal yX4_kind wsX4_kind cX4_kind 4 (some .int) 2 := ⟨⟨_, rfl⟩, by decide +kernel⟩
set_option maxHeartbeats 4000000 in
set_option maxRecDepth 100000 in
theorem c_X4_kind (l : Launch) (g : EE) (x0 : Nat) (h0 : Nat) (d0 : Nat) (k0 : Nat) (b0 : Nat) (a0 : Nat) (t0 : Nat) (r0 : Nat) (r1 : Nat) (ik : Nat) (rn : Nat) (h1 : Nat) (h2 : Nat) (B : Nat → Nat) (sk : Nat) (ek : Nat) (tr : Nat) (rf : Nat → Int32) (x : Int32) (y : Int32)  : CI l yX4_kind wsX4_kind ({ frames := 1, cells := 0, slots := 0, locals := 22 }) g [.ref x0, .int x, .int y] [(x0, .inr (4, [.ref h0, .ref d0, .ref k0, .int (nI ik), .ref b0, .ref a0, .ref t0, .ref r0, .int (nI rn), .ref r1])), (h0, .inr (0, [.ref h1, .ref h2, .int (nI sk), .int (nI ek), .int (nI tr)])), (h2, .inl (eI g, 5, .inl (fun j => nI (B j)))), (r1, .inl (eI g, 7, .inl rf))] (fun (rz : Int32) (wz : va_W) => rz = (rsp (if (x.toInt = 0 ∧ 0 ≤ y.toInt ∧ y.toInt ≤ 3) ∨ (x.toInt = 1 ∧ 0 ≤ y.toInt ∧ y.toInt ≤ 4) then 0 else 2) (nI (if x.toInt = 0 then sk else ek))) ∧ wz = [(x0, .inr (4, [.ref h0, .ref d0, .ref k0, .int (nI ik), .ref b0, .ref a0, .ref t0, .ref r0, .int (nI rn), .ref r1])), (h0, .inr (0, [.ref h1, .ref h2, .int (nI (if (if (x.toInt = 0 ∧ 0 ≤ y.toInt ∧ y.toInt ≤ 3) ∨ (x.toInt = 1 ∧ 0 ≤ y.toInt ∧ y.toInt ≤ 4) then 0 else 2) = 0 ∧ x.toInt = 0 then y.toNatClampNeg else sk)), .int (nI (if (if (x.toInt = 0 ∧ 0 ≤ y.toInt ∧ y.toInt ≤ 3) ∨ (x.toInt = 1 ∧ 0 ≤ y.toInt ∧ y.toInt ≤ 4) then 0 else 2) = 0 ∧ x.toInt = 1 then y.toNatClampNeg else ek)), .int (nI tr)])), (h2, .inl (eI g, 5, .inl (fun j => nI (B j)))), (r1, .inl (eI g, 7, .inl (bump rf (if (x.toInt = 0 ∧ 0 ≤ y.toInt ∧ y.toInt ≤ 3) ∨ (x.toInt = 1 ∧ 0 ≤ y.toInt ∧ y.toInt ≤ 4) then 0 else 2))))]) 0 0 := by
  refine ctI (cc := cX4_kind) (maxL := 4) (ret := (some .int)) (by decide) rfl (Nat.le_of_ble_eq_true rfl) ?_
  intro p_ e_ s_ m_ bl_ mt_ cd_ A ls F hnm hP hD hS hl
  obtain ⟨hx, hb, hml, hown, hts, hK, hX, hA, hrt_, hlocks⟩ := id F
  have hl : lv_has ls 4 [(0, .ref x0), (1, .int x), (2, .int y)] := hl
  refine lv_iload_n hx hb dX4_kind_0 rfl (lv_at hl 1 rfl) ?_
  refine wne (tgt := 29) hx hb dX4_kind_1 (by decide) (fun c1 => ?_) (fun c1 => ?_)
  · skip
    refine lv_iload_n hx hb dX4_kind_29 rfl (lv_at hl 1 rfl) ?_
    refine lv_iconst (v := (nI 1)) hx hb dX4_kind_30 (by decide) ?_
    refine yne (tgt := 59) hx hb dX4_kind_31 (by decide) (by omega) (fun c31 => ?_) (fun c31 => ?_)
    · skip
      refine lv_aload_n hx hb dX4_kind_59 rfl (lv_at hl 0 rfl) ?_
      refine lv_bipush (v := (-2)) hx hb dX4_kind_60 (by decide) ?_
      refine cVI (As := [.int (-2)]) (rest := []) F (c_X4_refuse l g x0 h0 d0 k0 b0 a0 t0 r0 r1 ik rn rf (-2) 2 (by decide) (by omega) (by omega)) kX4_refuse rfl gX4_kind_X4_refuse rfl rfl ⟨Nat.le_of_ble_eq_true rfl, Nat.le_of_ble_eq_true rfl⟩ hP hD hS [0, 3] [1, 2] rfl rfl 0 rfl rfl hl.1 rfl rfl (Nat.le_of_ble_eq_true rfl) dX4_kind_62 ⟨Nat.le_of_ble_eq_true rfl, Nat.le_of_ble_eq_true rfl⟩ (fun rz w1 H locs hpo hP hD hS => ?_)
      obtain ⟨rfl, rfl⟩ := hpo
      obtain ⟨hP, hD⟩ := nx (ws' := [(x0, .inr (4, [.ref h0, .ref d0, .ref k0, .int (nI ik), .ref b0, .ref a0, .ref t0, .ref r0, .int (nI rn), .ref r1])), (h0, .inr (0, [.ref h1, .ref h2, .int (nI sk), .int (nI ek), .int (nI tr)])), (h2, .inl (eI g, 5, .inl (fun j => nI (B j)))), (r1, .inl (eI g, 7, .inl (bump rf 2)))]) hP hD [2, 0, 1, 3] (ndB_ok _ rfl) rfl
      exact rtI F hP hD hS dX4_kind_65 (by rw [show (if (x.toInt = 0 ∧ 0 ≤ y.toInt ∧ y.toInt ≤ 3) ∨ (x.toInt = 1 ∧ 0 ≤ y.toInt ∧ y.toInt ≤ 4) then 0 else 2) = 2 from (by first | (exfalso; omega) | ((try simp only [true_and, and_true]); (repeat (first | rw [if_pos (by omega)] | rw [if_neg (by omega)])) <;> rfl))]; first | done | exact ⟨by rfl, by rfl⟩)
    · skip
      refine lv_iload_n hx hb dX4_kind_34 rfl (lv_at hl 2 rfl) ?_
      refine cSI (As := [.int y]) (rest := []) F (c_X4_isEyeKind l g y ) kX4_isEyeKind gX4_kind_X4_isEyeKind rfl rfl ⟨Nat.le_of_ble_eq_true rfl, Nat.le_of_ble_eq_true rfl⟩ hP hD hS [] [0, 1, 2, 3] rfl rfl hl.1 rfl rfl (Nat.le_of_ble_eq_true rfl) dX4_kind_35 ⟨Nat.le_of_ble_eq_true rfl, Nat.le_of_ble_eq_true rfl⟩ (fun rz w1 H locs hpo hP hD hS => ?_)
      obtain ⟨rfl, rfl⟩ := hpo
      obtain ⟨hP, hD⟩ := nx (ws' := [(x0, .inr (4, [.ref h0, .ref d0, .ref k0, .int (nI ik), .ref b0, .ref a0, .ref t0, .ref r0, .int (nI rn), .ref r1])), (h0, .inr (0, [.ref h1, .ref h2, .int (nI sk), .int (nI ek), .int (nI tr)])), (h2, .inl (eI g, 5, .inl (fun j => nI (B j)))), (r1, .inl (eI g, 7, .inl rf))]) hP hD [0, 1, 2, 3] (ndB_ok _ rfl) rfl
      refine bqeq (tgt := 59) hx hb dX4_kind_38 (by decide) (fun c38 => ?_) (fun c38 => ?_)
      · skip
        refine lv_aload_n hx hb dX4_kind_59 rfl (lv_at hl 0 rfl) ?_
        refine lv_bipush (v := (-2)) hx hb dX4_kind_60 (by decide) ?_
        refine cVI (As := [.int (-2)]) (rest := []) F (c_X4_refuse l g x0 h0 d0 k0 b0 a0 t0 r0 r1 ik rn rf (-2) 2 (by decide) (by omega) (by omega)) kX4_refuse rfl gX4_kind_X4_refuse rfl rfl ⟨Nat.le_of_ble_eq_true rfl, Nat.le_of_ble_eq_true rfl⟩ hP hD hS [0, 3] [1, 2] rfl rfl 0 rfl rfl hl.1 rfl rfl (Nat.le_of_ble_eq_true rfl) dX4_kind_62 ⟨Nat.le_of_ble_eq_true rfl, Nat.le_of_ble_eq_true rfl⟩ (fun rz w1 H locs hpo hP hD hS => ?_)
        obtain ⟨rfl, rfl⟩ := hpo
        obtain ⟨hP, hD⟩ := nx (ws' := [(x0, .inr (4, [.ref h0, .ref d0, .ref k0, .int (nI ik), .ref b0, .ref a0, .ref t0, .ref r0, .int (nI rn), .ref r1])), (h0, .inr (0, [.ref h1, .ref h2, .int (nI sk), .int (nI ek), .int (nI tr)])), (h2, .inl (eI g, 5, .inl (fun j => nI (B j)))), (r1, .inl (eI g, 7, .inl (bump rf 2)))]) hP hD [2, 0, 1, 3] (ndB_ok _ rfl) rfl
        exact rtI F hP hD hS dX4_kind_65 (by rw [show (if (x.toInt = 0 ∧ 0 ≤ y.toInt ∧ y.toInt ≤ 3) ∨ (x.toInt = 1 ∧ 0 ≤ y.toInt ∧ y.toInt ≤ 4) then 0 else 2) = 2 from (by first | (exfalso; omega) | ((try simp only [true_and, and_true]); (repeat (first | rw [if_pos (by omega)] | rw [if_neg (by omega)])) <;> rfl))]; first | done | exact ⟨by rfl, by rfl⟩)
      · skip
        obtain ⟨k2, hk2_, rfl⟩ := natOf (x := y) (by omega)
        rw [nI_tI hk2_] at c38
        refine lv_aload_n hx hb dX4_kind_41 rfl (lv_at hl 0 rfl) ?_
        refine xget F hP inX4_kind_X4 0 rfl rfl 0 (by decide) lkX4_kind_1 rfl dX4_kind_42 ?_
        refine xget F hP inX4_kind_X0 1 rfl rfl 3 (by decide) lkX4_kind_3 rfl dX4_kind_45 ?_
        refine lv_istore_n (lv' := [(3, .int (nI ek)), (0, .ref x0), (1, .int x), (2, .int (nI k2))]) hx hb dX4_kind_48 rfl hl (by decide) rfl (fun ls hl => ?_)
        refine lv_aload_n hx hb dX4_kind_49 rfl (lv_at hl 1 rfl) ?_
        refine xget F hP inX4_kind_X4 0 rfl rfl 0 (by decide) lkX4_kind_1 rfl dX4_kind_50 ?_
        refine lv_iload_n hx hb dX4_kind_53 rfl (lv_at hl 3 rfl) ?_
        refine xput F hP hD hS inX4_kind_X0 tyX0 tyX0_ok nmX0 1 rfl rfl 3 (by decide) lkX4_kind_3 rfl rfl rfl (Nat.le_of_ble_eq_true rfl) dX4_kind_54 (fun H locs hP hD hS => ?_)
        have hP : va_P (eD g) vwCl [(x0, .inr (4, [.ref h0, .ref d0, .ref k0, .int (nI ik), .ref b0, .ref a0, .ref t0, .ref r0, .int (nI rn), .ref r1])), (h0, .inr (0, [.ref h1, .ref h2, .int (nI sk), .int (nI k2), .int (nI tr)])), (h2, .inl (eI g, 5, .inl (fun j => nI (B j)))), (r1, .inl (eI g, 7, .inl rf))] H := hP
        have hD : va_D A [(x0, .inr (4, [.ref h0, .ref d0, .ref k0, .int (nI ik), .ref b0, .ref a0, .ref t0, .ref r0, .int (nI rn), .ref r1])), (h0, .inr (0, [.ref h1, .ref h2, .int (nI sk), .int (nI k2), .int (nI tr)])), (h2, .inl (eI g, 5, .inl (fun j => nI (B j)))), (r1, .inl (eI g, 7, .inl rf))] := hD
        refine lv_iload_n hx hb dX4_kind_57 rfl (lv_at hl 0 rfl) ?_
        exact rtI F hP hD hS dX4_kind_58 (by rw [show (if (x.toInt = 0 ∧ 0 ≤ (nI k2).toInt ∧ (nI k2).toInt ≤ 3) ∨ (x.toInt = 1 ∧ 0 ≤ (nI k2).toInt ∧ (nI k2).toInt ≤ 4) then 0 else 2) = 0 from (by first | (exfalso; omega) | ((try simp only [nI_tI hk2_, nI_clamp hk2_, true_and, and_true]); (repeat (first | rw [if_pos (by omega)] | rw [if_neg (by omega)])) <;> rfl))]; first | done | exact ⟨by first | ((try simp only [nI_tI hk2_, nI_clamp hk2_, true_and, and_true, rsp_0, rspL_0, bump_0]) <;> (repeat (first | rw [if_pos (by omega)] | rw [if_neg (by omega)])) <;> rfl) | (exfalso; omega), by first | ((try simp only [nI_tI hk2_, nI_clamp hk2_, true_and, and_true, rsp_0, rspL_0, bump_0]) <;> (repeat (first | rw [if_pos (by omega)] | rw [if_neg (by omega)])) <;> rfl) | (exfalso; omega)⟩)
  · skip
    refine lv_iload_n hx hb dX4_kind_4 rfl (lv_at hl 2 rfl) ?_
    refine cSI (As := [.int y]) (rest := []) F (c_X4_isStripKind l g y ) kX4_isStripKind gX4_kind_X4_isStripKind rfl rfl ⟨Nat.le_of_ble_eq_true rfl, Nat.le_of_ble_eq_true rfl⟩ hP hD hS [] [0, 1, 2, 3] rfl rfl hl.1 rfl rfl (Nat.le_of_ble_eq_true rfl) dX4_kind_5 ⟨Nat.le_of_ble_eq_true rfl, Nat.le_of_ble_eq_true rfl⟩ (fun rz w1 H locs hpo hP hD hS => ?_)
    obtain ⟨rfl, rfl⟩ := hpo
    obtain ⟨hP, hD⟩ := nx (ws' := [(x0, .inr (4, [.ref h0, .ref d0, .ref k0, .int (nI ik), .ref b0, .ref a0, .ref t0, .ref r0, .int (nI rn), .ref r1])), (h0, .inr (0, [.ref h1, .ref h2, .int (nI sk), .int (nI ek), .int (nI tr)])), (h2, .inl (eI g, 5, .inl (fun j => nI (B j)))), (r1, .inl (eI g, 7, .inl rf))]) hP hD [0, 1, 2, 3] (ndB_ok _ rfl) rfl
    refine bqeq (tgt := 29) hx hb dX4_kind_8 (by decide) (fun c8 => ?_) (fun c8 => ?_)
    · skip
      refine lv_iload_n hx hb dX4_kind_29 rfl (lv_at hl 1 rfl) ?_
      refine lv_iconst (v := (nI 1)) hx hb dX4_kind_30 (by decide) ?_
      refine yne (tgt := 59) hx hb dX4_kind_31 (by decide) (by omega) (fun c31 => ?_) (fun c31 => ?_)
      · skip
        refine lv_aload_n hx hb dX4_kind_59 rfl (lv_at hl 0 rfl) ?_
        refine lv_bipush (v := (-2)) hx hb dX4_kind_60 (by decide) ?_
        refine cVI (As := [.int (-2)]) (rest := []) F (c_X4_refuse l g x0 h0 d0 k0 b0 a0 t0 r0 r1 ik rn rf (-2) 2 (by decide) (by omega) (by omega)) kX4_refuse rfl gX4_kind_X4_refuse rfl rfl ⟨Nat.le_of_ble_eq_true rfl, Nat.le_of_ble_eq_true rfl⟩ hP hD hS [0, 3] [1, 2] rfl rfl 0 rfl rfl hl.1 rfl rfl (Nat.le_of_ble_eq_true rfl) dX4_kind_62 ⟨Nat.le_of_ble_eq_true rfl, Nat.le_of_ble_eq_true rfl⟩ (fun rz w1 H locs hpo hP hD hS => ?_)
        obtain ⟨rfl, rfl⟩ := hpo
        obtain ⟨hP, hD⟩ := nx (ws' := [(x0, .inr (4, [.ref h0, .ref d0, .ref k0, .int (nI ik), .ref b0, .ref a0, .ref t0, .ref r0, .int (nI rn), .ref r1])), (h0, .inr (0, [.ref h1, .ref h2, .int (nI sk), .int (nI ek), .int (nI tr)])), (h2, .inl (eI g, 5, .inl (fun j => nI (B j)))), (r1, .inl (eI g, 7, .inl (bump rf 2)))]) hP hD [2, 0, 1, 3] (ndB_ok _ rfl) rfl
        exact rtI F hP hD hS dX4_kind_65 (by rw [show (if (x.toInt = 0 ∧ 0 ≤ y.toInt ∧ y.toInt ≤ 3) ∨ (x.toInt = 1 ∧ 0 ≤ y.toInt ∧ y.toInt ≤ 4) then 0 else 2) = 2 from (by first | (exfalso; omega) | ((try simp only [true_and, and_true]); (repeat (first | rw [if_pos (by omega)] | rw [if_neg (by omega)])) <;> rfl))]; first | done | exact ⟨by rfl, by rfl⟩)
      · skip
        refine lv_iload_n hx hb dX4_kind_34 rfl (lv_at hl 2 rfl) ?_
        refine cSI (As := [.int y]) (rest := []) F (c_X4_isEyeKind l g y ) kX4_isEyeKind gX4_kind_X4_isEyeKind rfl rfl ⟨Nat.le_of_ble_eq_true rfl, Nat.le_of_ble_eq_true rfl⟩ hP hD hS [] [0, 1, 2, 3] rfl rfl hl.1 rfl rfl (Nat.le_of_ble_eq_true rfl) dX4_kind_35 ⟨Nat.le_of_ble_eq_true rfl, Nat.le_of_ble_eq_true rfl⟩ (fun rz w1 H locs hpo hP hD hS => ?_)
        obtain ⟨rfl, rfl⟩ := hpo
        obtain ⟨hP, hD⟩ := nx (ws' := [(x0, .inr (4, [.ref h0, .ref d0, .ref k0, .int (nI ik), .ref b0, .ref a0, .ref t0, .ref r0, .int (nI rn), .ref r1])), (h0, .inr (0, [.ref h1, .ref h2, .int (nI sk), .int (nI ek), .int (nI tr)])), (h2, .inl (eI g, 5, .inl (fun j => nI (B j)))), (r1, .inl (eI g, 7, .inl rf))]) hP hD [0, 1, 2, 3] (ndB_ok _ rfl) rfl
        refine bqeq (tgt := 59) hx hb dX4_kind_38 (by decide) (fun c38 => ?_) (fun c38 => ?_)
        · skip
          refine lv_aload_n hx hb dX4_kind_59 rfl (lv_at hl 0 rfl) ?_
          refine lv_bipush (v := (-2)) hx hb dX4_kind_60 (by decide) ?_
          refine cVI (As := [.int (-2)]) (rest := []) F (c_X4_refuse l g x0 h0 d0 k0 b0 a0 t0 r0 r1 ik rn rf (-2) 2 (by decide) (by omega) (by omega)) kX4_refuse rfl gX4_kind_X4_refuse rfl rfl ⟨Nat.le_of_ble_eq_true rfl, Nat.le_of_ble_eq_true rfl⟩ hP hD hS [0, 3] [1, 2] rfl rfl 0 rfl rfl hl.1 rfl rfl (Nat.le_of_ble_eq_true rfl) dX4_kind_62 ⟨Nat.le_of_ble_eq_true rfl, Nat.le_of_ble_eq_true rfl⟩ (fun rz w1 H locs hpo hP hD hS => ?_)
          obtain ⟨rfl, rfl⟩ := hpo
          obtain ⟨hP, hD⟩ := nx (ws' := [(x0, .inr (4, [.ref h0, .ref d0, .ref k0, .int (nI ik), .ref b0, .ref a0, .ref t0, .ref r0, .int (nI rn), .ref r1])), (h0, .inr (0, [.ref h1, .ref h2, .int (nI sk), .int (nI ek), .int (nI tr)])), (h2, .inl (eI g, 5, .inl (fun j => nI (B j)))), (r1, .inl (eI g, 7, .inl (bump rf 2)))]) hP hD [2, 0, 1, 3] (ndB_ok _ rfl) rfl
          exact rtI F hP hD hS dX4_kind_65 (by rw [show (if (x.toInt = 0 ∧ 0 ≤ y.toInt ∧ y.toInt ≤ 3) ∨ (x.toInt = 1 ∧ 0 ≤ y.toInt ∧ y.toInt ≤ 4) then 0 else 2) = 2 from (by first | (exfalso; omega) | ((try simp only [true_and, and_true]); (repeat (first | rw [if_pos (by omega)] | rw [if_neg (by omega)])) <;> rfl))]; first | done | exact ⟨by rfl, by rfl⟩)
        · skip
          obtain ⟨k2, hk2_, rfl⟩ := natOf (x := y) (by omega)
          rw [nI_tI hk2_] at c38
          refine lv_aload_n hx hb dX4_kind_41 rfl (lv_at hl 0 rfl) ?_
          refine xget F hP inX4_kind_X4 0 rfl rfl 0 (by decide) lkX4_kind_1 rfl dX4_kind_42 ?_
          refine xget F hP inX4_kind_X0 1 rfl rfl 3 (by decide) lkX4_kind_3 rfl dX4_kind_45 ?_
          refine lv_istore_n (lv' := [(3, .int (nI ek)), (0, .ref x0), (1, .int x), (2, .int (nI k2))]) hx hb dX4_kind_48 rfl hl (by decide) rfl (fun ls hl => ?_)
          refine lv_aload_n hx hb dX4_kind_49 rfl (lv_at hl 1 rfl) ?_
          refine xget F hP inX4_kind_X4 0 rfl rfl 0 (by decide) lkX4_kind_1 rfl dX4_kind_50 ?_
          refine lv_iload_n hx hb dX4_kind_53 rfl (lv_at hl 3 rfl) ?_
          refine xput F hP hD hS inX4_kind_X0 tyX0 tyX0_ok nmX0 1 rfl rfl 3 (by decide) lkX4_kind_3 rfl rfl rfl (Nat.le_of_ble_eq_true rfl) dX4_kind_54 (fun H locs hP hD hS => ?_)
          have hP : va_P (eD g) vwCl [(x0, .inr (4, [.ref h0, .ref d0, .ref k0, .int (nI ik), .ref b0, .ref a0, .ref t0, .ref r0, .int (nI rn), .ref r1])), (h0, .inr (0, [.ref h1, .ref h2, .int (nI sk), .int (nI k2), .int (nI tr)])), (h2, .inl (eI g, 5, .inl (fun j => nI (B j)))), (r1, .inl (eI g, 7, .inl rf))] H := hP
          have hD : va_D A [(x0, .inr (4, [.ref h0, .ref d0, .ref k0, .int (nI ik), .ref b0, .ref a0, .ref t0, .ref r0, .int (nI rn), .ref r1])), (h0, .inr (0, [.ref h1, .ref h2, .int (nI sk), .int (nI k2), .int (nI tr)])), (h2, .inl (eI g, 5, .inl (fun j => nI (B j)))), (r1, .inl (eI g, 7, .inl rf))] := hD
          refine lv_iload_n hx hb dX4_kind_57 rfl (lv_at hl 0 rfl) ?_
          exact rtI F hP hD hS dX4_kind_58 (by rw [show (if (x.toInt = 0 ∧ 0 ≤ (nI k2).toInt ∧ (nI k2).toInt ≤ 3) ∨ (x.toInt = 1 ∧ 0 ≤ (nI k2).toInt ∧ (nI k2).toInt ≤ 4) then 0 else 2) = 0 from (by first | (exfalso; omega) | ((try simp only [nI_tI hk2_, nI_clamp hk2_, true_and, and_true]); (repeat (first | rw [if_pos (by omega)] | rw [if_neg (by omega)])) <;> rfl))]; first | done | exact ⟨by first | ((try simp only [nI_tI hk2_, nI_clamp hk2_, true_and, and_true, rsp_0, rspL_0, bump_0]) <;> (repeat (first | rw [if_pos (by omega)] | rw [if_neg (by omega)])) <;> rfl) | (exfalso; omega), by first | ((try simp only [nI_tI hk2_, nI_clamp hk2_, true_and, and_true, rsp_0, rspL_0, bump_0]) <;> (repeat (first | rw [if_pos (by omega)] | rw [if_neg (by omega)])) <;> rfl) | (exfalso; omega)⟩)
    · skip
      obtain ⟨k2, hk2_, rfl⟩ := natOf (x := y) (by omega)
      rw [nI_tI hk2_] at c8
      refine lv_aload_n hx hb dX4_kind_11 rfl (lv_at hl 0 rfl) ?_
      refine xget F hP inX4_kind_X4 0 rfl rfl 0 (by decide) lkX4_kind_1 rfl dX4_kind_12 ?_
      refine xget F hP inX4_kind_X0 1 rfl rfl 2 (by decide) lkX4_kind_2 rfl dX4_kind_15 ?_
      refine lv_istore_n (lv' := [(3, .int (nI sk)), (0, .ref x0), (1, .int x), (2, .int (nI k2))]) hx hb dX4_kind_18 rfl hl (by decide) rfl (fun ls hl => ?_)
      refine lv_aload_n hx hb dX4_kind_19 rfl (lv_at hl 1 rfl) ?_
      refine xget F hP inX4_kind_X4 0 rfl rfl 0 (by decide) lkX4_kind_1 rfl dX4_kind_20 ?_
      refine lv_iload_n hx hb dX4_kind_23 rfl (lv_at hl 3 rfl) ?_
      refine xput F hP hD hS inX4_kind_X0 tyX0 tyX0_ok nmX0 1 rfl rfl 2 (by decide) lkX4_kind_2 rfl rfl rfl (Nat.le_of_ble_eq_true rfl) dX4_kind_24 (fun H locs hP hD hS => ?_)
      have hP : va_P (eD g) vwCl [(x0, .inr (4, [.ref h0, .ref d0, .ref k0, .int (nI ik), .ref b0, .ref a0, .ref t0, .ref r0, .int (nI rn), .ref r1])), (h0, .inr (0, [.ref h1, .ref h2, .int (nI k2), .int (nI ek), .int (nI tr)])), (h2, .inl (eI g, 5, .inl (fun j => nI (B j)))), (r1, .inl (eI g, 7, .inl rf))] H := hP
      have hD : va_D A [(x0, .inr (4, [.ref h0, .ref d0, .ref k0, .int (nI ik), .ref b0, .ref a0, .ref t0, .ref r0, .int (nI rn), .ref r1])), (h0, .inr (0, [.ref h1, .ref h2, .int (nI k2), .int (nI ek), .int (nI tr)])), (h2, .inl (eI g, 5, .inl (fun j => nI (B j)))), (r1, .inl (eI g, 7, .inl rf))] := hD
      refine lv_iload_n hx hb dX4_kind_27 rfl (lv_at hl 0 rfl) ?_
      exact rtI F hP hD hS dX4_kind_28 (by rw [show (if (x.toInt = 0 ∧ 0 ≤ (nI k2).toInt ∧ (nI k2).toInt ≤ 3) ∨ (x.toInt = 1 ∧ 0 ≤ (nI k2).toInt ∧ (nI k2).toInt ≤ 4) then 0 else 2) = 0 from (by first | (exfalso; omega) | ((try simp only [nI_tI hk2_, nI_clamp hk2_, true_and, and_true]); (repeat (first | rw [if_pos (by omega)] | rw [if_neg (by omega)])) <;> rfl))]; first | done | exact ⟨by first | ((try simp only [nI_tI hk2_, nI_clamp hk2_, true_and, and_true, rsp_0, rspL_0, bump_0]) <;> (repeat (first | rw [if_pos (by omega)] | rw [if_neg (by omega)])) <;> rfl) | (exfalso; omega), by first | ((try simp only [nI_tI hk2_, nI_clamp hk2_, true_and, and_true, rsp_0, rspL_0, bump_0]) <;> (repeat (first | rw [if_pos (by omega)] | rw [if_neg (by omega)])) <;> rfl) | (exfalso; omega)⟩)

theorem kX5_kind : Cal yX5_kind wsX5_kind cX5_kind 3 (some .int) 2 := ⟨⟨_, rfl⟩, by decide +kernel⟩
set_option maxHeartbeats 4000000 in
set_option maxRecDepth 100000 in
theorem c_X5_kind (l : Launch) (g : EE) (m0 : Nat) (m1 : Nat) (m2 : Nat) (m3 : Nat) (m4 : Nat) (m5 : Nat) (m6 : Nat) (m7 : Nat) (m8 : Nat) (m9 : Nat) (m10 : Nat) (m11 : Nat) (m12 : Nat) (m13 : Nat) (m14 : Nat) (kp : Nat) (rn : Nat) (tn : Nat) (ia : Nat) (wl : Nat) (si : Nat) (S : Nat → Nat) (rf : Nat → Int32) (x : Int32) (y : Int32) (hO : okS S) : CI l yX5_kind wsX5_kind ({ frames := 2, cells := 0, slots := 0, locals := 46 }) g [.ref m0, .int x, .int y] [(m0, .inr (5, [.ref m1, .ref m2, .ref m3, .int (nI kp), .ref m4, .ref m5, .ref m6, .ref m7, .ref m8, .int (nI rn), .ref m9, .int (nI tn), .int (nI ia), .int (nI wl), .ref m10, .ref m11, .ref m12, .int (nI si), .ref m13, .ref m14])), (m1, .inl (eI g, 7, .inl rf)), (m2, .inl (eI g, 49, .inl (fun j => nI (S j))))] (fun (rz : Int32) (wz : va_W) => rz = (rsp (if (x.toInt = 0 ∧ 0 ≤ y.toInt ∧ y.toInt ≤ 3) ∨ (x.toInt = 1 ∧ 0 ≤ y.toInt ∧ y.toInt ≤ 4) then 0 else 2) (nI (if x.toInt = 0 then S 46 else S 47))) ∧ wz = [(m0, .inr (5, [.ref m1, .ref m2, .ref m3, .int (nI kp), .ref m4, .ref m5, .ref m6, .ref m7, .ref m8, .int (nI rn), .ref m9, .int (nI tn), .int (nI ia), .int (nI wl), .ref m10, .ref m11, .ref m12, .int (nI si), .ref m13, .ref m14])), (m1, .inl (eI g, 7, .inl (bump rf (if (x.toInt = 0 ∧ 0 ≤ y.toInt ∧ y.toInt ≤ 3) ∨ (x.toInt = 1 ∧ 0 ≤ y.toInt ∧ y.toInt ≤ 4) then 0 else 2)))), (m2, .inl (eI g, 49, .inl (fun j => nI ((if (if (x.toInt = 0 ∧ 0 ≤ y.toInt ∧ y.toInt ≤ 3) ∨ (x.toInt = 1 ∧ 0 ≤ y.toInt ∧ y.toInt ≤ 4) then 0 else 2) = 0 then (if x.toInt = 0 then updN S 46 y.toNatClampNeg else updN S 47 y.toNatClampNeg) else S) j))))]) 0 0 := by
  refine ctI (cc := cX5_kind) (maxL := 3) (ret := (some .int)) (by decide) rfl (Nat.le_of_ble_eq_true rfl) ?_
  intro p_ e_ s_ m_ bl_ mt_ cd_ A ls F hnm hP hD hS hl
  obtain ⟨hx, hb, hml, hown, hts, hK, hX, hA, hrt_, hlocks⟩ := id F
  have hl : lv_has ls 3 [(0, .ref m0), (1, .int x), (2, .int y)] := hl
  refine lv_iload_n hx hb dX5_kind_0 rfl (lv_at hl 1 rfl) ?_
  refine weq (tgt := 9) hx hb dX5_kind_1 (by decide) (fun c1 => ?_) (fun c1 => ?_)
  · skip
    obtain rfl : x = nI 0 := Int32.toInt_inj.mp (by rw [nI_toInt (by omega)]; omega)
    refine lv_iload_n hx hb dX5_kind_9 rfl (lv_at hl 2 rfl) ?_
    refine wlt (tgt := 20) hx hb dX5_kind_10 (by decide) (fun c10 => ?_) (fun c10 => ?_)
    · skip
      refine lv_aload_n hx hb dX5_kind_20 rfl (lv_at hl 0 rfl) ?_
      refine lv_bipush (v := (-2)) hx hb dX5_kind_21 (by decide) ?_
      refine cVI (As := [.int (-2)]) (rest := []) F (c_X5_no l g m0 m1 m2 m3 m4 m5 m6 m7 m8 m9 m10 m11 m12 m13 m14 kp rn tn ia wl si rf (-2) 2 (by decide) (by omega) (by omega)) kX5_no rfl gX5_kind_X5_no rfl rfl ⟨Nat.le_of_ble_eq_true rfl, Nat.le_of_ble_eq_true rfl⟩ hP hD hS [0, 1] [2] rfl rfl 0 rfl rfl hl.1 rfl rfl (Nat.le_of_ble_eq_true rfl) dX5_kind_23 ⟨Nat.le_of_ble_eq_true rfl, Nat.le_of_ble_eq_true rfl⟩ (fun rz w1 H locs hpo hP hD hS => ?_)
      obtain ⟨rfl, rfl⟩ := hpo
      obtain ⟨hP, hD⟩ := nx (ws' := [(m0, .inr (5, [.ref m1, .ref m2, .ref m3, .int (nI kp), .ref m4, .ref m5, .ref m6, .ref m7, .ref m8, .int (nI rn), .ref m9, .int (nI tn), .int (nI ia), .int (nI wl), .ref m10, .ref m11, .ref m12, .int (nI si), .ref m13, .ref m14])), (m1, .inl (eI g, 7, .inl (bump rf 2))), (m2, .inl (eI g, 49, .inl (fun j => nI (S j))))]) hP hD [1, 2, 0] (ndB_ok _ rfl) rfl
      exact rtI F hP hD hS dX5_kind_26 (by rw [show (if ((nI 0).toInt = 0 ∧ 0 ≤ y.toInt ∧ y.toInt ≤ 3) ∨ ((nI 0).toInt = 1 ∧ 0 ≤ y.toInt ∧ y.toInt ≤ 4) then 0 else 2) = 2 from (by rw [nI_toInt (show 0 < 2 ^ 31 by omega)]; (repeat (first | rw [if_pos (by omega)] | rw [if_neg (by omega)])) <;> rfl)]; exact ⟨rfl, rfl⟩)
    · skip
      refine lv_iload_n hx hb dX5_kind_13 rfl (lv_at hl 2 rfl) ?_
      refine lv_iconst (v := (nI 3)) hx hb dX5_kind_14 (by decide) ?_
      refine lv_iload_n hx hb dX5_kind_15 rfl (lv_at hl 1 rfl) ?_
      refine xadd hx hb dX5_kind_16 ?_
      refine yle (tgt := 27) hx hb dX5_kind_17 (by decide) (by omega) (fun c17 => ?_) (fun c17 => ?_)
      · skip
        refine lv_aload_n hx hb dX5_kind_27 rfl (lv_at hl 0 rfl) ?_
        refine lv_bipush (v := (nI 46)) hx hb dX5_kind_28 (by decide) ?_
        refine lv_iload_n hx hb dX5_kind_30 rfl (lv_at hl 1 rfl) ?_
        refine xadd hx hb dX5_kind_31 ?_
        refine lv_iload_n hx hb dX5_kind_32 rfl (lv_at hl 2 rfl) ?_
        refine lv_iconst (v := (nI 0)) hx hb dX5_kind_33 (by decide) ?_
        refine lv_iconst (v := (nI 4)) hx hb dX5_kind_34 (by decide) ?_
        refine cVI (As := [.int (nI (46 + 0)), .int y, .int (nI 0), .int (nI 4)]) (rest := []) F (c_X5_change l g m0 m1 m2 m3 m4 m5 m6 m7 m8 m9 m10 m11 m12 m13 m14 kp rn tn ia wl si rf S (46 + 0) y 0 4 (by omega) (by omega) (by omega)) kX5_change rfl gX5_kind_X5_change rfl rfl ⟨Nat.le_of_ble_eq_true rfl, Nat.le_of_ble_eq_true rfl⟩ hP hD hS [0, 1, 2] [] rfl rfl 0 rfl rfl hl.1 rfl rfl (Nat.le_of_ble_eq_true rfl) dX5_kind_35 ⟨Nat.le_of_ble_eq_true rfl, Nat.le_of_ble_eq_true rfl⟩ (fun rz w1 H locs hpo hP hD hS => ?_)
        obtain ⟨rfl, rfl⟩ := hpo
        obtain ⟨hP, hD⟩ := nx (ws' := [(m0, .inr (5, [.ref m1, .ref m2, .ref m3, .int (nI kp), .ref m4, .ref m5, .ref m6, .ref m7, .ref m8, .int (nI rn), .ref m9, .int (nI tn), .int (nI ia), .int (nI wl), .ref m10, .ref m11, .ref m12, .int (nI si), .ref m13, .ref m14])), (m1, .inl (eI g, 7, .inl (bump rf (cdC y 0 4)))), (m2, .inl (eI g, 49, .inl (fun j => nI ((if cdC y 0 4 = 0 then updN S (46 + 0) y.toNatClampNeg else S) j))))]) hP hD [0, 1, 2] (ndB_ok _ rfl) rfl
        exact rtI F hP hD hS dX5_kind_38 (by have hy0 : cdC y 0 4 = 0 := (by unfold cdC; rw [if_neg (by omega), if_neg (by omega)]); rw [show (if ((nI 0).toInt = 0 ∧ 0 ≤ y.toInt ∧ y.toInt ≤ 3) ∨ ((nI 0).toInt = 1 ∧ 0 ≤ y.toInt ∧ y.toInt ≤ 4) then 0 else 2) = 0 from (by rw [nI_toInt (show 0 < 2 ^ 31 by omega)]; (repeat (first | rw [if_pos (by omega)] | rw [if_neg (by omega)])) <;> rfl), hy0]; rw [nI_toInt (show 0 < 2 ^ 31 by omega)]; exact ⟨rfl, rfl⟩)
      · skip
        refine lv_aload_n hx hb dX5_kind_20 rfl (lv_at hl 0 rfl) ?_
        refine lv_bipush (v := (-2)) hx hb dX5_kind_21 (by decide) ?_
        refine cVI (As := [.int (-2)]) (rest := []) F (c_X5_no l g m0 m1 m2 m3 m4 m5 m6 m7 m8 m9 m10 m11 m12 m13 m14 kp rn tn ia wl si rf (-2) 2 (by decide) (by omega) (by omega)) kX5_no rfl gX5_kind_X5_no rfl rfl ⟨Nat.le_of_ble_eq_true rfl, Nat.le_of_ble_eq_true rfl⟩ hP hD hS [0, 1] [2] rfl rfl 0 rfl rfl hl.1 rfl rfl (Nat.le_of_ble_eq_true rfl) dX5_kind_23 ⟨Nat.le_of_ble_eq_true rfl, Nat.le_of_ble_eq_true rfl⟩ (fun rz w1 H locs hpo hP hD hS => ?_)
        obtain ⟨rfl, rfl⟩ := hpo
        obtain ⟨hP, hD⟩ := nx (ws' := [(m0, .inr (5, [.ref m1, .ref m2, .ref m3, .int (nI kp), .ref m4, .ref m5, .ref m6, .ref m7, .ref m8, .int (nI rn), .ref m9, .int (nI tn), .int (nI ia), .int (nI wl), .ref m10, .ref m11, .ref m12, .int (nI si), .ref m13, .ref m14])), (m1, .inl (eI g, 7, .inl (bump rf 2))), (m2, .inl (eI g, 49, .inl (fun j => nI (S j))))]) hP hD [1, 2, 0] (ndB_ok _ rfl) rfl
        exact rtI F hP hD hS dX5_kind_26 (by rw [show (if ((nI 0).toInt = 0 ∧ 0 ≤ y.toInt ∧ y.toInt ≤ 3) ∨ ((nI 0).toInt = 1 ∧ 0 ≤ y.toInt ∧ y.toInt ≤ 4) then 0 else 2) = 2 from (by rw [nI_toInt (show 0 < 2 ^ 31 by omega)]; (repeat (first | rw [if_pos (by omega)] | rw [if_neg (by omega)])) <;> rfl)]; exact ⟨rfl, rfl⟩)
  · skip
    refine lv_iload_n hx hb dX5_kind_4 rfl (lv_at hl 1 rfl) ?_
    refine lv_iconst (v := (nI 1)) hx hb dX5_kind_5 (by decide) ?_
    refine yne (tgt := 20) hx hb dX5_kind_6 (by decide) (by omega) (fun c6 => ?_) (fun c6 => ?_)
    · skip
      refine lv_aload_n hx hb dX5_kind_20 rfl (lv_at hl 0 rfl) ?_
      refine lv_bipush (v := (-2)) hx hb dX5_kind_21 (by decide) ?_
      refine cVI (As := [.int (-2)]) (rest := []) F (c_X5_no l g m0 m1 m2 m3 m4 m5 m6 m7 m8 m9 m10 m11 m12 m13 m14 kp rn tn ia wl si rf (-2) 2 (by decide) (by omega) (by omega)) kX5_no rfl gX5_kind_X5_no rfl rfl ⟨Nat.le_of_ble_eq_true rfl, Nat.le_of_ble_eq_true rfl⟩ hP hD hS [0, 1] [2] rfl rfl 0 rfl rfl hl.1 rfl rfl (Nat.le_of_ble_eq_true rfl) dX5_kind_23 ⟨Nat.le_of_ble_eq_true rfl, Nat.le_of_ble_eq_true rfl⟩ (fun rz w1 H locs hpo hP hD hS => ?_)
      obtain ⟨rfl, rfl⟩ := hpo
      obtain ⟨hP, hD⟩ := nx (ws' := [(m0, .inr (5, [.ref m1, .ref m2, .ref m3, .int (nI kp), .ref m4, .ref m5, .ref m6, .ref m7, .ref m8, .int (nI rn), .ref m9, .int (nI tn), .int (nI ia), .int (nI wl), .ref m10, .ref m11, .ref m12, .int (nI si), .ref m13, .ref m14])), (m1, .inl (eI g, 7, .inl (bump rf 2))), (m2, .inl (eI g, 49, .inl (fun j => nI (S j))))]) hP hD [1, 2, 0] (ndB_ok _ rfl) rfl
      exact rtI F hP hD hS dX5_kind_26 (by rw [show (if (x.toInt = 0 ∧ 0 ≤ y.toInt ∧ y.toInt ≤ 3) ∨ (x.toInt = 1 ∧ 0 ≤ y.toInt ∧ y.toInt ≤ 4) then 0 else 2) = 2 from (by (repeat (first | rw [if_pos (by omega)] | rw [if_neg (by omega)])) <;> rfl)]; exact ⟨rfl, rfl⟩)
    · skip
      obtain rfl : x = nI 1 := Int32.toInt_inj.mp (by rw [nI_toInt (by omega)]; omega)
      refine lv_iload_n hx hb dX5_kind_9 rfl (lv_at hl 2 rfl) ?_
      refine wlt (tgt := 20) hx hb dX5_kind_10 (by decide) (fun c10 => ?_) (fun c10 => ?_)
      · skip
        refine lv_aload_n hx hb dX5_kind_20 rfl (lv_at hl 0 rfl) ?_
        refine lv_bipush (v := (-2)) hx hb dX5_kind_21 (by decide) ?_
        refine cVI (As := [.int (-2)]) (rest := []) F (c_X5_no l g m0 m1 m2 m3 m4 m5 m6 m7 m8 m9 m10 m11 m12 m13 m14 kp rn tn ia wl si rf (-2) 2 (by decide) (by omega) (by omega)) kX5_no rfl gX5_kind_X5_no rfl rfl ⟨Nat.le_of_ble_eq_true rfl, Nat.le_of_ble_eq_true rfl⟩ hP hD hS [0, 1] [2] rfl rfl 0 rfl rfl hl.1 rfl rfl (Nat.le_of_ble_eq_true rfl) dX5_kind_23 ⟨Nat.le_of_ble_eq_true rfl, Nat.le_of_ble_eq_true rfl⟩ (fun rz w1 H locs hpo hP hD hS => ?_)
        obtain ⟨rfl, rfl⟩ := hpo
        obtain ⟨hP, hD⟩ := nx (ws' := [(m0, .inr (5, [.ref m1, .ref m2, .ref m3, .int (nI kp), .ref m4, .ref m5, .ref m6, .ref m7, .ref m8, .int (nI rn), .ref m9, .int (nI tn), .int (nI ia), .int (nI wl), .ref m10, .ref m11, .ref m12, .int (nI si), .ref m13, .ref m14])), (m1, .inl (eI g, 7, .inl (bump rf 2))), (m2, .inl (eI g, 49, .inl (fun j => nI (S j))))]) hP hD [1, 2, 0] (ndB_ok _ rfl) rfl
        exact rtI F hP hD hS dX5_kind_26 (by rw [show (if ((nI 1).toInt = 0 ∧ 0 ≤ y.toInt ∧ y.toInt ≤ 3) ∨ ((nI 1).toInt = 1 ∧ 0 ≤ y.toInt ∧ y.toInt ≤ 4) then 0 else 2) = 2 from (by rw [nI_toInt (show 1 < 2 ^ 31 by omega)]; (repeat (first | rw [if_pos (by omega)] | rw [if_neg (by omega)])) <;> rfl)]; exact ⟨rfl, rfl⟩)
      · skip
        refine lv_iload_n hx hb dX5_kind_13 rfl (lv_at hl 2 rfl) ?_
        refine lv_iconst (v := (nI 3)) hx hb dX5_kind_14 (by decide) ?_
        refine lv_iload_n hx hb dX5_kind_15 rfl (lv_at hl 1 rfl) ?_
        refine xadd hx hb dX5_kind_16 ?_
        refine yle (tgt := 27) hx hb dX5_kind_17 (by decide) (by omega) (fun c17 => ?_) (fun c17 => ?_)
        · skip
          refine lv_aload_n hx hb dX5_kind_27 rfl (lv_at hl 0 rfl) ?_
          refine lv_bipush (v := (nI 46)) hx hb dX5_kind_28 (by decide) ?_
          refine lv_iload_n hx hb dX5_kind_30 rfl (lv_at hl 1 rfl) ?_
          refine xadd hx hb dX5_kind_31 ?_
          refine lv_iload_n hx hb dX5_kind_32 rfl (lv_at hl 2 rfl) ?_
          refine lv_iconst (v := (nI 0)) hx hb dX5_kind_33 (by decide) ?_
          refine lv_iconst (v := (nI 4)) hx hb dX5_kind_34 (by decide) ?_
          refine cVI (As := [.int (nI (46 + 1)), .int y, .int (nI 0), .int (nI 4)]) (rest := []) F (c_X5_change l g m0 m1 m2 m3 m4 m5 m6 m7 m8 m9 m10 m11 m12 m13 m14 kp rn tn ia wl si rf S (46 + 1) y 0 4 (by omega) (by omega) (by omega)) kX5_change rfl gX5_kind_X5_change rfl rfl ⟨Nat.le_of_ble_eq_true rfl, Nat.le_of_ble_eq_true rfl⟩ hP hD hS [0, 1, 2] [] rfl rfl 0 rfl rfl hl.1 rfl rfl (Nat.le_of_ble_eq_true rfl) dX5_kind_35 ⟨Nat.le_of_ble_eq_true rfl, Nat.le_of_ble_eq_true rfl⟩ (fun rz w1 H locs hpo hP hD hS => ?_)
          obtain ⟨rfl, rfl⟩ := hpo
          obtain ⟨hP, hD⟩ := nx (ws' := [(m0, .inr (5, [.ref m1, .ref m2, .ref m3, .int (nI kp), .ref m4, .ref m5, .ref m6, .ref m7, .ref m8, .int (nI rn), .ref m9, .int (nI tn), .int (nI ia), .int (nI wl), .ref m10, .ref m11, .ref m12, .int (nI si), .ref m13, .ref m14])), (m1, .inl (eI g, 7, .inl (bump rf (cdC y 0 4)))), (m2, .inl (eI g, 49, .inl (fun j => nI ((if cdC y 0 4 = 0 then updN S (46 + 1) y.toNatClampNeg else S) j))))]) hP hD [0, 1, 2] (ndB_ok _ rfl) rfl
          exact rtI F hP hD hS dX5_kind_38 (by have hy0 : cdC y 0 4 = 0 := (by unfold cdC; rw [if_neg (by omega), if_neg (by omega)]); rw [show (if ((nI 1).toInt = 0 ∧ 0 ≤ y.toInt ∧ y.toInt ≤ 3) ∨ ((nI 1).toInt = 1 ∧ 0 ≤ y.toInt ∧ y.toInt ≤ 4) then 0 else 2) = 0 from (by rw [nI_toInt (show 1 < 2 ^ 31 by omega)]; (repeat (first | rw [if_pos (by omega)] | rw [if_neg (by omega)])) <;> rfl), hy0]; rw [nI_toInt (show 1 < 2 ^ 31 by omega)]; exact ⟨rfl, rfl⟩)
        · skip
          refine lv_aload_n hx hb dX5_kind_20 rfl (lv_at hl 0 rfl) ?_
          refine lv_bipush (v := (-2)) hx hb dX5_kind_21 (by decide) ?_
          refine cVI (As := [.int (-2)]) (rest := []) F (c_X5_no l g m0 m1 m2 m3 m4 m5 m6 m7 m8 m9 m10 m11 m12 m13 m14 kp rn tn ia wl si rf (-2) 2 (by decide) (by omega) (by omega)) kX5_no rfl gX5_kind_X5_no rfl rfl ⟨Nat.le_of_ble_eq_true rfl, Nat.le_of_ble_eq_true rfl⟩ hP hD hS [0, 1] [2] rfl rfl 0 rfl rfl hl.1 rfl rfl (Nat.le_of_ble_eq_true rfl) dX5_kind_23 ⟨Nat.le_of_ble_eq_true rfl, Nat.le_of_ble_eq_true rfl⟩ (fun rz w1 H locs hpo hP hD hS => ?_)
          obtain ⟨rfl, rfl⟩ := hpo
          obtain ⟨hP, hD⟩ := nx (ws' := [(m0, .inr (5, [.ref m1, .ref m2, .ref m3, .int (nI kp), .ref m4, .ref m5, .ref m6, .ref m7, .ref m8, .int (nI rn), .ref m9, .int (nI tn), .int (nI ia), .int (nI wl), .ref m10, .ref m11, .ref m12, .int (nI si), .ref m13, .ref m14])), (m1, .inl (eI g, 7, .inl (bump rf 2))), (m2, .inl (eI g, 49, .inl (fun j => nI (S j))))]) hP hD [1, 2, 0] (ndB_ok _ rfl) rfl
          exact rtI F hP hD hS dX5_kind_26 (by rw [show (if ((nI 1).toInt = 0 ∧ 0 ≤ y.toInt ∧ y.toInt ≤ 3) ∨ ((nI 1).toInt = 1 ∧ 0 ≤ y.toInt ∧ y.toInt ≤ 4) then 0 else 2) = 2 from (by rw [nI_toInt (show 1 < 2 ^ 31 by omega)]; (repeat (first | rw [if_pos (by omega)] | rw [if_neg (by omega)])) <;> rfl)]; exact ⟨rfl, rfl⟩)

theorem inX4_tryIt_X4 : ∀ w ∈ u_ws RX4 TX4 10, w ∈ wsX4_tryIt := fun _ h => (List.mem_cons_of_mem _ (List.mem_append_left _ (List.mem_append_left _ (List.mem_append_right _ h))))
theorem lkX4_tryIt_1 : Cond.fieldLink RX4 10 "StripInFiveSteps" "now" "LStripInFiveSteps$Shed;" ∈ wsX4_tryIt := List.mem_of_getElem? (i := 1) rfl
theorem lkX4_tryIt_2 : Cond.fieldLink RX4 29 "StripInFiveSteps" "strip" "LStripInFiveSteps$Strip;" ∈ wsX4_tryIt := List.mem_of_getElem? (i := 2) rfl
theorem inX4_tryIt_X0 : ∀ w ∈ u_ws RX0 TX0 5, w ∈ wsX4_tryIt := fun _ h => (List.mem_cons_of_mem _ (List.mem_append_left _ (List.mem_append_right _ h)))
theorem lkX4_tryIt_3 : Cond.fieldLink RX4 129 "StripInFiveSteps$Shed" "tried" "I" ∈ wsX4_tryIt := List.mem_of_getElem? (i := 3) rfl
theorem kX4_tryIt : Cal yX4_tryIt wsX4_tryIt cX4_tryIt 5 (some .int) 2 := ⟨⟨_, rfl⟩, by decide +kernel⟩
set_option maxHeartbeats 4000000 in
set_option maxRecDepth 100000 in
theorem c_X4_tryIt (l : Launch) (g : EE) (x0 : Nat) (h0 : Nat) (d0 : Nat) (k0 : Nat) (b0 : Nat) (a0 : Nat) (t0 : Nat) (r0 : Nat) (r1 : Nat) (ik : Nat) (rn : Nat) (h1 : Nat) (h2 : Nat) (W : Nat → Nat) (B : Nat → Nat) (sk : Nat) (ek : Nat) (tr : Nat) (b1 : Nat) (q : Nat → Nat) (n : Nat) (rf : Nat → Int32) (x : Int32) (y : Int32) (hW : ∀ j, W j ≤ 9) (hB : okB B) (hsk : sk ≤ 3) (hek : ek ≤ 4) (htr : tr ≤ 99) : CI l yX4_tryIt wsX4_tryIt ({ frames := 4, cells := 0, slots := 0, locals := 98 }) g [.ref x0, .int x, .int y] [(x0, .inr (4, [.ref h0, .ref d0, .ref k0, .int (nI ik), .ref b0, .ref a0, .ref t0, .ref r0, .int (nI rn), .ref r1])), (h0, .inr (0, [.ref h1, .ref h2, .int (nI sk), .int (nI ek), .int (nI tr)])), (h1, .inl (eI g, 41, .inl (fun j => nI (W j)))), (h2, .inl (eI g, 5, .inl (fun j => nI (B j)))), (b0, .inr (1, [.ref b1, .int (nI n)])), (b1, .inl (eI g, 7, .inl (fun j => nI (q j)))), (r1, .inl (eI g, 7, .inl rf))] (fun (rz : Int32) (wz : va_W) => ∃ q9 : Nat → Nat, ∃ n9 : Nat, rz = (rsp (if ¬ (1 ≤ x.toInt ∧ x.toInt ≤ 40) ∨ ¬ ((0 ≤ y.toInt ∧ y.toInt < ((B 0 : Nat) : Int)) ∨ y.toInt = 8) then 1 else if cnS (prt (tlT B sk ek) (lpB W) x.toNatClampNeg y.toNatClampNeg) = 0 then 3 else if tr = 99 then 6 else 0) (nI (cnS (prt (tlT B sk ek) (lpB W) x.toNatClampNeg y.toNatClampNeg)))) ∧ wz = [(x0, .inr (4, [.ref h0, .ref d0, .ref k0, .int (nI ik), .ref b0, .ref a0, .ref t0, .ref r0, .int (nI rn), .ref r1])), (h0, .inr (0, [.ref h1, .ref h2, .int (nI sk), .int (nI ek), .int (nI (if (if ¬ (1 ≤ x.toInt ∧ x.toInt ≤ 40) ∨ ¬ ((0 ≤ y.toInt ∧ y.toInt < ((B 0 : Nat) : Int)) ∨ y.toInt = 8) then 1 else if cnS (prt (tlT B sk ek) (lpB W) x.toNatClampNeg y.toNatClampNeg) = 0 then 3 else if tr = 99 then 6 else 0) = 0 then tr + 1 else tr))])), (h1, .inl (eI g, 41, .inl (fun j => nI ((if (if ¬ (1 ≤ x.toInt ∧ x.toInt ≤ 40) ∨ ¬ ((0 ≤ y.toInt ∧ y.toInt < ((B 0 : Nat) : Int)) ∨ y.toInt = 8) then 1 else if cnS (prt (tlT B sk ek) (lpB W) x.toNatClampNeg y.toNatClampNeg) = 0 then 3 else if tr = 99 then 6 else 0) = 0 then cutN W (prt (tlT B sk ek) (lpB W) x.toNatClampNeg y.toNatClampNeg) 40 else W) j)))), (h2, .inl (eI g, 5, .inl (fun j => nI (B j)))), (b0, .inr (1, [.ref b1, .int (nI n9)])), (b1, .inl (eI g, 7, .inl (fun j => nI (q9 j)))), (r1, .inl (eI g, 7, .inl (bump rf (if ¬ (1 ≤ x.toInt ∧ x.toInt ≤ 40) ∨ ¬ ((0 ≤ y.toInt ∧ y.toInt < ((B 0 : Nat) : Int)) ∨ y.toInt = 8) then 1 else if cnS (prt (tlT B sk ek) (lpB W) x.toNatClampNeg y.toNatClampNeg) = 0 then 3 else if tr = 99 then 6 else 0))))]) 0 0 := by
  refine ctI (cc := cX4_tryIt) (maxL := 5) (ret := (some .int)) (by decide) rfl (Nat.le_of_ble_eq_true rfl) ?_
  intro p_ e_ s_ m_ bl_ mt_ cd_ A ls F hnm hP hD hS hl
  obtain ⟨hx, hb, hml, hown, hts, hK, hX, hA, hrt_, hlocks⟩ := id F
  have hl : lv_has ls 5 [(0, .ref x0), (1, .int x), (2, .int y)] := hl
  obtain ⟨hb0, hb1, hb2, hb3, hb4, hb5⟩ := okB_b hB
  refine lv_iload_n hx hb dX4_tryIt_0 rfl (lv_at hl 1 rfl) ?_
  refine cSI (As := [.int x]) (rest := []) F (c_X4_isSecond l g x ) kX4_isSecond gX4_tryIt_X4_isSecond rfl rfl ⟨Nat.le_of_ble_eq_true rfl, Nat.le_of_ble_eq_true rfl⟩ hP hD hS [] [0, 1, 2, 3, 4, 5, 6] rfl rfl hl.1 rfl rfl (Nat.le_of_ble_eq_true rfl) dX4_tryIt_1 ⟨Nat.le_of_ble_eq_true rfl, Nat.le_of_ble_eq_true rfl⟩ (fun rz w1 H locs hpo hP hD hS => ?_)
  obtain ⟨rfl, rfl⟩ := hpo
  obtain ⟨hP, hD⟩ := nx (ws' := [(x0, .inr (4, [.ref h0, .ref d0, .ref k0, .int (nI ik), .ref b0, .ref a0, .ref t0, .ref r0, .int (nI rn), .ref r1])), (h0, .inr (0, [.ref h1, .ref h2, .int (nI sk), .int (nI ek), .int (nI tr)])), (h1, .inl (eI g, 41, .inl (fun j => nI (W j)))), (h2, .inl (eI g, 5, .inl (fun j => nI (B j)))), (b0, .inr (1, [.ref b1, .int (nI n)])), (b1, .inl (eI g, 7, .inl (fun j => nI (q j)))), (r1, .inl (eI g, 7, .inl rf))]) hP hD [0, 1, 2, 3, 4, 5, 6] (ndB_ok _ rfl) rfl
  refine bqeq (tgt := 15) hx hb dX4_tryIt_4 (by decide) (fun c4 => ?_) (fun c4 => ?_)
  · skip
    refine lv_aload_n hx hb dX4_tryIt_15 rfl (lv_at hl 0 rfl) ?_
    refine lv_iconst (v := (-1)) hx hb dX4_tryIt_16 (by decide) ?_
    refine cVI (As := [.int (-1)]) (rest := []) F (c_X4_refuse l g x0 h0 d0 k0 b0 a0 t0 r0 r1 ik rn rf (-1) 1 (by decide) (by omega) (by omega)) kX4_refuse rfl gX4_tryIt_X4_refuse rfl rfl ⟨Nat.le_of_ble_eq_true rfl, Nat.le_of_ble_eq_true rfl⟩ hP hD hS [0, 6] [1, 2, 3, 4, 5] rfl rfl 0 rfl rfl hl.1 rfl rfl (Nat.le_of_ble_eq_true rfl) dX4_tryIt_17 ⟨Nat.le_of_ble_eq_true rfl, Nat.le_of_ble_eq_true rfl⟩ (fun rz w1 H locs hpo hP hD hS => ?_)
    obtain ⟨rfl, rfl⟩ := hpo
    obtain ⟨hP, hD⟩ := nx (ws' := [(x0, .inr (4, [.ref h0, .ref d0, .ref k0, .int (nI ik), .ref b0, .ref a0, .ref t0, .ref r0, .int (nI rn), .ref r1])), (h0, .inr (0, [.ref h1, .ref h2, .int (nI sk), .int (nI ek), .int (nI tr)])), (h1, .inl (eI g, 41, .inl (fun j => nI (W j)))), (h2, .inl (eI g, 5, .inl (fun j => nI (B j)))), (b0, .inr (1, [.ref b1, .int (nI n)])), (b1, .inl (eI g, 7, .inl (fun j => nI (q j)))), (r1, .inl (eI g, 7, .inl (bump rf 1)))]) hP hD [5, 0, 1, 2, 3, 4, 6] (ndB_ok _ rfl) rfl
    exact rtI F hP hD hS dX4_tryIt_20 (by rw [show (if ¬ (1 ≤ x.toInt ∧ x.toInt ≤ 40) ∨ ¬ ((0 ≤ y.toInt ∧ y.toInt < ((B 0 : Nat) : Int)) ∨ y.toInt = 8) then 1 else if cnS (prt (tlT B sk ek) (lpB W) x.toNatClampNeg y.toNatClampNeg) = 0 then 3 else if tr = 99 then 6 else 0) = 1 from (by first | (exfalso; omega) | ((try simp only [true_and, and_true]); (repeat (first | rw [if_pos (by omega)] | rw [if_neg (by omega)])) <;> rfl))]; first | done | exact ⟨_, _, by rfl, by rfl⟩)
  · skip
    refine lv_aload_n hx hb dX4_tryIt_7 rfl (lv_at hl 0 rfl) ?_
    refine lv_iload_n hx hb dX4_tryIt_8 rfl (lv_at hl 2 rfl) ?_
    refine cVI (As := [.int y]) (rest := []) F (c_X4_canBeTold l g x0 h0 d0 k0 b0 a0 t0 r0 r1 ik rn h1 h2 B sk ek tr y (hB)) kX4_canBeTold rfl gX4_tryIt_X4_canBeTold rfl rfl ⟨Nat.le_of_ble_eq_true rfl, Nat.le_of_ble_eq_true rfl⟩ hP hD hS [0, 1, 3] [2, 4, 5, 6] rfl rfl 0 rfl rfl hl.1 rfl rfl (Nat.le_of_ble_eq_true rfl) dX4_tryIt_9 ⟨Nat.le_of_ble_eq_true rfl, Nat.le_of_ble_eq_true rfl⟩ (fun rz w1 H locs hpo hP hD hS => ?_)
    obtain ⟨rfl, rfl⟩ := hpo
    obtain ⟨hP, hD⟩ := nx (ws' := [(x0, .inr (4, [.ref h0, .ref d0, .ref k0, .int (nI ik), .ref b0, .ref a0, .ref t0, .ref r0, .int (nI rn), .ref r1])), (h0, .inr (0, [.ref h1, .ref h2, .int (nI sk), .int (nI ek), .int (nI tr)])), (h1, .inl (eI g, 41, .inl (fun j => nI (W j)))), (h2, .inl (eI g, 5, .inl (fun j => nI (B j)))), (b0, .inr (1, [.ref b1, .int (nI n)])), (b1, .inl (eI g, 7, .inl (fun j => nI (q j)))), (r1, .inl (eI g, 7, .inl rf))]) hP hD [4, 5, 0, 6, 1, 2, 3] (ndB_ok _ rfl) rfl
    refine bqne (tgt := 21) hx hb dX4_tryIt_12 (by decide) (fun c12 => ?_) (fun c12 => ?_)
    · skip
      obtain ⟨k, hk_, rfl⟩ := natOf (x := x) (by omega)
      rw [nI_tI hk_] at c4
      obtain ⟨k2, hk2_, rfl⟩ := natOf (x := y) (by omega)
      rw [nI_tI hk2_] at c12
      refine lv_aload_n hx hb dX4_tryIt_21 rfl (lv_at hl 0 rfl) ?_
      refine xget F hP inX4_tryIt_X4 0 rfl rfl 0 (by decide) lkX4_tryIt_1 rfl dX4_tryIt_22 ?_
      refine lv_aload_n hx hb dX4_tryIt_25 rfl (lv_at hl 0 rfl) ?_
      refine xget F hP inX4_tryIt_X4 0 rfl rfl 4 (by decide) lkX4_tryIt_2 rfl dX4_tryIt_26 ?_
      refine lv_iload_n hx hb dX4_tryIt_29 rfl (lv_at hl 1 rfl) ?_
      refine lv_iload_n hx hb dX4_tryIt_30 rfl (lv_at hl 2 rfl) ?_
      refine cVL (As := [.ref b0, .int (nI k), .int (nI k2)]) (rest := []) F (c_X0_leftIfTold l g h0 h1 h2 W B sk ek tr b0 b1 q n k k2 (hW) (hB) (hsk) (hek) (by omega) (by omega)) kX0_leftIfTold rfl gX4_tryIt_X0_leftIfTold rfl rfl ⟨Nat.le_of_ble_eq_true rfl, Nat.le_of_ble_eq_true rfl⟩ hP hD hS [1, 2, 3, 4, 5] [0, 6] rfl rfl 0 rfl rfl hl.1 rfl rfl (Nat.le_of_ble_eq_true rfl) dX4_tryIt_31 ⟨Nat.le_of_ble_eq_true rfl, Nat.le_of_ble_eq_true rfl⟩ (fun rz w1 H locs hpo hP hD hS => ?_)
      obtain ⟨rfl, rfl⟩ := hpo
      obtain ⟨hP, hD⟩ := nx (ws' := [(x0, .inr (4, [.ref h0, .ref d0, .ref k0, .int (nI ik), .ref b0, .ref a0, .ref t0, .ref r0, .int (nI rn), .ref r1])), (h0, .inr (0, [.ref h1, .ref h2, .int (nI sk), .int (nI ek), .int (nI tr)])), (h1, .inl (eI g, 41, .inl (fun j => nI (W j)))), (h2, .inl (eI g, 5, .inl (fun j => nI (B j)))), (b0, .inr (1, [.ref b1, .int (nI (B 0))])), (b1, .inl (eI g, 7, .inl (fun j => nI ((layQ sk (B 0) (B 1) k q (B 0)) j)))), (r1, .inl (eI g, 7, .inl rf))]) hP hD [0, 2, 3, 4, 5, 6, 1] (ndB_ok _ rfl) rfl
      refine lv_lstore_n (lv' := [(3, .long (toldM W B sk ek k k2)), (0, .ref x0), (1, .int (nI k)), (2, .int (nI k2))]) hx hb dX4_tryIt_34 rfl hl (by decide) rfl (fun ls hl => ?_)
      refine lv_lload_n hx hb dX4_tryIt_35 rfl (lv_at hl 0 rfl) ?_
      refine lv_lconst (v := lN 0) hx hb dX4_tryIt_36 rfl ?_
      refine jne (tgt := 48) hx hb dX4_tryIt_37 dX4_tryIt_38 (by decide) (fun c38 => ?_) (fun c38 => ?_)
      · skip
        have hc0 : ¬ cnS (prt (tlT B sk ek) (lpB W) k k2) = 0 := fun z => c38 ((told0 W B sk ek k k2).mpr z)
        refine lv_aload_n hx hb dX4_tryIt_48 rfl (lv_at hl 1 rfl) ?_
        refine xget F hP inX4_tryIt_X4 0 rfl rfl 0 (by decide) lkX4_tryIt_1 rfl dX4_tryIt_49 ?_
        refine xget F hP inX4_tryIt_X0 1 rfl rfl 4 (by decide) lkX4_tryIt_3 rfl dX4_tryIt_52 ?_
        refine lv_bipush (v := (nI 99)) hx hb dX4_tryIt_55 (by decide) ?_
        refine xlt (tgt := 67) hx hb dX4_tryIt_57 (by decide) (by omega) (by omega) (fun c57 => ?_) (fun c57 => ?_)
        · skip
          refine lv_aload_n hx hb dX4_tryIt_67 rfl (lv_at hl 1 rfl) ?_
          refine xget F hP inX4_tryIt_X4 0 rfl rfl 0 (by decide) lkX4_tryIt_1 rfl dX4_tryIt_68 ?_
          refine lv_lload_n hx hb dX4_tryIt_71 rfl (lv_at hl 0 rfl) ?_
          refine cVV (As := [.long (toldM W B sk ek k k2)]) (rest := []) F (c_X0_tryDownTo l g h0 h1 h2 W B sk ek tr (toldM W B sk ek k k2) ) kX0_tryDownTo rfl gX4_tryIt_X0_tryDownTo rfl rfl ⟨Nat.le_of_ble_eq_true rfl, Nat.le_of_ble_eq_true rfl⟩ hP hD hS [1, 2, 3] [0, 4, 5, 6] rfl rfl 0 rfl rfl hl.1 rfl rfl (Nat.le_of_ble_eq_true rfl) dX4_tryIt_72 ⟨Nat.le_of_ble_eq_true rfl, Nat.le_of_ble_eq_true rfl⟩ (fun w1 H locs hpo hP hD hS => ?_)
          subst hpo
          obtain ⟨hP, hD⟩ := nx (ws' := [(x0, .inr (4, [.ref h0, .ref d0, .ref k0, .int (nI ik), .ref b0, .ref a0, .ref t0, .ref r0, .int (nI rn), .ref r1])), (h0, .inr (0, [.ref h1, .ref h2, .int (nI sk), .int (nI ek), .int (nI (tr + 1))])), (h1, .inl (eI g, 41, .inl (fun j => nI ((cutN W (bitL (toldM W B sk ek k k2)) 40) j)))), (h2, .inl (eI g, 5, .inl (fun j => nI (B j)))), (b0, .inr (1, [.ref b1, .int (nI (B 0))])), (b1, .inl (eI g, 7, .inl (fun j => nI ((layQ sk (B 0) (B 1) k q (B 0)) j)))), (r1, .inl (eI g, 7, .inl rf))]) hP hD [0, 4, 5, 6, 1, 2, 3] (ndB_ok _ rfl) rfl
          refine lv_lload_n hx hb dX4_tryIt_75 rfl (lv_at hl 0 rfl) ?_
          refine cSI (As := [.long (toldM W B sk ek k k2)]) (rest := []) F (c_X4_size l g (toldM W B sk ek k k2) (inS_told W B sk ek k k2)) kX4_size gX4_tryIt_X4_size rfl rfl ⟨Nat.le_of_ble_eq_true rfl, Nat.le_of_ble_eq_true rfl⟩ hP hD hS [] [0, 1, 2, 3, 4, 5, 6] rfl rfl hl.1 rfl rfl (Nat.le_of_ble_eq_true rfl) dX4_tryIt_76 ⟨Nat.le_of_ble_eq_true rfl, Nat.le_of_ble_eq_true rfl⟩ (fun rz w1 H locs hpo hP hD hS => ?_)
          obtain ⟨rfl, rfl⟩ := hpo
          obtain ⟨hP, hD⟩ := nx (ws' := [(x0, .inr (4, [.ref h0, .ref d0, .ref k0, .int (nI ik), .ref b0, .ref a0, .ref t0, .ref r0, .int (nI rn), .ref r1])), (h0, .inr (0, [.ref h1, .ref h2, .int (nI sk), .int (nI ek), .int (nI (tr + 1))])), (h1, .inl (eI g, 41, .inl (fun j => nI ((cutN W (bitL (toldM W B sk ek k k2)) 40) j)))), (h2, .inl (eI g, 5, .inl (fun j => nI (B j)))), (b0, .inr (1, [.ref b1, .int (nI (B 0))])), (b1, .inl (eI g, 7, .inl (fun j => nI ((layQ sk (B 0) (B 1) k q (B 0)) j)))), (r1, .inl (eI g, 7, .inl rf))]) hP hD [0, 1, 2, 3, 4, 5, 6] (ndB_ok _ rfl) rfl
          exact rtI F hP hD hS dX4_tryIt_79 (by rw [show (if ¬ (1 ≤ (nI k).toInt ∧ (nI k).toInt ≤ 40) ∨ ¬ ((0 ≤ (nI k2).toInt ∧ (nI k2).toInt < ((B 0 : Nat) : Int)) ∨ (nI k2).toInt = 8) then 1 else if cnS (prt (tlT B sk ek) (lpB W) (nI k).toNatClampNeg (nI k2).toNatClampNeg) = 0 then 3 else if tr = 99 then 6 else 0) = 0 from (by first | (exfalso; omega) | ((try simp only [nI_tI hk_, nI_tI hk2_, nI_clamp hk_, nI_clamp hk2_, true_and, and_true]); (repeat (first | rw [if_pos (by omega)] | rw [if_neg (by omega)])) <;> rfl))]; first | done | exact ⟨_, _, by first | ((try simp only [nI_tI hk_, nI_tI hk2_, nI_clamp hk_, nI_clamp hk2_, true_and, and_true, bitL_told, rsp_0, rspL_0, bump_0]) <;> (repeat (first | rw [if_pos (by omega)] | rw [if_neg (by omega)])) <;> rfl) | (exfalso; omega), by first | ((try simp only [nI_tI hk_, nI_tI hk2_, nI_clamp hk_, nI_clamp hk2_, true_and, and_true, bitL_told, rsp_0, rspL_0, bump_0]) <;> (repeat (first | rw [if_pos (by omega)] | rw [if_neg (by omega)])) <;> rfl) | (exfalso; omega)⟩)
        · skip
          refine lv_aload_n hx hb dX4_tryIt_60 rfl (lv_at hl 1 rfl) ?_
          refine lv_bipush (v := (-6)) hx hb dX4_tryIt_61 (by decide) ?_
          refine cVI (As := [.int (-6)]) (rest := []) F (c_X4_refuse l g x0 h0 d0 k0 b0 a0 t0 r0 r1 ik rn rf (-6) 6 (by decide) (by omega) (by omega)) kX4_refuse rfl gX4_tryIt_X4_refuse rfl rfl ⟨Nat.le_of_ble_eq_true rfl, Nat.le_of_ble_eq_true rfl⟩ hP hD hS [0, 6] [1, 2, 3, 4, 5] rfl rfl 0 rfl rfl hl.1 rfl rfl (Nat.le_of_ble_eq_true rfl) dX4_tryIt_63 ⟨Nat.le_of_ble_eq_true rfl, Nat.le_of_ble_eq_true rfl⟩ (fun rz w1 H locs hpo hP hD hS => ?_)
          obtain ⟨rfl, rfl⟩ := hpo
          obtain ⟨hP, hD⟩ := nx (ws' := [(x0, .inr (4, [.ref h0, .ref d0, .ref k0, .int (nI ik), .ref b0, .ref a0, .ref t0, .ref r0, .int (nI rn), .ref r1])), (h0, .inr (0, [.ref h1, .ref h2, .int (nI sk), .int (nI ek), .int (nI tr)])), (h1, .inl (eI g, 41, .inl (fun j => nI (W j)))), (h2, .inl (eI g, 5, .inl (fun j => nI (B j)))), (b0, .inr (1, [.ref b1, .int (nI (B 0))])), (b1, .inl (eI g, 7, .inl (fun j => nI ((layQ sk (B 0) (B 1) k q (B 0)) j)))), (r1, .inl (eI g, 7, .inl (bump rf 6)))]) hP hD [5, 0, 1, 2, 3, 4, 6] (ndB_ok _ rfl) rfl
          exact rtI F hP hD hS dX4_tryIt_66 (by rw [show (if ¬ (1 ≤ (nI k).toInt ∧ (nI k).toInt ≤ 40) ∨ ¬ ((0 ≤ (nI k2).toInt ∧ (nI k2).toInt < ((B 0 : Nat) : Int)) ∨ (nI k2).toInt = 8) then 1 else if cnS (prt (tlT B sk ek) (lpB W) (nI k).toNatClampNeg (nI k2).toNatClampNeg) = 0 then 3 else if tr = 99 then 6 else 0) = 6 from (by first | (exfalso; omega) | ((try simp only [nI_tI hk_, nI_tI hk2_, nI_clamp hk_, nI_clamp hk2_, true_and, and_true]); (repeat (first | rw [if_pos (by omega)] | rw [if_neg (by omega)])) <;> rfl))]; first | done | exact ⟨_, _, by rfl, by rfl⟩)
      · skip
        have hc0 : cnS (prt (tlT B sk ek) (lpB W) k k2) = 0 := (told0 W B sk ek k k2).mp c38
        refine lv_aload_n hx hb dX4_tryIt_41 rfl (lv_at hl 1 rfl) ?_
        refine lv_bipush (v := (-3)) hx hb dX4_tryIt_42 (by decide) ?_
        refine cVI (As := [.int (-3)]) (rest := []) F (c_X4_refuse l g x0 h0 d0 k0 b0 a0 t0 r0 r1 ik rn rf (-3) 3 (by decide) (by omega) (by omega)) kX4_refuse rfl gX4_tryIt_X4_refuse rfl rfl ⟨Nat.le_of_ble_eq_true rfl, Nat.le_of_ble_eq_true rfl⟩ hP hD hS [0, 6] [1, 2, 3, 4, 5] rfl rfl 0 rfl rfl hl.1 rfl rfl (Nat.le_of_ble_eq_true rfl) dX4_tryIt_44 ⟨Nat.le_of_ble_eq_true rfl, Nat.le_of_ble_eq_true rfl⟩ (fun rz w1 H locs hpo hP hD hS => ?_)
        obtain ⟨rfl, rfl⟩ := hpo
        obtain ⟨hP, hD⟩ := nx (ws' := [(x0, .inr (4, [.ref h0, .ref d0, .ref k0, .int (nI ik), .ref b0, .ref a0, .ref t0, .ref r0, .int (nI rn), .ref r1])), (h0, .inr (0, [.ref h1, .ref h2, .int (nI sk), .int (nI ek), .int (nI tr)])), (h1, .inl (eI g, 41, .inl (fun j => nI (W j)))), (h2, .inl (eI g, 5, .inl (fun j => nI (B j)))), (b0, .inr (1, [.ref b1, .int (nI (B 0))])), (b1, .inl (eI g, 7, .inl (fun j => nI ((layQ sk (B 0) (B 1) k q (B 0)) j)))), (r1, .inl (eI g, 7, .inl (bump rf 3)))]) hP hD [5, 0, 1, 2, 3, 4, 6] (ndB_ok _ rfl) rfl
        exact rtI F hP hD hS dX4_tryIt_47 (by rw [show (if ¬ (1 ≤ (nI k).toInt ∧ (nI k).toInt ≤ 40) ∨ ¬ ((0 ≤ (nI k2).toInt ∧ (nI k2).toInt < ((B 0 : Nat) : Int)) ∨ (nI k2).toInt = 8) then 1 else if cnS (prt (tlT B sk ek) (lpB W) (nI k).toNatClampNeg (nI k2).toNatClampNeg) = 0 then 3 else if tr = 99 then 6 else 0) = 3 from (by first | (exfalso; omega) | ((try simp only [nI_tI hk_, nI_tI hk2_, nI_clamp hk_, nI_clamp hk2_, true_and, and_true]); (repeat (first | rw [if_pos (by omega)] | rw [if_neg (by omega)])) <;> rfl))]; first | done | exact ⟨_, _, by rfl, by rfl⟩)
    · skip
      refine lv_aload_n hx hb dX4_tryIt_15 rfl (lv_at hl 0 rfl) ?_
      refine lv_iconst (v := (-1)) hx hb dX4_tryIt_16 (by decide) ?_
      refine cVI (As := [.int (-1)]) (rest := []) F (c_X4_refuse l g x0 h0 d0 k0 b0 a0 t0 r0 r1 ik rn rf (-1) 1 (by decide) (by omega) (by omega)) kX4_refuse rfl gX4_tryIt_X4_refuse rfl rfl ⟨Nat.le_of_ble_eq_true rfl, Nat.le_of_ble_eq_true rfl⟩ hP hD hS [0, 6] [1, 2, 3, 4, 5] rfl rfl 0 rfl rfl hl.1 rfl rfl (Nat.le_of_ble_eq_true rfl) dX4_tryIt_17 ⟨Nat.le_of_ble_eq_true rfl, Nat.le_of_ble_eq_true rfl⟩ (fun rz w1 H locs hpo hP hD hS => ?_)
      obtain ⟨rfl, rfl⟩ := hpo
      obtain ⟨hP, hD⟩ := nx (ws' := [(x0, .inr (4, [.ref h0, .ref d0, .ref k0, .int (nI ik), .ref b0, .ref a0, .ref t0, .ref r0, .int (nI rn), .ref r1])), (h0, .inr (0, [.ref h1, .ref h2, .int (nI sk), .int (nI ek), .int (nI tr)])), (h1, .inl (eI g, 41, .inl (fun j => nI (W j)))), (h2, .inl (eI g, 5, .inl (fun j => nI (B j)))), (b0, .inr (1, [.ref b1, .int (nI n)])), (b1, .inl (eI g, 7, .inl (fun j => nI (q j)))), (r1, .inl (eI g, 7, .inl (bump rf 1)))]) hP hD [5, 0, 1, 2, 3, 4, 6] (ndB_ok _ rfl) rfl
      exact rtI F hP hD hS dX4_tryIt_20 (by rw [show (if ¬ (1 ≤ x.toInt ∧ x.toInt ≤ 40) ∨ ¬ ((0 ≤ y.toInt ∧ y.toInt < ((B 0 : Nat) : Int)) ∨ y.toInt = 8) then 1 else if cnS (prt (tlT B sk ek) (lpB W) x.toNatClampNeg y.toNatClampNeg) = 0 then 3 else if tr = 99 then 6 else 0) = 1 from (by first | (exfalso; omega) | ((try simp only [true_and, and_true]); (repeat (first | rw [if_pos (by omega)] | rw [if_neg (by omega)])) <;> rfl))]; first | done | exact ⟨_, _, by rfl, by rfl⟩)

theorem inX5_tryIt_X5 : ∀ w ∈ u_ws RX5 TX5 20, w ∈ wsX5_tryIt := fun _ h => (List.mem_cons_of_mem _ (List.mem_append_right _ h))
theorem lkX5_tryIt_1 : Cond.fieldLink RX5 19 "StripInFiveStepsModel" "now" "[I" ∈ wsX5_tryIt := List.mem_of_getElem? (i := 1) rfl
theorem kX5_tryIt : Cal yX5_tryIt wsX5_tryIt cX5_tryIt 3 (some .int) 2 := ⟨⟨_, rfl⟩, by decide +kernel⟩
set_option maxHeartbeats 4000000 in
set_option maxRecDepth 100000 in
theorem c_X5_tryIt (l : Launch) (g : EE) (m0 : Nat) (m1 : Nat) (m2 : Nat) (m3 : Nat) (m4 : Nat) (m5 : Nat) (m6 : Nat) (m7 : Nat) (m8 : Nat) (m9 : Nat) (m10 : Nat) (m11 : Nat) (m12 : Nat) (m13 : Nat) (m14 : Nat) (kp : Nat) (rn : Nat) (tn : Nat) (ia : Nat) (wl : Nat) (si : Nat) (S : Nat → Nat) (O : Nat → Int32) (Y : Nat → Nat) (Z : Nat → Nat) (rf : Nat → Int32) (x : Int32) (y : Int32) (hO : okS S) : CI l yX5_tryIt wsX5_tryIt ({ frames := 6, cells := 0, slots := 0, locals := 137 }) g [.ref m0, .int x, .int y] [(m0, .inr (5, [.ref m1, .ref m2, .ref m3, .int (nI kp), .ref m4, .ref m5, .ref m6, .ref m7, .ref m8, .int (nI rn), .ref m9, .int (nI tn), .int (nI ia), .int (nI wl), .ref m10, .ref m11, .ref m12, .int (nI si), .ref m13, .ref m14])), (m2, .inl (eI g, 49, .inl (fun j => nI (S j)))), (m4, .inl (eI g, 41, .inl O)), (m5, .inl (eI g, 9, .inl (fun j => nI (Y j)))), (m6, .inl (eI g, 9, .inl (fun j => nI (Z j)))), (m1, .inl (eI g, 7, .inl rf))] (fun (rz : Int32) (wz : va_W) => ∃ O9 : Nat → Int32, ∃ Y9 : Nat → Nat, ∃ Z9 : Nat → Nat, rz = (rsp (if ¬ (1 ≤ x.toInt ∧ x.toInt ≤ 40) ∨ ¬ ((0 ≤ y.toInt ∧ y.toInt < ((S 41 : Nat) : Int)) ∨ y.toInt = 8) then 1 else if cnS (prt (tlS S) (lpB S) x.toNatClampNeg y.toNatClampNeg) = 0 then 3 else if S 48 = 99 then 6 else 0) (nI (cnS (prt (tlS S) (lpB S) x.toNatClampNeg y.toNatClampNeg)))) ∧ wz = [(m0, .inr (5, [.ref m1, .ref m2, .ref m3, .int (nI kp), .ref m4, .ref m5, .ref m6, .ref m7, .ref m8, .int (nI rn), .ref m9, .int (nI tn), .int (nI ia), .int (nI wl), .ref m10, .ref m11, .ref m12, .int (nI si), .ref m13, .ref m14])), (m2, .inl (eI g, 49, .inl (fun j => nI ((if (if ¬ (1 ≤ x.toInt ∧ x.toInt ≤ 40) ∨ ¬ ((0 ≤ y.toInt ∧ y.toInt < ((S 41 : Nat) : Int)) ∨ y.toInt = 8) then 1 else if cnS (prt (tlS S) (lpB S) x.toNatClampNeg y.toNatClampNeg) = 0 then 3 else if S 48 = 99 then 6 else 0) = 0 then updN (cutN S (prt (tlS S) (lpB S) x.toNatClampNeg y.toNatClampNeg) 40) 48 (S 48 + 1) else S) j)))), (m4, .inl (eI g, 41, .inl O9)), (m5, .inl (eI g, 9, .inl (fun j => nI (Y9 j)))), (m6, .inl (eI g, 9, .inl (fun j => nI (Z9 j)))), (m1, .inl (eI g, 7, .inl (bump rf (if ¬ (1 ≤ x.toInt ∧ x.toInt ≤ 40) ∨ ¬ ((0 ≤ y.toInt ∧ y.toInt < ((S 41 : Nat) : Int)) ∨ y.toInt = 8) then 1 else if cnS (prt (tlS S) (lpB S) x.toNatClampNeg y.toNatClampNeg) = 0 then 3 else if S 48 = 99 then 6 else 0))))]) 0 0 := by
  refine ctI (cc := cX5_tryIt) (maxL := 3) (ret := (some .int)) (by decide) rfl (Nat.le_of_ble_eq_true rfl) ?_
  intro p_ e_ s_ m_ bl_ mt_ cd_ A ls F hnm hP hD hS hl
  obtain ⟨hx, hb, hml, hown, hts, hK, hX, hA, hrt_, hlocks⟩ := id F
  have hl : lv_has ls 3 [(0, .ref m0), (1, .int x), (2, .int y)] := hl
  obtain ⟨hw40, ⟨h41a, h41b⟩, ⟨h42a, h42b⟩, h43, h44, h45, h46, h47, h48⟩ := id hO
  refine lv_iload_n hx hb dX5_tryIt_0 rfl (lv_at hl 1 rfl) ?_
  refine cSI (As := [.int x]) (rest := []) F (c_X5_isNoSecond l g x ) kX5_isNoSecond gX5_tryIt_X5_isNoSecond rfl rfl ⟨Nat.le_of_ble_eq_true rfl, Nat.le_of_ble_eq_true rfl⟩ hP hD hS [] [0, 1, 2, 3, 4, 5] rfl rfl hl.1 rfl rfl (Nat.le_of_ble_eq_true rfl) dX5_tryIt_1 ⟨Nat.le_of_ble_eq_true rfl, Nat.le_of_ble_eq_true rfl⟩ (fun rz w1 H locs hpo hP hD hS => ?_)
  obtain ⟨rfl, rfl⟩ := hpo
  obtain ⟨hP, hD⟩ := nx (ws' := [(m0, .inr (5, [.ref m1, .ref m2, .ref m3, .int (nI kp), .ref m4, .ref m5, .ref m6, .ref m7, .ref m8, .int (nI rn), .ref m9, .int (nI tn), .int (nI ia), .int (nI wl), .ref m10, .ref m11, .ref m12, .int (nI si), .ref m13, .ref m14])), (m2, .inl (eI g, 49, .inl (fun j => nI (S j)))), (m4, .inl (eI g, 41, .inl O)), (m5, .inl (eI g, 9, .inl (fun j => nI (Y j)))), (m6, .inl (eI g, 9, .inl (fun j => nI (Z j)))), (m1, .inl (eI g, 7, .inl rf))]) hP hD [0, 1, 2, 3, 4, 5] (ndB_ok _ rfl) rfl
  refine bqne (tgt := 15) hx hb dX5_tryIt_4 (by decide) (fun c4 => ?_) (fun c4 => ?_)
  · skip
    refine lv_aload_n hx hb dX5_tryIt_15 rfl (lv_at hl 0 rfl) ?_
    refine lv_iconst (v := (-1)) hx hb dX5_tryIt_16 (by decide) ?_
    refine cVI (As := [.int (-1)]) (rest := []) F (c_X5_no l g m0 m1 m2 m3 m4 m5 m6 m7 m8 m9 m10 m11 m12 m13 m14 kp rn tn ia wl si rf (-1) 1 (by decide) (by omega) (by omega)) kX5_no rfl gX5_tryIt_X5_no rfl rfl ⟨Nat.le_of_ble_eq_true rfl, Nat.le_of_ble_eq_true rfl⟩ hP hD hS [0, 5] [1, 2, 3, 4] rfl rfl 0 rfl rfl hl.1 rfl rfl (Nat.le_of_ble_eq_true rfl) dX5_tryIt_17 ⟨Nat.le_of_ble_eq_true rfl, Nat.le_of_ble_eq_true rfl⟩ (fun rz w1 H locs hpo hP hD hS => ?_)
    obtain ⟨rfl, rfl⟩ := hpo
    obtain ⟨hP, hD⟩ := nx (ws' := [(m0, .inr (5, [.ref m1, .ref m2, .ref m3, .int (nI kp), .ref m4, .ref m5, .ref m6, .ref m7, .ref m8, .int (nI rn), .ref m9, .int (nI tn), .int (nI ia), .int (nI wl), .ref m10, .ref m11, .ref m12, .int (nI si), .ref m13, .ref m14])), (m2, .inl (eI g, 49, .inl (fun j => nI (S j)))), (m4, .inl (eI g, 41, .inl O)), (m5, .inl (eI g, 9, .inl (fun j => nI (Y j)))), (m6, .inl (eI g, 9, .inl (fun j => nI (Z j)))), (m1, .inl (eI g, 7, .inl (bump rf 1)))]) hP hD [4, 0, 1, 2, 3, 5] (ndB_ok _ rfl) rfl
    exact rtI F hP hD hS dX5_tryIt_20 (by rw [show (if ¬ (1 ≤ x.toInt ∧ x.toInt ≤ 40) ∨ ¬ ((0 ≤ y.toInt ∧ y.toInt < ((S 41 : Nat) : Int)) ∨ y.toInt = 8) then 1 else if cnS (prt (tlS S) (lpB S) x.toNatClampNeg y.toNatClampNeg) = 0 then 3 else if S 48 = 99 then 6 else 0) = 1 from (by first | (exfalso; omega) | ((try simp only [true_and, and_true]); (repeat (first | rw [if_pos (by omega)] | rw [if_neg (by omega)])) <;> rfl))]; first | done | exact ⟨_, _, _, by rfl, by rfl⟩)
  · skip
    refine lv_aload_n hx hb dX5_tryIt_7 rfl (lv_at hl 0 rfl) ?_
    refine lv_iload_n hx hb dX5_tryIt_8 rfl (lv_at hl 2 rfl) ?_
    refine cVI (As := [.int y]) (rest := []) F (c_X5_isNoBand l g m0 m1 m2 m3 m4 m5 m6 m7 m8 m9 m10 m11 m12 m13 m14 kp rn tn ia wl si S y (hO)) kX5_isNoBand rfl gX5_tryIt_X5_isNoBand rfl rfl ⟨Nat.le_of_ble_eq_true rfl, Nat.le_of_ble_eq_true rfl⟩ hP hD hS [0, 1] [2, 3, 4, 5] rfl rfl 0 rfl rfl hl.1 rfl rfl (Nat.le_of_ble_eq_true rfl) dX5_tryIt_9 ⟨Nat.le_of_ble_eq_true rfl, Nat.le_of_ble_eq_true rfl⟩ (fun rz w1 H locs hpo hP hD hS => ?_)
    obtain ⟨rfl, rfl⟩ := hpo
    obtain ⟨hP, hD⟩ := nx (ws' := [(m0, .inr (5, [.ref m1, .ref m2, .ref m3, .int (nI kp), .ref m4, .ref m5, .ref m6, .ref m7, .ref m8, .int (nI rn), .ref m9, .int (nI tn), .int (nI ia), .int (nI wl), .ref m10, .ref m11, .ref m12, .int (nI si), .ref m13, .ref m14])), (m2, .inl (eI g, 49, .inl (fun j => nI (S j)))), (m4, .inl (eI g, 41, .inl O)), (m5, .inl (eI g, 9, .inl (fun j => nI (Y j)))), (m6, .inl (eI g, 9, .inl (fun j => nI (Z j)))), (m1, .inl (eI g, 7, .inl rf))]) hP hD [4, 5, 0, 1, 2, 3] (ndB_ok _ rfl) rfl
    refine bqeq (tgt := 21) hx hb dX5_tryIt_12 (by decide) (fun c12 => ?_) (fun c12 => ?_)
    · skip
      obtain ⟨k, hk_, rfl⟩ := natOf (x := x) (by omega)
      rw [nI_tI hk_] at c4
      obtain ⟨k2, hk2_, rfl⟩ := natOf (x := y) (by omega)
      rw [nI_tI hk2_] at c12
      refine lv_aload_n hx hb dX5_tryIt_21 rfl (lv_at hl 0 rfl) ?_
      refine lv_iload_n hx hb dX5_tryIt_22 rfl (lv_at hl 1 rfl) ?_
      refine lv_iload_n hx hb dX5_tryIt_23 rfl (lv_at hl 2 rfl) ?_
      refine cVI (As := [.int (nI k), .int (nI k2)]) (rest := []) F (c_X5_isNever l g m0 m1 m2 m3 m4 m5 m6 m7 m8 m9 m10 m11 m12 m13 m14 kp rn tn ia wl si S O Y Z k k2 (hO) (by omega) (by omega)) kX5_isNever rfl gX5_tryIt_X5_isNever rfl rfl ⟨Nat.le_of_ble_eq_true rfl, Nat.le_of_ble_eq_true rfl⟩ hP hD hS [0, 1, 2, 3, 4] [5] rfl rfl 0 rfl rfl hl.1 rfl rfl (Nat.le_of_ble_eq_true rfl) dX5_tryIt_24 ⟨Nat.le_of_ble_eq_true rfl, Nat.le_of_ble_eq_true rfl⟩ (fun rz w1 H locs hpo hP hD hS => ?_)
      obtain ⟨O9_4, Y9_4, Z9_4, rfl, rfl⟩ := hpo
      obtain ⟨hP, hD⟩ := nx (ws' := [(m0, .inr (5, [.ref m1, .ref m2, .ref m3, .int (nI kp), .ref m4, .ref m5, .ref m6, .ref m7, .ref m8, .int (nI rn), .ref m9, .int (nI tn), .int (nI ia), .int (nI wl), .ref m10, .ref m11, .ref m12, .int (nI si), .ref m13, .ref m14])), (m2, .inl (eI g, 49, .inl (fun j => nI (S j)))), (m4, .inl (eI g, 41, .inl O9_4)), (m5, .inl (eI g, 9, .inl (fun j => nI (Y9_4 j)))), (m6, .inl (eI g, 9, .inl (fun j => nI (Z9_4 j)))), (m1, .inl (eI g, 7, .inl rf))]) hP hD [1, 2, 3, 4, 5, 0] (ndB_ok _ rfl) rfl
      refine bqeq (tgt := 37) hx hb dX5_tryIt_27 (by decide) (fun c27 => ?_) (fun c27 => ?_)
      · skip
        refine lv_aload_n hx hb dX5_tryIt_37 rfl (lv_at hl 0 rfl) ?_
        refine xget F hP inX5_tryIt_X5 0 rfl rfl 1 (by decide) lkX5_tryIt_1 rfl dX5_tryIt_38 ?_
        refine lv_bipush (v := (nI 48)) hx hb dX5_tryIt_41 (by decide) ?_
        refine xald F hP 1 (v := (nI (S 48))) rfl (by omega) (by omega) rfl dX5_tryIt_43 ?_
        refine lv_bipush (v := (nI 99)) hx hb dX5_tryIt_44 (by decide) ?_
        refine xne (tgt := 56) hx hb dX5_tryIt_46 (by decide) (by omega) (by omega) (fun c46 => ?_) (fun c46 => ?_)
        · skip
          refine lv_aload_n hx hb dX5_tryIt_56 rfl (lv_at hl 0 rfl) ?_
          refine lv_aload_n hx hb dX5_tryIt_57 rfl (lv_at hl 0 rfl) ?_
          refine xget F hP inX5_tryIt_X5 0 rfl rfl 1 (by decide) lkX5_tryIt_1 rfl dX5_tryIt_58 ?_
          refine lv_iload_n hx hb dX5_tryIt_61 rfl (lv_at hl 1 rfl) ?_
          refine lv_iload_n hx hb dX5_tryIt_62 rfl (lv_at hl 2 rfl) ?_
          refine cVI (As := [.ref m2, .int (nI k), .int (nI k2)]) (rest := []) F (nc_X5_tries l g m0 m1 m2 m3 m4 m5 m6 m7 m8 m9 m10 m11 m12 m13 m14 kp rn tn ia wl si S O9_4 Y9_4 Z9_4 k k2 (hO) (by omega) (by omega)) kX5_tries rfl gX5_tryIt_X5_tries rfl rfl ⟨Nat.le_of_ble_eq_true rfl, Nat.le_of_ble_eq_true rfl⟩ hP hD hS [0, 1, 2, 3, 4] [5] rfl rfl 0 rfl rfl hl.1 rfl rfl (Nat.le_of_ble_eq_true rfl) dX5_tryIt_63 ⟨Nat.le_of_ble_eq_true rfl, Nat.le_of_ble_eq_true rfl⟩ (fun rz w1 H locs hpo hP hD hS => ?_)
          obtain ⟨O9_5, Y9_5, Z9_5, rfl, rfl⟩ := hpo
          obtain ⟨hP, hD⟩ := nx (ws' := [(m0, .inr (5, [.ref m1, .ref m2, .ref m3, .int (nI kp), .ref m4, .ref m5, .ref m6, .ref m7, .ref m8, .int (nI rn), .ref m9, .int (nI tn), .int (nI ia), .int (nI wl), .ref m10, .ref m11, .ref m12, .int (nI si), .ref m13, .ref m14])), (m2, .inl (eI g, 49, .inl (fun j => nI ((if cnS (prt (tlS S) (lpB S) k k2) ≠ 0 then cutN S (prt (tlS S) (lpB S) k k2) 40 else S) j)))), (m4, .inl (eI g, 41, .inl O9_5)), (m5, .inl (eI g, 9, .inl (fun j => nI (Y9_5 j)))), (m6, .inl (eI g, 9, .inl (fun j => nI (Z9_5 j)))), (m1, .inl (eI g, 7, .inl rf))]) hP hD [1, 2, 3, 4, 5, 0] (ndB_ok _ rfl) rfl
          rw [if_pos c27] at hP hD
          have hP : va_P (eD g) vwCl [(m0, .inr (5, [.ref m1, .ref m2, .ref m3, .int (nI kp), .ref m4, .ref m5, .ref m6, .ref m7, .ref m8, .int (nI rn), .ref m9, .int (nI tn), .int (nI ia), .int (nI wl), .ref m10, .ref m11, .ref m12, .int (nI si), .ref m13, .ref m14])), (m2, .inl (eI g, 49, .inl (fun j => nI ((cutN S (prt (tlS S) (lpB S) k k2) 40) j)))), (m4, .inl (eI g, 41, .inl O9_5)), (m5, .inl (eI g, 9, .inl (fun j => nI (Y9_5 j)))), (m6, .inl (eI g, 9, .inl (fun j => nI (Z9_5 j)))), (m1, .inl (eI g, 7, .inl rf))] H := hP
          have hD : va_D A [(m0, .inr (5, [.ref m1, .ref m2, .ref m3, .int (nI kp), .ref m4, .ref m5, .ref m6, .ref m7, .ref m8, .int (nI rn), .ref m9, .int (nI tn), .int (nI ia), .int (nI wl), .ref m10, .ref m11, .ref m12, .int (nI si), .ref m13, .ref m14])), (m2, .inl (eI g, 49, .inl (fun j => nI ((cutN S (prt (tlS S) (lpB S) k k2) 40) j)))), (m4, .inl (eI g, 41, .inl O9_5)), (m5, .inl (eI g, 9, .inl (fun j => nI (Y9_5 j)))), (m6, .inl (eI g, 9, .inl (fun j => nI (Z9_5 j)))), (m1, .inl (eI g, 7, .inl rf))] := hD
          refine lv_pop hx hb dX5_tryIt_66 rfl ?_
          refine lv_aload_n hx hb dX5_tryIt_67 rfl (lv_at hl 0 rfl) ?_
          refine xget F hP inX5_tryIt_X5 0 rfl rfl 1 (by decide) lkX5_tryIt_1 rfl dX5_tryIt_68 ?_
          refine lv_bipush (v := (nI 48)) hx hb dX5_tryIt_71 (by decide) ?_
          refine lv_dup2_11 hx hb dX5_tryIt_73 rfl rfl ?_
          refine xald F hP 1 (v := (nI ((cutN S (prt (tlS S) (lpB S) k k2) 40) 48))) rfl (by omega) (by omega) rfl dX5_tryIt_74 ?_
          refine lv_iconst (v := (nI 1)) hx hb dX5_tryIt_75 (by decide) ?_
          refine xadd hx hb dX5_tryIt_76 ?_
          refine xast F hP hD hS 1 (f' := fun j => nI ((updN (cutN S (prt (tlS S) (lpB S) k k2) 40) 48 (((cutN S (prt (tlS S) (lpB S) k k2) 40) 48) + 1)) j)) rfl (by omega) (by omega) (upd_nI (cutN S (prt (tlS S) (lpB S) k k2) 40) 48 (((cutN S (prt (tlS S) (lpB S) k k2) 40) 48) + 1)) dX5_tryIt_77 (fun H locs hP hD hS => ?_)
          have hP : va_P (eD g) vwCl [(m0, .inr (5, [.ref m1, .ref m2, .ref m3, .int (nI kp), .ref m4, .ref m5, .ref m6, .ref m7, .ref m8, .int (nI rn), .ref m9, .int (nI tn), .int (nI ia), .int (nI wl), .ref m10, .ref m11, .ref m12, .int (nI si), .ref m13, .ref m14])), (m2, .inl (eI g, 49, .inl (fun j => nI ((updN (cutN S (prt (tlS S) (lpB S) k k2) 40) 48 (((cutN S (prt (tlS S) (lpB S) k k2) 40) 48) + 1)) j)))), (m4, .inl (eI g, 41, .inl O9_5)), (m5, .inl (eI g, 9, .inl (fun j => nI (Y9_5 j)))), (m6, .inl (eI g, 9, .inl (fun j => nI (Z9_5 j)))), (m1, .inl (eI g, 7, .inl rf))] H := hP
          have hD : va_D A [(m0, .inr (5, [.ref m1, .ref m2, .ref m3, .int (nI kp), .ref m4, .ref m5, .ref m6, .ref m7, .ref m8, .int (nI rn), .ref m9, .int (nI tn), .int (nI ia), .int (nI wl), .ref m10, .ref m11, .ref m12, .int (nI si), .ref m13, .ref m14])), (m2, .inl (eI g, 49, .inl (fun j => nI ((updN (cutN S (prt (tlS S) (lpB S) k k2) 40) 48 (((cutN S (prt (tlS S) (lpB S) k k2) 40) 48) + 1)) j)))), (m4, .inl (eI g, 41, .inl O9_5)), (m5, .inl (eI g, 9, .inl (fun j => nI (Y9_5 j)))), (m6, .inl (eI g, 9, .inl (fun j => nI (Z9_5 j)))), (m1, .inl (eI g, 7, .inl rf))] := hD
          rw [show cutN S (prt (tlS S) (lpB S) k k2) 40 48 = S 48 from cut48] at hP hD
          have hP : va_P (eD g) vwCl [(m0, .inr (5, [.ref m1, .ref m2, .ref m3, .int (nI kp), .ref m4, .ref m5, .ref m6, .ref m7, .ref m8, .int (nI rn), .ref m9, .int (nI tn), .int (nI ia), .int (nI wl), .ref m10, .ref m11, .ref m12, .int (nI si), .ref m13, .ref m14])), (m2, .inl (eI g, 49, .inl (fun j => nI ((updN (cutN S (prt (tlS S) (lpB S) k k2) 40) 48 (S 48 + 1)) j)))), (m4, .inl (eI g, 41, .inl O9_5)), (m5, .inl (eI g, 9, .inl (fun j => nI (Y9_5 j)))), (m6, .inl (eI g, 9, .inl (fun j => nI (Z9_5 j)))), (m1, .inl (eI g, 7, .inl rf))] H := hP
          have hD : va_D A [(m0, .inr (5, [.ref m1, .ref m2, .ref m3, .int (nI kp), .ref m4, .ref m5, .ref m6, .ref m7, .ref m8, .int (nI rn), .ref m9, .int (nI tn), .int (nI ia), .int (nI wl), .ref m10, .ref m11, .ref m12, .int (nI si), .ref m13, .ref m14])), (m2, .inl (eI g, 49, .inl (fun j => nI ((updN (cutN S (prt (tlS S) (lpB S) k k2) 40) 48 (S 48 + 1)) j)))), (m4, .inl (eI g, 41, .inl O9_5)), (m5, .inl (eI g, 9, .inl (fun j => nI (Y9_5 j)))), (m6, .inl (eI g, 9, .inl (fun j => nI (Z9_5 j)))), (m1, .inl (eI g, 7, .inl rf))] := hD
          refine lv_aload_n hx hb dX5_tryIt_78 rfl (lv_at hl 0 rfl) ?_
          refine xget F hP inX5_tryIt_X5 0 rfl rfl 1 (by decide) lkX5_tryIt_1 rfl dX5_tryIt_79 ?_
          refine cSI (As := [.ref m2]) (rest := []) F (c_X5_left l g m2 (updN (cutN S (prt (tlS S) (lpB S) k k2) 40) 48 (S 48 + 1)) (fun j hj => by rw [updN_ne (by omega)]; exact cutN_le hO.1 j hj)) kX5_left gX5_tryIt_X5_left rfl rfl ⟨Nat.le_of_ble_eq_true rfl, Nat.le_of_ble_eq_true rfl⟩ hP hD hS [1] [0, 2, 3, 4, 5] rfl rfl hl.1 rfl rfl (Nat.le_of_ble_eq_true rfl) dX5_tryIt_82 ⟨Nat.le_of_ble_eq_true rfl, Nat.le_of_ble_eq_true rfl⟩ (fun rz w1 H locs hpo hP hD hS => ?_)
          obtain ⟨rfl, rfl⟩ := hpo
          obtain ⟨hP, hD⟩ := nx (ws' := [(m0, .inr (5, [.ref m1, .ref m2, .ref m3, .int (nI kp), .ref m4, .ref m5, .ref m6, .ref m7, .ref m8, .int (nI rn), .ref m9, .int (nI tn), .int (nI ia), .int (nI wl), .ref m10, .ref m11, .ref m12, .int (nI si), .ref m13, .ref m14])), (m2, .inl (eI g, 49, .inl (fun j => nI ((updN (cutN S (prt (tlS S) (lpB S) k k2) 40) 48 (S 48 + 1)) j)))), (m4, .inl (eI g, 41, .inl O9_5)), (m5, .inl (eI g, 9, .inl (fun j => nI (Y9_5 j)))), (m6, .inl (eI g, 9, .inl (fun j => nI (Z9_5 j)))), (m1, .inl (eI g, 7, .inl rf))]) hP hD [0, 5, 1, 2, 3, 4] (ndB_ok _ rfl) rfl
          exact rtI F hP hD hS dX5_tryIt_85 (by rw [show (if ¬ (1 ≤ (nI k).toInt ∧ (nI k).toInt ≤ 40) ∨ ¬ ((0 ≤ (nI k2).toInt ∧ (nI k2).toInt < ((S 41 : Nat) : Int)) ∨ (nI k2).toInt = 8) then 1 else if cnS (prt (tlS S) (lpB S) (nI k).toNatClampNeg (nI k2).toNatClampNeg) = 0 then 3 else if S 48 = 99 then 6 else 0) = 0 from (by first | (exfalso; omega) | ((try simp only [nI_tI hk_, nI_tI hk2_, nI_clamp hk_, nI_clamp hk2_, true_and, and_true]); (repeat (first | rw [if_pos (by omega)] | rw [if_neg (by omega)])) <;> rfl))]; first | done | exact ⟨_, _, _, by first | ((try simp only [nI_tI hk_, nI_tI hk2_, nI_clamp hk_, nI_clamp hk2_, true_and, and_true, lpB_u48, lpB_prt, rsp_0, rspL_0, bump_0]) <;> (repeat (first | rw [if_pos (by omega)] | rw [if_neg (by omega)])) <;> rfl) | (exfalso; omega), by first | ((try simp only [nI_tI hk_, nI_tI hk2_, nI_clamp hk_, nI_clamp hk2_, true_and, and_true, lpB_u48, lpB_prt, rsp_0, rspL_0, bump_0]) <;> (repeat (first | rw [if_pos (by omega)] | rw [if_neg (by omega)])) <;> rfl) | (exfalso; omega)⟩)
        · skip
          refine lv_aload_n hx hb dX5_tryIt_49 rfl (lv_at hl 0 rfl) ?_
          refine lv_bipush (v := (-6)) hx hb dX5_tryIt_50 (by decide) ?_
          refine cVI (As := [.int (-6)]) (rest := []) F (c_X5_no l g m0 m1 m2 m3 m4 m5 m6 m7 m8 m9 m10 m11 m12 m13 m14 kp rn tn ia wl si rf (-6) 6 (by decide) (by omega) (by omega)) kX5_no rfl gX5_tryIt_X5_no rfl rfl ⟨Nat.le_of_ble_eq_true rfl, Nat.le_of_ble_eq_true rfl⟩ hP hD hS [0, 5] [1, 2, 3, 4] rfl rfl 0 rfl rfl hl.1 rfl rfl (Nat.le_of_ble_eq_true rfl) dX5_tryIt_52 ⟨Nat.le_of_ble_eq_true rfl, Nat.le_of_ble_eq_true rfl⟩ (fun rz w1 H locs hpo hP hD hS => ?_)
          obtain ⟨rfl, rfl⟩ := hpo
          obtain ⟨hP, hD⟩ := nx (ws' := [(m0, .inr (5, [.ref m1, .ref m2, .ref m3, .int (nI kp), .ref m4, .ref m5, .ref m6, .ref m7, .ref m8, .int (nI rn), .ref m9, .int (nI tn), .int (nI ia), .int (nI wl), .ref m10, .ref m11, .ref m12, .int (nI si), .ref m13, .ref m14])), (m2, .inl (eI g, 49, .inl (fun j => nI (S j)))), (m4, .inl (eI g, 41, .inl O9_4)), (m5, .inl (eI g, 9, .inl (fun j => nI (Y9_4 j)))), (m6, .inl (eI g, 9, .inl (fun j => nI (Z9_4 j)))), (m1, .inl (eI g, 7, .inl (bump rf 6)))]) hP hD [4, 0, 1, 2, 3, 5] (ndB_ok _ rfl) rfl
          exact rtI F hP hD hS dX5_tryIt_55 (by rw [show (if ¬ (1 ≤ (nI k).toInt ∧ (nI k).toInt ≤ 40) ∨ ¬ ((0 ≤ (nI k2).toInt ∧ (nI k2).toInt < ((S 41 : Nat) : Int)) ∨ (nI k2).toInt = 8) then 1 else if cnS (prt (tlS S) (lpB S) (nI k).toNatClampNeg (nI k2).toNatClampNeg) = 0 then 3 else if S 48 = 99 then 6 else 0) = 6 from (by first | (exfalso; omega) | ((try simp only [nI_tI hk_, nI_tI hk2_, nI_clamp hk_, nI_clamp hk2_, true_and, and_true]); (repeat (first | rw [if_pos (by omega)] | rw [if_neg (by omega)])) <;> rfl))]; first | done | exact ⟨_, _, _, by rfl, by rfl⟩)
      · skip
        refine lv_aload_n hx hb dX5_tryIt_30 rfl (lv_at hl 0 rfl) ?_
        refine lv_bipush (v := (-3)) hx hb dX5_tryIt_31 (by decide) ?_
        refine cVI (As := [.int (-3)]) (rest := []) F (c_X5_no l g m0 m1 m2 m3 m4 m5 m6 m7 m8 m9 m10 m11 m12 m13 m14 kp rn tn ia wl si rf (-3) 3 (by decide) (by omega) (by omega)) kX5_no rfl gX5_tryIt_X5_no rfl rfl ⟨Nat.le_of_ble_eq_true rfl, Nat.le_of_ble_eq_true rfl⟩ hP hD hS [0, 5] [1, 2, 3, 4] rfl rfl 0 rfl rfl hl.1 rfl rfl (Nat.le_of_ble_eq_true rfl) dX5_tryIt_33 ⟨Nat.le_of_ble_eq_true rfl, Nat.le_of_ble_eq_true rfl⟩ (fun rz w1 H locs hpo hP hD hS => ?_)
        obtain ⟨rfl, rfl⟩ := hpo
        obtain ⟨hP, hD⟩ := nx (ws' := [(m0, .inr (5, [.ref m1, .ref m2, .ref m3, .int (nI kp), .ref m4, .ref m5, .ref m6, .ref m7, .ref m8, .int (nI rn), .ref m9, .int (nI tn), .int (nI ia), .int (nI wl), .ref m10, .ref m11, .ref m12, .int (nI si), .ref m13, .ref m14])), (m2, .inl (eI g, 49, .inl (fun j => nI (S j)))), (m4, .inl (eI g, 41, .inl O9_4)), (m5, .inl (eI g, 9, .inl (fun j => nI (Y9_4 j)))), (m6, .inl (eI g, 9, .inl (fun j => nI (Z9_4 j)))), (m1, .inl (eI g, 7, .inl (bump rf 3)))]) hP hD [4, 0, 1, 2, 3, 5] (ndB_ok _ rfl) rfl
        exact rtI F hP hD hS dX5_tryIt_36 (by rw [show (if ¬ (1 ≤ (nI k).toInt ∧ (nI k).toInt ≤ 40) ∨ ¬ ((0 ≤ (nI k2).toInt ∧ (nI k2).toInt < ((S 41 : Nat) : Int)) ∨ (nI k2).toInt = 8) then 1 else if cnS (prt (tlS S) (lpB S) (nI k).toNatClampNeg (nI k2).toNatClampNeg) = 0 then 3 else if S 48 = 99 then 6 else 0) = 3 from (by first | (exfalso; omega) | ((try simp only [nI_tI hk_, nI_tI hk2_, nI_clamp hk_, nI_clamp hk2_, true_and, and_true]); (repeat (first | rw [if_pos (by omega)] | rw [if_neg (by omega)])) <;> rfl))]; first | done | exact ⟨_, _, _, by rfl, by rfl⟩)
    · skip
      refine lv_aload_n hx hb dX5_tryIt_15 rfl (lv_at hl 0 rfl) ?_
      refine lv_iconst (v := (-1)) hx hb dX5_tryIt_16 (by decide) ?_
      refine cVI (As := [.int (-1)]) (rest := []) F (c_X5_no l g m0 m1 m2 m3 m4 m5 m6 m7 m8 m9 m10 m11 m12 m13 m14 kp rn tn ia wl si rf (-1) 1 (by decide) (by omega) (by omega)) kX5_no rfl gX5_tryIt_X5_no rfl rfl ⟨Nat.le_of_ble_eq_true rfl, Nat.le_of_ble_eq_true rfl⟩ hP hD hS [0, 5] [1, 2, 3, 4] rfl rfl 0 rfl rfl hl.1 rfl rfl (Nat.le_of_ble_eq_true rfl) dX5_tryIt_17 ⟨Nat.le_of_ble_eq_true rfl, Nat.le_of_ble_eq_true rfl⟩ (fun rz w1 H locs hpo hP hD hS => ?_)
      obtain ⟨rfl, rfl⟩ := hpo
      obtain ⟨hP, hD⟩ := nx (ws' := [(m0, .inr (5, [.ref m1, .ref m2, .ref m3, .int (nI kp), .ref m4, .ref m5, .ref m6, .ref m7, .ref m8, .int (nI rn), .ref m9, .int (nI tn), .int (nI ia), .int (nI wl), .ref m10, .ref m11, .ref m12, .int (nI si), .ref m13, .ref m14])), (m2, .inl (eI g, 49, .inl (fun j => nI (S j)))), (m4, .inl (eI g, 41, .inl O)), (m5, .inl (eI g, 9, .inl (fun j => nI (Y j)))), (m6, .inl (eI g, 9, .inl (fun j => nI (Z j)))), (m1, .inl (eI g, 7, .inl (bump rf 1)))]) hP hD [4, 0, 1, 2, 3, 5] (ndB_ok _ rfl) rfl
      exact rtI F hP hD hS dX5_tryIt_20 (by rw [show (if ¬ (1 ≤ x.toInt ∧ x.toInt ≤ 40) ∨ ¬ ((0 ≤ y.toInt ∧ y.toInt < ((S 41 : Nat) : Int)) ∨ y.toInt = 8) then 1 else if cnS (prt (tlS S) (lpB S) x.toNatClampNeg y.toNatClampNeg) = 0 then 3 else if S 48 = 99 then 6 else 0) = 1 from (by first | (exfalso; omega) | ((try simp only [true_and, and_true]); (repeat (first | rw [if_pos (by omega)] | rw [if_neg (by omega)])) <;> rfl))]; first | done | exact ⟨_, _, _, by rfl, by rfl⟩)

theorem inX4_mean_X4 : ∀ w ∈ u_ws RX4 TX4 10, w ∈ wsX4_mean := fun _ h => (List.mem_cons_of_mem _ (List.mem_append_left _ (List.mem_append_left _ (List.mem_append_left _ (List.mem_append_right _ h)))))
theorem lkX4_mean_1 : Cond.fieldLink RX4 36 "StripInFiveSteps" "strips" "LStripInFiveSteps$Strips;" ∈ wsX4_mean := List.mem_of_getElem? (i := 1) rfl
theorem lkX4_mean_2 : Cond.fieldLink RX4 10 "StripInFiveSteps" "now" "LStripInFiveSteps$Shed;" ∈ wsX4_mean := List.mem_of_getElem? (i := 2) rfl
theorem inX4_mean_X0 : ∀ w ∈ u_ws RX0 TX0 5, w ∈ wsX4_mean := fun _ h => (List.mem_cons_of_mem _ (List.mem_append_left _ (List.mem_append_left _ (List.mem_append_right _ h))))
theorem lkX4_mean_3 : Cond.fieldLink RX4 99 "StripInFiveSteps$Shed" "stripKind" "I" ∈ wsX4_mean := List.mem_of_getElem? (i := 3) rfl
theorem kX4_mean : Cal yX4_mean wsX4_mean cX4_mean 3 (some .long) 2 := ⟨⟨_, rfl⟩, by decide +kernel⟩
set_option maxHeartbeats 4000000 in
set_option maxRecDepth 100000 in
theorem c_X4_mean (l : Launch) (g : EE) (x0 : Nat) (h0 : Nat) (d0 : Nat) (k0 : Nat) (b0 : Nat) (a0 : Nat) (t0 : Nat) (r0 : Nat) (r1 : Nat) (ik : Nat) (rn : Nat) (h1 : Nat) (h2 : Nat) (W : Nat → Nat) (B : Nat → Nat) (sk : Nat) (ek : Nat) (tr : Nat) (a1 : Nat) (a2 : Nat) (a3 : Nat) (a4 : Nat) (a5 : Nat) (T : Nat → Int64) (ka : Nat) (Lb : Nat → Nat) (q2 : Nat → Nat) (n2 : Nat) (rf : Nat → Int32) (x : Int32) (y : Int32) (hW : ∀ j, W j ≤ 9) (hB : okB B) (hsk : sk ≤ 3) (hek : ek ≤ 4) (hC : Cch T Lb) : CL l yX4_mean wsX4_mean ({ frames := 5, cells := 0, slots := 0, locals := 122 }) g [.ref x0, .int x, .int y] [(x0, .inr (4, [.ref h0, .ref d0, .ref k0, .int (nI ik), .ref b0, .ref a0, .ref t0, .ref r0, .int (nI rn), .ref r1])), (h0, .inr (0, [.ref h1, .ref h2, .int (nI sk), .int (nI ek), .int (nI tr)])), (h1, .inl (eI g, 41, .inl (fun j => nI (W j)))), (h2, .inl (eI g, 5, .inl (fun j => nI (B j)))), (a0, .inr (2, [.ref a1, .ref a2, .ref a3, .int (nI ka), .ref a5])), (a1, .inl (eJ g, 1476, .inr (.inl T))), (a2, .inl (eI g, 4, .inl (fun j => nI (Lb j)))), (a3, .inr (1, [.ref a4, .int (nI n2)])), (a4, .inl (eI g, 7, .inl (fun j => nI (q2 j)))), (r1, .inl (eI g, 7, .inl rf))] (fun (rz : Int64) (wz : va_W) => ∃ T9 : Nat → Int64, ∃ ka9 : Nat, ∃ Lb9 : Nat → Nat, ∃ q9 : Nat → Nat, ∃ n9 : Nat, rz = (rspL (if ¬ (1 ≤ x.toInt ∧ x.toInt ≤ 40) then 1 else if ¬ (y.toInt = 0 ∨ y.toInt = 1) then 2 else 0) (lN (frN (meS (tlT B sk ek) W (lpB W) x.toNatClampNeg) (sg W 40) (decide (y.toInt = 0))))) ∧ wz = [(x0, .inr (4, [.ref h0, .ref d0, .ref k0, .int (nI ik), .ref b0, .ref a0, .ref t0, .ref r0, .int (nI rn), .ref r1])), (h0, .inr (0, [.ref h1, .ref h2, .int (nI sk), .int (nI ek), .int (nI tr)])), (h1, .inl (eI g, 41, .inl (fun j => nI (W j)))), (h2, .inl (eI g, 5, .inl (fun j => nI (B j)))), (a0, .inr (2, [.ref a1, .ref a2, .ref a3, .int (nI ka9), .ref a5])), (a1, .inl (eJ g, 1476, .inr (.inl T9))), (a2, .inl (eI g, 4, .inl (fun j => nI (Lb9 j)))), (a3, .inr (1, [.ref a4, .int (nI n9)])), (a4, .inl (eI g, 7, .inl (fun j => nI (q9 j)))), (r1, .inl (eI g, 7, .inl (bump rf (if ¬ (1 ≤ x.toInt ∧ x.toInt ≤ 40) then 1 else if ¬ (y.toInt = 0 ∨ y.toInt = 1) then 2 else 0))))] ∧ Cch T9 Lb9) 0 0 := by
  refine ctL (cc := cX4_mean) (maxL := 3) (ret := (some .long)) (by decide) rfl (Nat.le_of_ble_eq_true rfl) ?_
  intro p_ e_ s_ m_ bl_ mt_ cd_ A ls F hnm hP hD hS hl
  obtain ⟨hx, hb, hml, hown, hts, hK, hX, hA, hrt_, hlocks⟩ := id F
  have hl : lv_has ls 3 [(0, .ref x0), (1, .int x), (2, .int y)] := hl
  obtain ⟨hb0, hb1, hb2, hb3, hb4, hb5⟩ := okB_b hB
  refine lv_iload_n hx hb dX4_mean_0 rfl (lv_at hl 1 rfl) ?_
  refine cSI (As := [.int x]) (rest := []) F (c_X4_isSecond l g x ) kX4_isSecond gX4_mean_X4_isSecond rfl rfl ⟨Nat.le_of_ble_eq_true rfl, Nat.le_of_ble_eq_true rfl⟩ hP hD hS [] [0, 1, 2, 3, 4, 5, 6, 7, 8, 9] rfl rfl hl.1 rfl rfl (Nat.le_of_ble_eq_true rfl) dX4_mean_1 ⟨Nat.le_of_ble_eq_true rfl, Nat.le_of_ble_eq_true rfl⟩ (fun rz w1 H locs hpo hP hD hS => ?_)
  obtain ⟨rfl, rfl⟩ := hpo
  obtain ⟨hP, hD⟩ := nx (ws' := [(x0, .inr (4, [.ref h0, .ref d0, .ref k0, .int (nI ik), .ref b0, .ref a0, .ref t0, .ref r0, .int (nI rn), .ref r1])), (h0, .inr (0, [.ref h1, .ref h2, .int (nI sk), .int (nI ek), .int (nI tr)])), (h1, .inl (eI g, 41, .inl (fun j => nI (W j)))), (h2, .inl (eI g, 5, .inl (fun j => nI (B j)))), (a0, .inr (2, [.ref a1, .ref a2, .ref a3, .int (nI ka), .ref a5])), (a1, .inl (eJ g, 1476, .inr (.inl T))), (a2, .inl (eI g, 4, .inl (fun j => nI (Lb j)))), (a3, .inr (1, [.ref a4, .int (nI n2)])), (a4, .inl (eI g, 7, .inl (fun j => nI (q2 j)))), (r1, .inl (eI g, 7, .inl rf))]) hP hD [0, 1, 2, 3, 4, 5, 6, 7, 8, 9] (ndB_ok _ rfl) rfl
  refine bqne (tgt := 13) hx hb dX4_mean_4 (by decide) (fun c4 => ?_) (fun c4 => ?_)
  · skip
    refine lv_iload_n hx hb dX4_mean_13 rfl (lv_at hl 2 rfl) ?_
    refine cSI (As := [.int y]) (rest := []) F (c_X4_isPart l g y ) kX4_isPart gX4_mean_X4_isPart rfl rfl ⟨Nat.le_of_ble_eq_true rfl, Nat.le_of_ble_eq_true rfl⟩ hP hD hS [] [0, 1, 2, 3, 4, 5, 6, 7, 8, 9] rfl rfl hl.1 rfl rfl (Nat.le_of_ble_eq_true rfl) dX4_mean_14 ⟨Nat.le_of_ble_eq_true rfl, Nat.le_of_ble_eq_true rfl⟩ (fun rz w1 H locs hpo hP hD hS => ?_)
    obtain ⟨rfl, rfl⟩ := hpo
    obtain ⟨hP, hD⟩ := nx (ws' := [(x0, .inr (4, [.ref h0, .ref d0, .ref k0, .int (nI ik), .ref b0, .ref a0, .ref t0, .ref r0, .int (nI rn), .ref r1])), (h0, .inr (0, [.ref h1, .ref h2, .int (nI sk), .int (nI ek), .int (nI tr)])), (h1, .inl (eI g, 41, .inl (fun j => nI (W j)))), (h2, .inl (eI g, 5, .inl (fun j => nI (B j)))), (a0, .inr (2, [.ref a1, .ref a2, .ref a3, .int (nI ka), .ref a5])), (a1, .inl (eJ g, 1476, .inr (.inl T))), (a2, .inl (eI g, 4, .inl (fun j => nI (Lb j)))), (a3, .inr (1, [.ref a4, .int (nI n2)])), (a4, .inl (eI g, 7, .inl (fun j => nI (q2 j)))), (r1, .inl (eI g, 7, .inl rf))]) hP hD [0, 1, 2, 3, 4, 5, 6, 7, 8, 9] (ndB_ok _ rfl) rfl
    refine bqne (tgt := 27) hx hb dX4_mean_17 (by decide) (fun c17 => ?_) (fun c17 => ?_)
    · skip
      obtain ⟨k, hk_, rfl⟩ := natOf (x := x) (by omega)
      rw [nI_tI hk_] at c4
      refine lv_aload_n hx hb dX4_mean_27 rfl (lv_at hl 0 rfl) ?_
      refine xget F hP inX4_mean_X4 0 rfl rfl 5 (by decide) lkX4_mean_1 rfl dX4_mean_28 ?_
      refine lv_aload_n hx hb dX4_mean_31 rfl (lv_at hl 0 rfl) ?_
      refine xget F hP inX4_mean_X4 0 rfl rfl 0 (by decide) lkX4_mean_2 rfl dX4_mean_32 ?_
      refine lv_aload_n hx hb dX4_mean_35 rfl (lv_at hl 0 rfl) ?_
      refine xget F hP inX4_mean_X4 0 rfl rfl 0 (by decide) lkX4_mean_2 rfl dX4_mean_36 ?_
      refine xget F hP inX4_mean_X0 1 rfl rfl 2 (by decide) lkX4_mean_3 rfl dX4_mean_39 ?_
      refine cVV (As := [.ref h0, .int (nI sk)]) (rest := []) F (c_X2_take l g a0 a1 a2 a3 a4 a5 T ka Lb q2 n2 h0 h1 h2 W B sk ek tr sk (hC) (hB) (hek) (hsk)) kX2_take rfl gX4_mean_X2_take rfl rfl ⟨Nat.le_of_ble_eq_true rfl, Nat.le_of_ble_eq_true rfl⟩ hP hD hS [4, 5, 6, 7, 8, 1, 2, 3] [0, 9] rfl rfl 0 rfl rfl hl.1 rfl rfl (Nat.le_of_ble_eq_true rfl) dX4_mean_42 ⟨Nat.le_of_ble_eq_true rfl, Nat.le_of_ble_eq_true rfl⟩ (fun w1 H locs hpo hP hD hS => ?_)
      obtain ⟨T9_3, Lb9_3, q9_3, n9_3, rfl, hpo3⟩ := hpo
      obtain ⟨hP, hD⟩ := nx (ws' := [(x0, .inr (4, [.ref h0, .ref d0, .ref k0, .int (nI ik), .ref b0, .ref a0, .ref t0, .ref r0, .int (nI rn), .ref r1])), (h0, .inr (0, [.ref h1, .ref h2, .int (nI sk), .int (nI ek), .int (nI tr)])), (h1, .inl (eI g, 41, .inl (fun j => nI (W j)))), (h2, .inl (eI g, 5, .inl (fun j => nI (B j)))), (a0, .inr (2, [.ref a1, .ref a2, .ref a3, .int (nI (sk * 369)), .ref a5])), (a1, .inl (eJ g, 1476, .inr (.inl T9_3))), (a2, .inl (eI g, 4, .inl (fun j => nI (Lb9_3 j)))), (a3, .inr (1, [.ref a4, .int (nI n9_3)])), (a4, .inl (eI g, 7, .inl (fun j => nI (q9_3 j)))), (r1, .inl (eI g, 7, .inl rf))]) hP hD [0, 7, 8, 9, 2, 3, 4, 5, 6, 1] (ndB_ok _ rfl) rfl
      obtain ⟨hC9, hR9⟩ := hpo3
      refine lv_aload_n hx hb dX4_mean_45 rfl (lv_at hl 0 rfl) ?_
      refine xget F hP inX4_mean_X4 0 rfl rfl 5 (by decide) lkX4_mean_1 rfl dX4_mean_46 ?_
      refine lv_iload_n hx hb dX4_mean_49 rfl (lv_at hl 1 rfl) ?_
      refine lv_aload_n hx hb dX4_mean_50 rfl (lv_at hl 0 rfl) ?_
      refine xget F hP inX4_mean_X4 0 rfl rfl 0 (by decide) lkX4_mean_2 rfl dX4_mean_51 ?_
      refine lv_aload_n hx hb dX4_mean_54 rfl (lv_at hl 0 rfl) ?_
      refine xget F hP inX4_mean_X4 0 rfl rfl 0 (by decide) lkX4_mean_2 rfl dX4_mean_55 ?_
      refine cVL (As := []) (rest := [.ref h0, .int (nI k), .ref a0]) F (c_X0_left l g h0 h1 h2 W B sk ek tr (hW)) kX0_left rfl gX4_mean_X0_left rfl rfl ⟨Nat.le_of_ble_eq_true rfl, Nat.le_of_ble_eq_true rfl⟩ hP hD hS [1, 2, 3] [0, 4, 5, 6, 7, 8, 9] rfl rfl 0 rfl rfl hl.1 rfl rfl (Nat.le_of_ble_eq_true rfl) dX4_mean_58 ⟨Nat.le_of_ble_eq_true rfl, Nat.le_of_ble_eq_true rfl⟩ (fun rz w1 H locs hpo hP hD hS => ?_)
      obtain ⟨rfl, rfl⟩ := hpo
      obtain ⟨hP, hD⟩ := nx (ws' := [(x0, .inr (4, [.ref h0, .ref d0, .ref k0, .int (nI ik), .ref b0, .ref a0, .ref t0, .ref r0, .int (nI rn), .ref r1])), (h0, .inr (0, [.ref h1, .ref h2, .int (nI sk), .int (nI ek), .int (nI tr)])), (h1, .inl (eI g, 41, .inl (fun j => nI (W j)))), (h2, .inl (eI g, 5, .inl (fun j => nI (B j)))), (a0, .inr (2, [.ref a1, .ref a2, .ref a3, .int (nI (sk * 369)), .ref a5])), (a1, .inl (eJ g, 1476, .inr (.inl T9_3))), (a2, .inl (eI g, 4, .inl (fun j => nI (Lb9_3 j)))), (a3, .inr (1, [.ref a4, .int (nI n9_3)])), (a4, .inl (eI g, 7, .inl (fun j => nI (q9_3 j)))), (r1, .inl (eI g, 7, .inl rf))]) hP hD [0, 7, 8, 9, 1, 2, 3, 4, 5, 6] (ndB_ok _ rfl) rfl
      refine cVL (As := [.int (nI k), .ref h0, .long (lfM W)]) (rest := []) F (c_X2_meanOf l g a0 a1 a2 a3 a5 T9_3 (sk * 369) h0 h1 h2 W B sk ek tr (tlT B sk ek) k (lfM W) (hR9) (by omega) (by omega) (by omega) (inS_lf W) (hW)) kX2_meanOf rfl gX4_mean_X2_meanOf rfl rfl ⟨Nat.le_of_ble_eq_true rfl, Nat.le_of_ble_eq_true rfl⟩ hP hD hS [4, 5, 1, 2, 3] [0, 6, 7, 8, 9] rfl rfl 0 rfl rfl hl.1 rfl rfl (Nat.le_of_ble_eq_true rfl) dX4_mean_61 ⟨Nat.le_of_ble_eq_true rfl, Nat.le_of_ble_eq_true rfl⟩ (fun rz w1 H locs hpo hP hD hS => ?_)
      obtain ⟨rfl, rfl⟩ := hpo
      obtain ⟨hP, hD⟩ := nx (ws' := [(x0, .inr (4, [.ref h0, .ref d0, .ref k0, .int (nI ik), .ref b0, .ref a0, .ref t0, .ref r0, .int (nI rn), .ref r1])), (h0, .inr (0, [.ref h1, .ref h2, .int (nI sk), .int (nI ek), .int (nI tr)])), (h1, .inl (eI g, 41, .inl (fun j => nI (W j)))), (h2, .inl (eI g, 5, .inl (fun j => nI (B j)))), (a0, .inr (2, [.ref a1, .ref a2, .ref a3, .int (nI (sk * 369)), .ref a5])), (a1, .inl (eJ g, 1476, .inr (.inl T9_3))), (a2, .inl (eI g, 4, .inl (fun j => nI (Lb9_3 j)))), (a3, .inr (1, [.ref a4, .int (nI n9_3)])), (a4, .inl (eI g, 7, .inl (fun j => nI (q9_3 j)))), (r1, .inl (eI g, 7, .inl rf))]) hP hD [0, 7, 8, 9, 5, 6, 1, 2, 3, 4] (ndB_ok _ rfl) rfl
      refine lv_aload_n hx hb dX4_mean_64 rfl (lv_at hl 0 rfl) ?_
      refine xget F hP inX4_mean_X4 0 rfl rfl 0 (by decide) lkX4_mean_2 rfl dX4_mean_65 ?_
      refine lv_aload_n hx hb dX4_mean_68 rfl (lv_at hl 0 rfl) ?_
      refine xget F hP inX4_mean_X4 0 rfl rfl 0 (by decide) lkX4_mean_2 rfl dX4_mean_69 ?_
      refine cVL (As := []) (rest := [.ref h0, .long (lN (meS (tlT B sk ek) W (bitL (lfM W)) k))]) F (c_X0_left l g h0 h1 h2 W B sk ek tr (hW)) kX0_left rfl gX4_mean_X0_left rfl rfl ⟨Nat.le_of_ble_eq_true rfl, Nat.le_of_ble_eq_true rfl⟩ hP hD hS [1, 2, 3] [0, 4, 5, 6, 7, 8, 9] rfl rfl 0 rfl rfl hl.1 rfl rfl (Nat.le_of_ble_eq_true rfl) dX4_mean_72 ⟨Nat.le_of_ble_eq_true rfl, Nat.le_of_ble_eq_true rfl⟩ (fun rz w1 H locs hpo hP hD hS => ?_)
      obtain ⟨rfl, rfl⟩ := hpo
      obtain ⟨hP, hD⟩ := nx (ws' := [(x0, .inr (4, [.ref h0, .ref d0, .ref k0, .int (nI ik), .ref b0, .ref a0, .ref t0, .ref r0, .int (nI rn), .ref r1])), (h0, .inr (0, [.ref h1, .ref h2, .int (nI sk), .int (nI ek), .int (nI tr)])), (h1, .inl (eI g, 41, .inl (fun j => nI (W j)))), (h2, .inl (eI g, 5, .inl (fun j => nI (B j)))), (a0, .inr (2, [.ref a1, .ref a2, .ref a3, .int (nI (sk * 369)), .ref a5])), (a1, .inl (eJ g, 1476, .inr (.inl T9_3))), (a2, .inl (eI g, 4, .inl (fun j => nI (Lb9_3 j)))), (a3, .inr (1, [.ref a4, .int (nI n9_3)])), (a4, .inl (eI g, 7, .inl (fun j => nI (q9_3 j)))), (r1, .inl (eI g, 7, .inl rf))]) hP hD [0, 7, 8, 9, 1, 2, 3, 4, 5, 6] (ndB_ok _ rfl) rfl
      refine cVI (As := [.long (lfM W)]) (rest := [.long (lN (meS (tlT B sk ek) W (bitL (lfM W)) k))]) F (c_X0_weightOf l g h0 h1 h2 W B sk ek tr (lfM W) ) kX0_weightOf rfl gX4_mean_X0_weightOf rfl rfl ⟨Nat.le_of_ble_eq_true rfl, Nat.le_of_ble_eq_true rfl⟩ hP hD hS [1, 2, 3] [0, 4, 5, 6, 7, 8, 9] rfl rfl 0 rfl rfl hl.1 rfl rfl (Nat.le_of_ble_eq_true rfl) dX4_mean_75 ⟨Nat.le_of_ble_eq_true rfl, Nat.le_of_ble_eq_true rfl⟩ (fun rz w1 H locs hpo hP hD hS => ?_)
      obtain ⟨rfl, rfl⟩ := hpo
      obtain ⟨hP, hD⟩ := nx (ws' := [(x0, .inr (4, [.ref h0, .ref d0, .ref k0, .int (nI ik), .ref b0, .ref a0, .ref t0, .ref r0, .int (nI rn), .ref r1])), (h0, .inr (0, [.ref h1, .ref h2, .int (nI sk), .int (nI ek), .int (nI tr)])), (h1, .inl (eI g, 41, .inl (fun j => nI (W j)))), (h2, .inl (eI g, 5, .inl (fun j => nI (B j)))), (a0, .inr (2, [.ref a1, .ref a2, .ref a3, .int (nI (sk * 369)), .ref a5])), (a1, .inl (eJ g, 1476, .inr (.inl T9_3))), (a2, .inl (eI g, 4, .inl (fun j => nI (Lb9_3 j)))), (a3, .inr (1, [.ref a4, .int (nI n9_3)])), (a4, .inl (eI g, 7, .inl (fun j => nI (q9_3 j)))), (r1, .inl (eI g, 7, .inl rf))]) hP hD [0, 7, 8, 9, 1, 2, 3, 4, 5, 6] (ndB_ok _ rfl) rfl
      refine lv_i2l (v := lN (wtS W (bitL (lfM W)))) hx hb dX4_mean_78 (nI_l (by have := wtS_b (p := bitL (lfM W)) hW; omega)) ?_
      refine lv_iload_n hx hb dX4_mean_79 rfl (lv_at hl 2 rfl) ?_
      refine cSL (As := [.long (lN (meS (tlT B sk ek) W (bitL (lfM W)) k)), .long (lN (wtS W (bitL (lfM W)))), .int y]) (rest := []) F (c_X4_fraction l g (meS (tlT B sk ek) W (bitL (lfM W)) k) (wtS W (bitL (lfM W))) y (by have := meS_b (t := (tlT B sk ek)) (p := bitL (lfM W)) (v := k) hW; omega) (by have := wtS_b (p := bitL (lfM W)) hW; omega)) kX4_fraction gX4_mean_X4_fraction rfl rfl ⟨Nat.le_of_ble_eq_true rfl, Nat.le_of_ble_eq_true rfl⟩ hP hD hS [] [0, 1, 2, 3, 4, 5, 6, 7, 8, 9] rfl rfl hl.1 rfl rfl (Nat.le_of_ble_eq_true rfl) dX4_mean_80 ⟨Nat.le_of_ble_eq_true rfl, Nat.le_of_ble_eq_true rfl⟩ (fun rz w1 H locs hpo hP hD hS => ?_)
      obtain ⟨rfl, rfl⟩ := hpo
      obtain ⟨hP, hD⟩ := nx (ws' := [(x0, .inr (4, [.ref h0, .ref d0, .ref k0, .int (nI ik), .ref b0, .ref a0, .ref t0, .ref r0, .int (nI rn), .ref r1])), (h0, .inr (0, [.ref h1, .ref h2, .int (nI sk), .int (nI ek), .int (nI tr)])), (h1, .inl (eI g, 41, .inl (fun j => nI (W j)))), (h2, .inl (eI g, 5, .inl (fun j => nI (B j)))), (a0, .inr (2, [.ref a1, .ref a2, .ref a3, .int (nI (sk * 369)), .ref a5])), (a1, .inl (eJ g, 1476, .inr (.inl T9_3))), (a2, .inl (eI g, 4, .inl (fun j => nI (Lb9_3 j)))), (a3, .inr (1, [.ref a4, .int (nI n9_3)])), (a4, .inl (eI g, 7, .inl (fun j => nI (q9_3 j)))), (r1, .inl (eI g, 7, .inl rf))]) hP hD [0, 1, 2, 3, 4, 5, 6, 7, 8, 9] (ndB_ok _ rfl) rfl
      exact rtL F hP hD hS dX4_mean_83 (by rw [show (if ¬ (1 ≤ (nI k).toInt ∧ (nI k).toInt ≤ 40) then 1 else if ¬ (y.toInt = 0 ∨ y.toInt = 1) then 2 else 0) = 0 from (by first | (exfalso; omega) | ((try simp only [nI_tI hk_, nI_clamp hk_, true_and, and_true]); (repeat (first | rw [if_pos (by omega)] | rw [if_neg (by omega)])) <;> rfl))]; first | done | exact ⟨_, _, _, _, _, by first | ((try simp only [nI_tI hk_, nI_clamp hk_, true_and, and_true, bitL_lfM, wtS_lp, rsp_0, rspL_0, bump_0]) <;> (repeat (first | rw [if_pos (by omega)] | rw [if_neg (by omega)])) <;> rfl) | (exfalso; omega), by first | ((try simp only [nI_tI hk_, nI_clamp hk_, true_and, and_true, bitL_lfM, wtS_lp, rsp_0, rspL_0, bump_0]) <;> (repeat (first | rw [if_pos (by omega)] | rw [if_neg (by omega)])) <;> rfl) | (exfalso; omega), hC9⟩)
    · skip
      refine lv_aload_n hx hb dX4_mean_20 rfl (lv_at hl 0 rfl) ?_
      refine lv_bipush (v := (-2)) hx hb dX4_mean_21 (by decide) ?_
      refine cVL (As := [.int (-2)]) (rest := []) F (c_X4_refuseLong l g x0 h0 d0 k0 b0 a0 t0 r0 r1 ik rn rf (-2) 2 (by decide) (by omega) (by omega)) kX4_refuseLong rfl gX4_mean_X4_refuseLong rfl rfl ⟨Nat.le_of_ble_eq_true rfl, Nat.le_of_ble_eq_true rfl⟩ hP hD hS [0, 9] [1, 2, 3, 4, 5, 6, 7, 8] rfl rfl 0 rfl rfl hl.1 rfl rfl (Nat.le_of_ble_eq_true rfl) dX4_mean_23 ⟨Nat.le_of_ble_eq_true rfl, Nat.le_of_ble_eq_true rfl⟩ (fun rz w1 H locs hpo hP hD hS => ?_)
      obtain ⟨rfl, rfl⟩ := hpo
      obtain ⟨hP, hD⟩ := nx (ws' := [(x0, .inr (4, [.ref h0, .ref d0, .ref k0, .int (nI ik), .ref b0, .ref a0, .ref t0, .ref r0, .int (nI rn), .ref r1])), (h0, .inr (0, [.ref h1, .ref h2, .int (nI sk), .int (nI ek), .int (nI tr)])), (h1, .inl (eI g, 41, .inl (fun j => nI (W j)))), (h2, .inl (eI g, 5, .inl (fun j => nI (B j)))), (a0, .inr (2, [.ref a1, .ref a2, .ref a3, .int (nI ka), .ref a5])), (a1, .inl (eJ g, 1476, .inr (.inl T))), (a2, .inl (eI g, 4, .inl (fun j => nI (Lb j)))), (a3, .inr (1, [.ref a4, .int (nI n2)])), (a4, .inl (eI g, 7, .inl (fun j => nI (q2 j)))), (r1, .inl (eI g, 7, .inl (bump rf 2)))]) hP hD [8, 0, 1, 2, 3, 4, 5, 6, 7, 9] (ndB_ok _ rfl) rfl
      exact rtL F hP hD hS dX4_mean_26 (by rw [show (if ¬ (1 ≤ x.toInt ∧ x.toInt ≤ 40) then 1 else if ¬ (y.toInt = 0 ∨ y.toInt = 1) then 2 else 0) = 2 from (by first | (exfalso; omega) | ((try simp only [true_and, and_true]); (repeat (first | rw [if_pos (by omega)] | rw [if_neg (by omega)])) <;> rfl))]; first | done | exact ⟨T, ka, Lb, q2, n2, by rfl, by rfl, hC⟩)
  · skip
    refine lv_aload_n hx hb dX4_mean_7 rfl (lv_at hl 0 rfl) ?_
    refine lv_iconst (v := (-1)) hx hb dX4_mean_8 (by decide) ?_
    refine cVL (As := [.int (-1)]) (rest := []) F (c_X4_refuseLong l g x0 h0 d0 k0 b0 a0 t0 r0 r1 ik rn rf (-1) 1 (by decide) (by omega) (by omega)) kX4_refuseLong rfl gX4_mean_X4_refuseLong rfl rfl ⟨Nat.le_of_ble_eq_true rfl, Nat.le_of_ble_eq_true rfl⟩ hP hD hS [0, 9] [1, 2, 3, 4, 5, 6, 7, 8] rfl rfl 0 rfl rfl hl.1 rfl rfl (Nat.le_of_ble_eq_true rfl) dX4_mean_9 ⟨Nat.le_of_ble_eq_true rfl, Nat.le_of_ble_eq_true rfl⟩ (fun rz w1 H locs hpo hP hD hS => ?_)
    obtain ⟨rfl, rfl⟩ := hpo
    obtain ⟨hP, hD⟩ := nx (ws' := [(x0, .inr (4, [.ref h0, .ref d0, .ref k0, .int (nI ik), .ref b0, .ref a0, .ref t0, .ref r0, .int (nI rn), .ref r1])), (h0, .inr (0, [.ref h1, .ref h2, .int (nI sk), .int (nI ek), .int (nI tr)])), (h1, .inl (eI g, 41, .inl (fun j => nI (W j)))), (h2, .inl (eI g, 5, .inl (fun j => nI (B j)))), (a0, .inr (2, [.ref a1, .ref a2, .ref a3, .int (nI ka), .ref a5])), (a1, .inl (eJ g, 1476, .inr (.inl T))), (a2, .inl (eI g, 4, .inl (fun j => nI (Lb j)))), (a3, .inr (1, [.ref a4, .int (nI n2)])), (a4, .inl (eI g, 7, .inl (fun j => nI (q2 j)))), (r1, .inl (eI g, 7, .inl (bump rf 1)))]) hP hD [8, 0, 1, 2, 3, 4, 5, 6, 7, 9] (ndB_ok _ rfl) rfl
    exact rtL F hP hD hS dX4_mean_12 (by rw [show (if ¬ (1 ≤ x.toInt ∧ x.toInt ≤ 40) then 1 else if ¬ (y.toInt = 0 ∨ y.toInt = 1) then 2 else 0) = 1 from (by first | (exfalso; omega) | ((try simp only [true_and, and_true]); (repeat (first | rw [if_pos (by omega)] | rw [if_neg (by omega)])) <;> rfl))]; first | done | exact ⟨T, ka, Lb, q2, n2, by rfl, by rfl, hC⟩)

theorem inX5_mean_X5 : ∀ w ∈ u_ws RX5 TX5 20, w ∈ wsX5_mean := fun _ h => (List.mem_cons_of_mem _ (List.mem_append_right _ h))
theorem lkX5_mean_1 : Cond.fieldLink RX5 19 "StripInFiveStepsModel" "now" "[I" ∈ wsX5_mean := List.mem_of_getElem? (i := 1) rfl
theorem kX5_mean : Cal yX5_mean wsX5_mean cX5_mean 3 (some .long) 2 := ⟨⟨_, rfl⟩, by decide +kernel⟩
set_option maxHeartbeats 4000000 in
set_option maxRecDepth 100000 in
theorem c_X5_mean (l : Launch) (g : EE) (m0 : Nat) (m1 : Nat) (m2 : Nat) (m3 : Nat) (m4 : Nat) (m5 : Nat) (m6 : Nat) (m7 : Nat) (m8 : Nat) (m9 : Nat) (m10 : Nat) (m11 : Nat) (m12 : Nat) (m13 : Nat) (m14 : Nat) (kp : Nat) (rn : Nat) (tn : Nat) (ia : Nat) (wl : Nat) (si : Nat) (S : Nat → Nat) (O : Nat → Int32) (Y : Nat → Nat) (Z : Nat → Nat) (rf : Nat → Int32) (x : Int32) (y : Int32) (hO : okS S) : CL l yX5_mean wsX5_mean ({ frames := 6, cells := 0, slots := 0, locals := 137 }) g [.ref m0, .int x, .int y] [(m0, .inr (5, [.ref m1, .ref m2, .ref m3, .int (nI kp), .ref m4, .ref m5, .ref m6, .ref m7, .ref m8, .int (nI rn), .ref m9, .int (nI tn), .int (nI ia), .int (nI wl), .ref m10, .ref m11, .ref m12, .int (nI si), .ref m13, .ref m14])), (m2, .inl (eI g, 49, .inl (fun j => nI (S j)))), (m4, .inl (eI g, 41, .inl O)), (m5, .inl (eI g, 9, .inl (fun j => nI (Y j)))), (m6, .inl (eI g, 9, .inl (fun j => nI (Z j)))), (m1, .inl (eI g, 7, .inl rf))] (fun (rz : Int64) (wz : va_W) => ∃ O9 : Nat → Int32, ∃ Y9 : Nat → Nat, ∃ Z9 : Nat → Nat, rz = (rspL (if ¬ (1 ≤ x.toInt ∧ x.toInt ≤ 40) then 1 else if ¬ (y.toInt = 0 ∨ y.toInt = 1) then 2 else 0) (lN (frN (meS (tlS S) S (lpB S) x.toNatClampNeg) (sg S 40) (decide (y.toInt = 0))))) ∧ wz = [(m0, .inr (5, [.ref m1, .ref m2, .ref m3, .int (nI kp), .ref m4, .ref m5, .ref m6, .ref m7, .ref m8, .int (nI rn), .ref m9, .int (nI tn), .int (nI ia), .int (nI wl), .ref m10, .ref m11, .ref m12, .int (nI si), .ref m13, .ref m14])), (m2, .inl (eI g, 49, .inl (fun j => nI (S j)))), (m4, .inl (eI g, 41, .inl O9)), (m5, .inl (eI g, 9, .inl (fun j => nI (Y9 j)))), (m6, .inl (eI g, 9, .inl (fun j => nI (Z9 j)))), (m1, .inl (eI g, 7, .inl (bump rf (if ¬ (1 ≤ x.toInt ∧ x.toInt ≤ 40) then 1 else if ¬ (y.toInt = 0 ∨ y.toInt = 1) then 2 else 0))))]) 0 0 := by
  refine ctL (cc := cX5_mean) (maxL := 3) (ret := (some .long)) (by decide) rfl (Nat.le_of_ble_eq_true rfl) ?_
  intro p_ e_ s_ m_ bl_ mt_ cd_ A ls F hnm hP hD hS hl
  obtain ⟨hx, hb, hml, hown, hts, hK, hX, hA, hrt_, hlocks⟩ := id F
  have hl : lv_has ls 3 [(0, .ref m0), (1, .int x), (2, .int y)] := hl
  obtain ⟨hw40, ⟨h41a, h41b⟩, ⟨h42a, h42b⟩, h43, h44, h45, h46, h47, h48⟩ := id hO
  refine lv_iload_n hx hb dX5_mean_0 rfl (lv_at hl 1 rfl) ?_
  refine cSI (As := [.int x]) (rest := []) F (c_X5_isNoSecond l g x ) kX5_isNoSecond gX5_mean_X5_isNoSecond rfl rfl ⟨Nat.le_of_ble_eq_true rfl, Nat.le_of_ble_eq_true rfl⟩ hP hD hS [] [0, 1, 2, 3, 4, 5] rfl rfl hl.1 rfl rfl (Nat.le_of_ble_eq_true rfl) dX5_mean_1 ⟨Nat.le_of_ble_eq_true rfl, Nat.le_of_ble_eq_true rfl⟩ (fun rz w1 H locs hpo hP hD hS => ?_)
  obtain ⟨rfl, rfl⟩ := hpo
  obtain ⟨hP, hD⟩ := nx (ws' := [(m0, .inr (5, [.ref m1, .ref m2, .ref m3, .int (nI kp), .ref m4, .ref m5, .ref m6, .ref m7, .ref m8, .int (nI rn), .ref m9, .int (nI tn), .int (nI ia), .int (nI wl), .ref m10, .ref m11, .ref m12, .int (nI si), .ref m13, .ref m14])), (m2, .inl (eI g, 49, .inl (fun j => nI (S j)))), (m4, .inl (eI g, 41, .inl O)), (m5, .inl (eI g, 9, .inl (fun j => nI (Y j)))), (m6, .inl (eI g, 9, .inl (fun j => nI (Z j)))), (m1, .inl (eI g, 7, .inl rf))]) hP hD [0, 1, 2, 3, 4, 5] (ndB_ok _ rfl) rfl
  refine bqeq (tgt := 13) hx hb dX5_mean_4 (by decide) (fun c4 => ?_) (fun c4 => ?_)
  · skip
    refine lv_iload_n hx hb dX5_mean_13 rfl (lv_at hl 2 rfl) ?_
    refine cSI (As := [.int y]) (rest := []) F (c_X5_isNoPart l g y ) kX5_isNoPart gX5_mean_X5_isNoPart rfl rfl ⟨Nat.le_of_ble_eq_true rfl, Nat.le_of_ble_eq_true rfl⟩ hP hD hS [] [0, 1, 2, 3, 4, 5] rfl rfl hl.1 rfl rfl (Nat.le_of_ble_eq_true rfl) dX5_mean_14 ⟨Nat.le_of_ble_eq_true rfl, Nat.le_of_ble_eq_true rfl⟩ (fun rz w1 H locs hpo hP hD hS => ?_)
    obtain ⟨rfl, rfl⟩ := hpo
    obtain ⟨hP, hD⟩ := nx (ws' := [(m0, .inr (5, [.ref m1, .ref m2, .ref m3, .int (nI kp), .ref m4, .ref m5, .ref m6, .ref m7, .ref m8, .int (nI rn), .ref m9, .int (nI tn), .int (nI ia), .int (nI wl), .ref m10, .ref m11, .ref m12, .int (nI si), .ref m13, .ref m14])), (m2, .inl (eI g, 49, .inl (fun j => nI (S j)))), (m4, .inl (eI g, 41, .inl O)), (m5, .inl (eI g, 9, .inl (fun j => nI (Y j)))), (m6, .inl (eI g, 9, .inl (fun j => nI (Z j)))), (m1, .inl (eI g, 7, .inl rf))]) hP hD [0, 1, 2, 3, 4, 5] (ndB_ok _ rfl) rfl
    refine bqeq (tgt := 27) hx hb dX5_mean_17 (by decide) (fun c17 => ?_) (fun c17 => ?_)
    · skip
      obtain ⟨k, hk_, rfl⟩ := natOf (x := x) (by omega)
      rw [nI_tI hk_] at c4
      refine lv_aload_n hx hb dX5_mean_27 rfl (lv_at hl 0 rfl) ?_
      refine lv_aload_n hx hb dX5_mean_28 rfl (lv_at hl 0 rfl) ?_
      refine xget F hP inX5_mean_X5 0 rfl rfl 1 (by decide) lkX5_mean_1 rfl dX5_mean_29 ?_
      refine lv_iload_n hx hb dX5_mean_32 rfl (lv_at hl 1 rfl) ?_
      refine cVI (As := [.ref m2, .int (nI k)]) (rest := []) F (nc_X5_meanOf l g m0 m1 m2 m3 m4 m5 m6 m7 m8 m9 m10 m11 m12 m13 m14 kp rn tn ia wl si S O Y Z k (hO) (by omega)) kX5_meanOf rfl gX5_mean_X5_meanOf rfl rfl ⟨Nat.le_of_ble_eq_true rfl, Nat.le_of_ble_eq_true rfl⟩ hP hD hS [0, 1, 2, 3, 4] [5] rfl rfl 0 rfl rfl hl.1 rfl rfl (Nat.le_of_ble_eq_true rfl) dX5_mean_33 ⟨Nat.le_of_ble_eq_true rfl, Nat.le_of_ble_eq_true rfl⟩ (fun rz w1 H locs hpo hP hD hS => ?_)
      obtain ⟨O9_3, Y9_3, Z9_3, rfl, rfl⟩ := hpo
      obtain ⟨hP, hD⟩ := nx (ws' := [(m0, .inr (5, [.ref m1, .ref m2, .ref m3, .int (nI kp), .ref m4, .ref m5, .ref m6, .ref m7, .ref m8, .int (nI rn), .ref m9, .int (nI tn), .int (nI ia), .int (nI wl), .ref m10, .ref m11, .ref m12, .int (nI si), .ref m13, .ref m14])), (m2, .inl (eI g, 49, .inl (fun j => nI (S j)))), (m4, .inl (eI g, 41, .inl O9_3)), (m5, .inl (eI g, 9, .inl (fun j => nI (Y9_3 j)))), (m6, .inl (eI g, 9, .inl (fun j => nI (Z9_3 j)))), (m1, .inl (eI g, 7, .inl rf))]) hP hD [1, 2, 3, 4, 5, 0] (ndB_ok _ rfl) rfl
      refine lv_i2l (v := lN (meS (tlS S) S (lpB S) k)) hx hb dX5_mean_36 (nI_l (by have := wS_b (t := tlS S) (p := lpB S) (v := k) hO.1; omega)) ?_
      refine lv_aload_n hx hb dX5_mean_37 rfl (lv_at hl 0 rfl) ?_
      refine xget F hP inX5_mean_X5 0 rfl rfl 1 (by decide) lkX5_mean_1 rfl dX5_mean_38 ?_
      refine cSI (As := [.ref m2]) (rest := [.long (lN (meS (tlS S) S (lpB S) k))]) F (c_X5_weight l g m2 S ) kX5_weight gX5_mean_X5_weight rfl rfl ⟨Nat.le_of_ble_eq_true rfl, Nat.le_of_ble_eq_true rfl⟩ hP hD hS [1] [0, 2, 3, 4, 5] rfl rfl hl.1 rfl rfl (Nat.le_of_ble_eq_true rfl) dX5_mean_41 ⟨Nat.le_of_ble_eq_true rfl, Nat.le_of_ble_eq_true rfl⟩ (fun rz w1 H locs hpo hP hD hS => ?_)
      obtain ⟨rfl, rfl⟩ := hpo
      obtain ⟨hP, hD⟩ := nx (ws' := [(m0, .inr (5, [.ref m1, .ref m2, .ref m3, .int (nI kp), .ref m4, .ref m5, .ref m6, .ref m7, .ref m8, .int (nI rn), .ref m9, .int (nI tn), .int (nI ia), .int (nI wl), .ref m10, .ref m11, .ref m12, .int (nI si), .ref m13, .ref m14])), (m2, .inl (eI g, 49, .inl (fun j => nI (S j)))), (m4, .inl (eI g, 41, .inl O9_3)), (m5, .inl (eI g, 9, .inl (fun j => nI (Y9_3 j)))), (m6, .inl (eI g, 9, .inl (fun j => nI (Z9_3 j)))), (m1, .inl (eI g, 7, .inl rf))]) hP hD [0, 5, 1, 2, 3, 4] (ndB_ok _ rfl) rfl
      refine lv_i2l (v := lN (sg S 40)) hx hb dX5_mean_44 (nI_l (by have := sgW_b hO.1; omega)) ?_
      refine lv_iload_n hx hb dX5_mean_45 rfl (lv_at hl 2 rfl) ?_
      refine cSL (As := [.long (lN (meS (tlS S) S (lpB S) k)), .long (lN (sg S 40)), .int y]) (rest := []) F (c_X5_fraction l g (meS (tlS S) S (lpB S) k) (sg S 40) y (by have := wS_b (t := tlS S) (p := lpB S) (v := k) hO.1; omega) (by have := sgW_b hO.1; omega) (fun z => me_w0 z) (by omega)) kX5_fraction gX5_mean_X5_fraction rfl rfl ⟨Nat.le_of_ble_eq_true rfl, Nat.le_of_ble_eq_true rfl⟩ hP hD hS [] [0, 1, 2, 3, 4, 5] rfl rfl hl.1 rfl rfl (Nat.le_of_ble_eq_true rfl) dX5_mean_46 ⟨Nat.le_of_ble_eq_true rfl, Nat.le_of_ble_eq_true rfl⟩ (fun rz w1 H locs hpo hP hD hS => ?_)
      obtain ⟨rfl, rfl⟩ := hpo
      obtain ⟨hP, hD⟩ := nx (ws' := [(m0, .inr (5, [.ref m1, .ref m2, .ref m3, .int (nI kp), .ref m4, .ref m5, .ref m6, .ref m7, .ref m8, .int (nI rn), .ref m9, .int (nI tn), .int (nI ia), .int (nI wl), .ref m10, .ref m11, .ref m12, .int (nI si), .ref m13, .ref m14])), (m2, .inl (eI g, 49, .inl (fun j => nI (S j)))), (m4, .inl (eI g, 41, .inl O9_3)), (m5, .inl (eI g, 9, .inl (fun j => nI (Y9_3 j)))), (m6, .inl (eI g, 9, .inl (fun j => nI (Z9_3 j)))), (m1, .inl (eI g, 7, .inl rf))]) hP hD [0, 1, 2, 3, 4, 5] (ndB_ok _ rfl) rfl
      exact rtL F hP hD hS dX5_mean_49 (by rw [show (if ¬ (1 ≤ (nI k).toInt ∧ (nI k).toInt ≤ 40) then 1 else if ¬ (y.toInt = 0 ∨ y.toInt = 1) then 2 else 0) = 0 from (by first | (exfalso; omega) | ((try simp only [nI_tI hk_, nI_clamp hk_, true_and, and_true]); (repeat (first | rw [if_pos (by omega)] | rw [if_neg (by omega)])) <;> rfl))]; first | done | exact ⟨_, _, _, by first | ((try simp only [nI_tI hk_, nI_clamp hk_, true_and, and_true, rsp_0, rspL_0, bump_0]) <;> (repeat (first | rw [if_pos (by omega)] | rw [if_neg (by omega)])) <;> rfl) | (exfalso; omega), by first | ((try simp only [nI_tI hk_, nI_clamp hk_, true_and, and_true, rsp_0, rspL_0, bump_0]) <;> (repeat (first | rw [if_pos (by omega)] | rw [if_neg (by omega)])) <;> rfl) | (exfalso; omega)⟩)
    · skip
      refine lv_aload_n hx hb dX5_mean_20 rfl (lv_at hl 0 rfl) ?_
      refine lv_bipush (v := (-2)) hx hb dX5_mean_21 (by decide) ?_
      refine cVL (As := [.int (-2)]) (rest := []) F (c_X5_noLong l g m0 m1 m2 m3 m4 m5 m6 m7 m8 m9 m10 m11 m12 m13 m14 kp rn tn ia wl si rf (-2) 2 (by decide) (by omega) (by omega)) kX5_noLong rfl gX5_mean_X5_noLong rfl rfl ⟨Nat.le_of_ble_eq_true rfl, Nat.le_of_ble_eq_true rfl⟩ hP hD hS [0, 5] [1, 2, 3, 4] rfl rfl 0 rfl rfl hl.1 rfl rfl (Nat.le_of_ble_eq_true rfl) dX5_mean_23 ⟨Nat.le_of_ble_eq_true rfl, Nat.le_of_ble_eq_true rfl⟩ (fun rz w1 H locs hpo hP hD hS => ?_)
      obtain ⟨rfl, rfl⟩ := hpo
      obtain ⟨hP, hD⟩ := nx (ws' := [(m0, .inr (5, [.ref m1, .ref m2, .ref m3, .int (nI kp), .ref m4, .ref m5, .ref m6, .ref m7, .ref m8, .int (nI rn), .ref m9, .int (nI tn), .int (nI ia), .int (nI wl), .ref m10, .ref m11, .ref m12, .int (nI si), .ref m13, .ref m14])), (m2, .inl (eI g, 49, .inl (fun j => nI (S j)))), (m4, .inl (eI g, 41, .inl O)), (m5, .inl (eI g, 9, .inl (fun j => nI (Y j)))), (m6, .inl (eI g, 9, .inl (fun j => nI (Z j)))), (m1, .inl (eI g, 7, .inl (bump rf 2)))]) hP hD [4, 0, 1, 2, 3, 5] (ndB_ok _ rfl) rfl
      exact rtL F hP hD hS dX5_mean_26 (by rw [show (if ¬ (1 ≤ x.toInt ∧ x.toInt ≤ 40) then 1 else if ¬ (y.toInt = 0 ∨ y.toInt = 1) then 2 else 0) = 2 from (by first | (exfalso; omega) | ((try simp only [true_and, and_true]); (repeat (first | rw [if_pos (by omega)] | rw [if_neg (by omega)])) <;> rfl))]; first | done | exact ⟨_, _, _, by rfl, by rfl⟩)
  · skip
    refine lv_aload_n hx hb dX5_mean_7 rfl (lv_at hl 0 rfl) ?_
    refine lv_iconst (v := (-1)) hx hb dX5_mean_8 (by decide) ?_
    refine cVL (As := [.int (-1)]) (rest := []) F (c_X5_noLong l g m0 m1 m2 m3 m4 m5 m6 m7 m8 m9 m10 m11 m12 m13 m14 kp rn tn ia wl si rf (-1) 1 (by decide) (by omega) (by omega)) kX5_noLong rfl gX5_mean_X5_noLong rfl rfl ⟨Nat.le_of_ble_eq_true rfl, Nat.le_of_ble_eq_true rfl⟩ hP hD hS [0, 5] [1, 2, 3, 4] rfl rfl 0 rfl rfl hl.1 rfl rfl (Nat.le_of_ble_eq_true rfl) dX5_mean_9 ⟨Nat.le_of_ble_eq_true rfl, Nat.le_of_ble_eq_true rfl⟩ (fun rz w1 H locs hpo hP hD hS => ?_)
    obtain ⟨rfl, rfl⟩ := hpo
    obtain ⟨hP, hD⟩ := nx (ws' := [(m0, .inr (5, [.ref m1, .ref m2, .ref m3, .int (nI kp), .ref m4, .ref m5, .ref m6, .ref m7, .ref m8, .int (nI rn), .ref m9, .int (nI tn), .int (nI ia), .int (nI wl), .ref m10, .ref m11, .ref m12, .int (nI si), .ref m13, .ref m14])), (m2, .inl (eI g, 49, .inl (fun j => nI (S j)))), (m4, .inl (eI g, 41, .inl O)), (m5, .inl (eI g, 9, .inl (fun j => nI (Y j)))), (m6, .inl (eI g, 9, .inl (fun j => nI (Z j)))), (m1, .inl (eI g, 7, .inl (bump rf 1)))]) hP hD [4, 0, 1, 2, 3, 5] (ndB_ok _ rfl) rfl
    exact rtL F hP hD hS dX5_mean_12 (by rw [show (if ¬ (1 ≤ x.toInt ∧ x.toInt ≤ 40) then 1 else if ¬ (y.toInt = 0 ∨ y.toInt = 1) then 2 else 0) = 1 from (by first | (exfalso; omega) | ((try simp only [true_and, and_true]); (repeat (first | rw [if_pos (by omega)] | rw [if_neg (by omega)])) <;> rfl))]; first | done | exact ⟨_, _, _, by rfl, by rfl⟩)
