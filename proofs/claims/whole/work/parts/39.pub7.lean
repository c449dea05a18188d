theorem inX3_isFull_X3 : ∀ w ∈ u_ws RX3 TX3 2, w ∈ wsX3_isFull := fun _ h => (List.mem_cons_of_mem _ (List.mem_append_right _ h))
theorem lkX3_isFull_1 : Cond.fieldLink RX3 15 "StripInFiveSteps$Text" "size" "I" ∈ wsX3_isFull := List.mem_of_getElem? (i := 1) rfl
theorem kX3_isFull : Cal yX3_isFull wsX3_isFull cX3_isFull 1 (some .boolean) 0 := ⟨⟨_, rfl⟩, by decide +kernel⟩
set_option maxHeartbeats 4000000 in
set_option maxRecDepth 100000 in
theorem c_X3_isFull (l : Launch) (g : EE) (t0 : Nat) (t1 : Nat) (tn_ : Nat) (htn : tn_ ≤ 96) : CI l yX3_isFull wsX3_isFull ({ frames := 0, cells := 0, slots := 0, locals := 0 }) g [.ref t0] [(t0, .inr (3, [.ref t1, .int (nI tn_)]))] (fun (rz : Int32) (wz : va_W) => rz = (nI (if 96 ≤ tn_ then 1 else 0)) ∧ wz = [(t0, .inr (3, [.ref t1, .int (nI tn_)]))]) 0 0 := by
  refine ctI (cc := cX3_isFull) (maxL := 1) (ret := (some .boolean)) (by decide) rfl (Nat.le_of_ble_eq_true rfl) ?_
  intro p_ e_ s_ m_ bl_ mt_ cd_ A ls F hnm hP hD hS hl
  obtain ⟨hx, hb, hml, hown, hts, hK, hX, hA, hrt_, hlocks⟩ := id F
  have hl : lv_has ls 1 [(0, .ref t0)] := hl
  refine lv_aload_n hx hb dX3_isFull_0 rfl (lv_at hl 0 rfl) ?_
  refine xget F hP inX3_isFull_X3 0 rfl rfl 1 (by decide) lkX3_isFull_1 rfl dX3_isFull_1 ?_
  refine lv_bipush (v := (nI 96)) hx hb dX3_isFull_4 (by decide) ?_
  refine xlt (tgt := 13) hx hb dX3_isFull_6 (by decide) (by omega) (by omega) (fun c6 => ?_) (fun c6 => ?_)
  · skip
    refine lv_iconst (v := (nI 0)) hx hb dX3_isFull_13 (by decide) ?_
    exact rtZ F hP hD hS dX3_isFull_14 (rfl) (⟨by first | rw [if_pos (by omega)] | rw [if_neg (by omega)], rfl⟩)
  · skip
    refine lv_iconst (v := (nI 1)) hx hb dX3_isFull_9 (by decide) ?_
    refine lv_goto (tgt := 14) hx hb dX3_isFull_10 (by decide) ?_
    exact rtZ F hP hD hS dX3_isFull_14 (rfl) (⟨by first | rw [if_pos (by omega)] | rw [if_neg (by omega)], rfl⟩)

theorem inX3_add_X3 : ∀ w ∈ u_ws RX3 TX3 2, w ∈ wsX3_add := fun _ h => (List.mem_cons_of_mem _ (List.mem_append_right _ h))
theorem lkX3_add_2 : Cond.fieldLink RX3 15 "StripInFiveSteps$Text" "size" "I" ∈ wsX3_add := List.mem_of_getElem? (i := 2) rfl
theorem lkX3_add_1 : Cond.fieldLink RX3 9 "StripInFiveSteps$Text" "letters" "[I" ∈ wsX3_add := List.mem_of_getElem? (i := 1) rfl
theorem kX3_add : Cal yX3_add wsX3_add cX3_add 2 (some .int) 1 := ⟨⟨_, rfl⟩, by decide +kernel⟩
set_option maxHeartbeats 4000000 in
set_option maxRecDepth 100000 in
theorem c_X3_add (l : Launch) (g : EE) (t0 : Nat) (t1 : Nat) (tn_ : Nat) (tx : Nat → Nat) (c_ : Nat) (htn : tn_ < 96) : CI l yX3_add wsX3_add ({ frames := 1, cells := 0, slots := 0, locals := 20 }) g [.ref t0, .int (nI c_)] [(t0, .inr (3, [.ref t1, .int (nI tn_)])), (t1, .inl (eI g, 96, .inl (fun j => nI (tx j))))] (fun (rz : Int32) (wz : va_W) => rz = (nI (tn_ + 1)) ∧ wz = [(t0, .inr (3, [.ref t1, .int (nI (tn_ + 1))])), (t1, .inl (eI g, 96, .inl (fun j => nI ((updN tx tn_ c_) j))))]) 0 0 := by
  refine ctI (cc := cX3_add) (maxL := 2) (ret := (some .int)) (by decide) rfl (Nat.le_of_ble_eq_true rfl) ?_
  intro p_ e_ s_ m_ bl_ mt_ cd_ A ls F hnm hP hD hS hl
  obtain ⟨hx, hb, hml, hown, hts, hK, hX, hA, hrt_, hlocks⟩ := id F
  have hl : lv_has ls 2 [(0, .ref t0), (1, .int (nI c_))] := hl
  refine lv_aload_n hx hb dX3_add_0 rfl (lv_at hl 0 rfl) ?_
  refine cVI (As := []) (rest := []) F (c_X3_isFull l g t0 t1 tn_ (by omega)) kX3_isFull rfl gX3_add_X3_isFull rfl rfl ⟨Nat.le_of_ble_eq_true rfl, Nat.le_of_ble_eq_true rfl⟩ hP hD hS [0] [1] rfl rfl 0 rfl rfl hl.1 rfl rfl (Nat.le_of_ble_eq_true rfl) dX3_add_1 ⟨Nat.le_of_ble_eq_true rfl, Nat.le_of_ble_eq_true rfl⟩ (fun rz w1 H locs hpo hP hD hS => ?_)
  obtain ⟨rfl, rfl⟩ := hpo
  obtain ⟨hP, hD⟩ := nx (ws' := [(t0, .inr (3, [.ref t1, .int (nI tn_)])), (t1, .inl (eI g, 96, .inl (fun j => nI (tx j))))]) hP hD [1, 0] (ndB_ok _ rfl) rfl
  refine bqne (tgt := 27) hx hb dX3_add_4 (by decide) (fun c4 => ?_) (fun c4 => ?_)
  · skip
    refine lv_aload_n hx hb dX3_add_27 rfl (lv_at hl 0 rfl) ?_
    refine xget F hP inX3_add_X3 0 rfl rfl 1 (by decide) lkX3_add_2 rfl dX3_add_28 ?_
    exact rtI F hP hD hS dX3_add_31 (by first | (exfalso; omega) | exact ⟨rfl, rfl⟩)
  · skip
    refine lv_aload_n hx hb dX3_add_7 rfl (lv_at hl 0 rfl) ?_
    refine xget F hP inX3_add_X3 0 rfl rfl 0 (by decide) lkX3_add_1 rfl dX3_add_8 ?_
    refine lv_aload_n hx hb dX3_add_11 rfl (lv_at hl 0 rfl) ?_
    refine xget F hP inX3_add_X3 0 rfl rfl 1 (by decide) lkX3_add_2 rfl dX3_add_12 ?_
    refine lv_iload_n hx hb dX3_add_15 rfl (lv_at hl 1 rfl) ?_
    refine xast F hP hD hS 1 (f' := fun j => nI ((updN tx tn_ c_) j)) rfl (by omega) (by omega) (upd_nI tx tn_ c_) dX3_add_16 (fun H locs hP hD hS => ?_)
    have hP : va_P (eD g) vwCl [(t0, .inr (3, [.ref t1, .int (nI tn_)])), (t1, .inl (eI g, 96, .inl (fun j => nI ((updN tx tn_ c_) j))))] H := hP
    have hD : va_D A [(t0, .inr (3, [.ref t1, .int (nI tn_)])), (t1, .inl (eI g, 96, .inl (fun j => nI ((updN tx tn_ c_) j))))] := hD
    refine lv_aload_n hx hb dX3_add_17 rfl (lv_at hl 0 rfl) ?_
    refine lv_dup hx hb dX3_add_18 rfl ?_
    refine xget F hP inX3_add_X3 0 rfl rfl 1 (by decide) lkX3_add_2 rfl dX3_add_19 ?_
    refine lv_iconst (v := (nI 1)) hx hb dX3_add_22 (by decide) ?_
    refine xadd hx hb dX3_add_23 ?_
    refine xput F hP hD hS inX3_add_X3 tyX3 tyX3_ok nmX3 0 rfl rfl 1 (by decide) lkX3_add_2 rfl rfl rfl (Nat.le_of_ble_eq_true rfl) dX3_add_24 (fun H locs hP hD hS => ?_)
    have hP : va_P (eD g) vwCl [(t0, .inr (3, [.ref t1, .int (nI (tn_ + 1))])), (t1, .inl (eI g, 96, .inl (fun j => nI ((updN tx tn_ c_) j))))] H := hP
    have hD : va_D A [(t0, .inr (3, [.ref t1, .int (nI (tn_ + 1))])), (t1, .inl (eI g, 96, .inl (fun j => nI ((updN tx tn_ c_) j))))] := hD
    refine lv_aload_n hx hb dX3_add_27 rfl (lv_at hl 0 rfl) ?_
    refine xget F hP inX3_add_X3 0 rfl rfl 1 (by decide) lkX3_add_2 rfl dX3_add_28 ?_
    exact rtI F hP hD hS dX3_add_31 (by first | (exfalso; omega) | exact ⟨rfl, rfl⟩)

theorem inX3_clear_X3 : ∀ w ∈ u_ws RX3 TX3 2, w ∈ wsX3_clear := fun _ h => (List.mem_cons_of_mem _ (List.mem_append_right _ h))
theorem lkX3_clear_1 : Cond.fieldLink RX3 15 "StripInFiveSteps$Text" "size" "I" ∈ wsX3_clear := List.mem_of_getElem? (i := 1) rfl
theorem kX3_clear : Cal yX3_clear wsX3_clear cX3_clear 1 none 0 := ⟨⟨_, rfl⟩, by decide +kernel⟩
set_option maxHeartbeats 4000000 in
set_option maxRecDepth 100000 in
theorem c_X3_clear (l : Launch) (g : EE) (t0 : Nat) (t1 : Nat) (tn_ : Nat)  : CV l yX3_clear wsX3_clear ({ frames := 0, cells := 0, slots := 0, locals := 0 }) g [.ref t0] [(t0, .inr (3, [.ref t1, .int (nI tn_)]))] (fun (wz : va_W) => wz = [(t0, .inr (3, [.ref t1, .int (nI 0)]))]) 0 0 := by
  refine ctV (cc := cX3_clear) (maxL := 1) (ret := none) (by decide) rfl (Nat.le_of_ble_eq_true rfl) ?_
  intro p_ e_ s_ m_ bl_ mt_ cd_ A ls F hnm hP hD hS hl
  obtain ⟨hx, hb, hml, hown, hts, hK, hX, hA, hrt_, hlocks⟩ := id F
  have hl : lv_has ls 1 [(0, .ref t0)] := hl
  refine lv_aload_n hx hb dX3_clear_0 rfl (lv_at hl 0 rfl) ?_
  refine lv_iconst (v := (nI 0)) hx hb dX3_clear_1 (by decide) ?_
  refine xput F hP hD hS inX3_clear_X3 tyX3 tyX3_ok nmX3 0 rfl rfl 1 (by decide) lkX3_clear_1 rfl rfl rfl (Nat.le_of_ble_eq_true rfl) dX3_clear_2 (fun H locs hP hD hS => ?_)
  have hP : va_P (eD g) vwCl [(t0, .inr (3, [.ref t1, .int (nI 0)]))] H := hP
  have hD : va_D A [(t0, .inr (3, [.ref t1, .int (nI 0)]))] := hD
  exact rtV F hP hD hS dX3_clear_5 (rfl)

theorem inX4_letter_X4 : ∀ w ∈ u_ws RX4 TX4 10, w ∈ wsX4_letter := fun _ h => (List.mem_cons_of_mem _ (List.mem_append_left _ (List.mem_append_right _ h)))
theorem lkX4_letter_1 : Cond.fieldLink RX4 43 "StripInFiveSteps" "text" "LStripInFiveSteps$Text;" ∈ wsX4_letter := List.mem_of_getElem? (i := 1) rfl
theorem kX4_letter : Cal yX4_letter wsX4_letter cX4_letter 2 (some .int) 1 := ⟨⟨_, rfl⟩, by decide +kernel⟩
set_option maxHeartbeats 4000000 in
set_option maxRecDepth 100000 in
theorem c_X4_letter (l : Launch) (g : EE) (x0 : Nat) (h0 : Nat) (d0 : Nat) (k0 : Nat) (b0 : Nat) (a0 : Nat) (t0 : Nat) (r0 : Nat) (r1 : Nat) (ik : Nat) (rn : Nat) (t1 : Nat) (tn_ : Nat) (tx : Nat → Nat) (rf : Nat → Int32) (x : Int32) (htn : tn_ ≤ 96) : CI l yX4_letter wsX4_letter ({ frames := 2, cells := 0, slots := 0, locals := 41 }) g [.ref x0, .int x] [(x0, .inr (4, [.ref h0, .ref d0, .ref k0, .int (nI ik), .ref b0, .ref a0, .ref t0, .ref r0, .int (nI rn), .ref r1])), (t0, .inr (3, [.ref t1, .int (nI tn_)])), (t1, .inl (eI g, 96, .inl (fun j => nI (tx j)))), (r1, .inl (eI g, 7, .inl rf))] (fun (rz : Int32) (wz : va_W) => rz = (rsp (if x.toInt < 0 then 4 else if 255 < x.toInt ∨ tn_ = 96 then 6 else 0) (nI (tn_ + 1))) ∧ wz = [(x0, .inr (4, [.ref h0, .ref d0, .ref k0, .int (nI ik), .ref b0, .ref a0, .ref t0, .ref r0, .int (nI rn), .ref r1])), (t0, .inr (3, [.ref t1, .int (nI (if (if x.toInt < 0 then 4 else if 255 < x.toInt ∨ tn_ = 96 then 6 else 0) = 0 then tn_ + 1 else tn_))])), (t1, .inl (eI g, 96, .inl (fun j => nI ((if (if x.toInt < 0 then 4 else if 255 < x.toInt ∨ tn_ = 96 then 6 else 0) = 0 then updN tx tn_ x.toNatClampNeg else tx) j)))), (r1, .inl (eI g, 7, .inl (bump rf (if x.toInt < 0 then 4 else if 255 < x.toInt ∨ tn_ = 96 then 6 else 0))))]) 0 0 := by
  refine ctI (cc := cX4_letter) (maxL := 2) (ret := (some .int)) (by decide) rfl (Nat.le_of_ble_eq_true rfl) ?_
  intro p_ e_ s_ m_ bl_ mt_ cd_ A ls F hnm hP hD hS hl
  obtain ⟨hx, hb, hml, hown, hts, hK, hX, hA, hrt_, hlocks⟩ := id F
  have hl : lv_has ls 2 [(0, .ref x0), (1, .int x)] := hl
  refine lv_iload_n hx hb dX4_letter_0 rfl (lv_at hl 1 rfl) ?_
  refine wge (tgt := 11) hx hb dX4_letter_1 (by decide) (fun c1 => ?_) (fun c1 => ?_)
  · skip
    refine lv_iload_n hx hb dX4_letter_11 rfl (lv_at hl 1 rfl) ?_
    refine lv_sipush (v := (nI 255)) hx hb dX4_letter_12 (by decide) ?_
    refine ygt (tgt := 28) hx hb dX4_letter_15 (by decide) (by omega) (fun c15 => ?_) (fun c15 => ?_)
    · skip
      refine lv_aload_n hx hb dX4_letter_28 rfl (lv_at hl 0 rfl) ?_
      refine lv_bipush (v := (-6)) hx hb dX4_letter_29 (by decide) ?_
      refine cVI (As := [.int (-6)]) (rest := []) F (c_X4_refuse l g x0 h0 d0 k0 b0 a0 t0 r0 r1 ik rn rf (-6) 6 (by decide) (by omega) (by omega)) kX4_refuse rfl gX4_letter_X4_refuse rfl rfl ⟨Nat.le_of_ble_eq_true rfl, Nat.le_of_ble_eq_true rfl⟩ hP hD hS [0, 3] [1, 2] rfl rfl 0 rfl rfl hl.1 rfl rfl (Nat.le_of_ble_eq_true rfl) dX4_letter_31 ⟨Nat.le_of_ble_eq_true rfl, Nat.le_of_ble_eq_true rfl⟩ (fun rz w1 H locs hpo hP hD hS => ?_)
      obtain ⟨rfl, rfl⟩ := hpo
      obtain ⟨hP, hD⟩ := nx (ws' := [(x0, .inr (4, [.ref h0, .ref d0, .ref k0, .int (nI ik), .ref b0, .ref a0, .ref t0, .ref r0, .int (nI rn), .ref r1])), (t0, .inr (3, [.ref t1, .int (nI tn_)])), (t1, .inl (eI g, 96, .inl (fun j => nI (tx j)))), (r1, .inl (eI g, 7, .inl (bump rf 6)))]) hP hD [2, 0, 1, 3] (ndB_ok _ rfl) rfl
      exact rtI F hP hD hS dX4_letter_34 (by rw [show (if x.toInt < 0 then 4 else if 255 < x.toInt ∨ tn_ = 96 then 6 else 0) = 6 from (by first | (exfalso; omega) | ((try simp only [true_and, and_true]); (repeat (first | rw [if_pos (by omega)] | rw [if_neg (by omega)])) <;> rfl))]; first | done | exact ⟨by rfl, by rfl⟩)
    · skip
      refine lv_aload_n hx hb dX4_letter_18 rfl (lv_at hl 0 rfl) ?_
      refine xget F hP inX4_letter_X4 0 rfl rfl 6 (by decide) lkX4_letter_1 rfl dX4_letter_19 ?_
      refine cVI (As := []) (rest := []) F (c_X3_isFull l g t0 t1 tn_ (by omega)) kX3_isFull rfl gX4_letter_X3_isFull rfl rfl ⟨Nat.le_of_ble_eq_true rfl, Nat.le_of_ble_eq_true rfl⟩ hP hD hS [1] [0, 2, 3] rfl rfl 0 rfl rfl hl.1 rfl rfl (Nat.le_of_ble_eq_true rfl) dX4_letter_22 ⟨Nat.le_of_ble_eq_true rfl, Nat.le_of_ble_eq_true rfl⟩ (fun rz w1 H locs hpo hP hD hS => ?_)
      obtain ⟨rfl, rfl⟩ := hpo
      obtain ⟨hP, hD⟩ := nx (ws' := [(x0, .inr (4, [.ref h0, .ref d0, .ref k0, .int (nI ik), .ref b0, .ref a0, .ref t0, .ref r0, .int (nI rn), .ref r1])), (t0, .inr (3, [.ref t1, .int (nI tn_)])), (t1, .inl (eI g, 96, .inl (fun j => nI (tx j)))), (r1, .inl (eI g, 7, .inl rf))]) hP hD [0, 3, 1, 2] (ndB_ok _ rfl) rfl
      refine bqeq (tgt := 35) hx hb dX4_letter_25 (by decide) (fun c25 => ?_) (fun c25 => ?_)
      · skip
        obtain ⟨k, hk_, rfl⟩ := natOf (x := x) (by omega)
        rw [nI_tI hk_] at c1
        rw [nI_tI hk_] at c15
        refine lv_aload_n hx hb dX4_letter_35 rfl (lv_at hl 0 rfl) ?_
        refine xget F hP inX4_letter_X4 0 rfl rfl 6 (by decide) lkX4_letter_1 rfl dX4_letter_36 ?_
        refine lv_iload_n hx hb dX4_letter_39 rfl (lv_at hl 1 rfl) ?_
        refine cVI (As := [.int (nI k)]) (rest := []) F (c_X3_add l g t0 t1 tn_ tx k (by omega)) kX3_add rfl gX4_letter_X3_add rfl rfl ⟨Nat.le_of_ble_eq_true rfl, Nat.le_of_ble_eq_true rfl⟩ hP hD hS [1, 2] [0, 3] rfl rfl 0 rfl rfl hl.1 rfl rfl (Nat.le_of_ble_eq_true rfl) dX4_letter_40 ⟨Nat.le_of_ble_eq_true rfl, Nat.le_of_ble_eq_true rfl⟩ (fun rz w1 H locs hpo hP hD hS => ?_)
        obtain ⟨rfl, rfl⟩ := hpo
        obtain ⟨hP, hD⟩ := nx (ws' := [(x0, .inr (4, [.ref h0, .ref d0, .ref k0, .int (nI ik), .ref b0, .ref a0, .ref t0, .ref r0, .int (nI rn), .ref r1])), (t0, .inr (3, [.ref t1, .int (nI (tn_ + 1))])), (t1, .inl (eI g, 96, .inl (fun j => nI ((updN tx tn_ k) j)))), (r1, .inl (eI g, 7, .inl rf))]) hP hD [0, 2, 3, 1] (ndB_ok _ rfl) rfl
        exact rtI F hP hD hS dX4_letter_43 (by rw [show (if (nI k).toInt < 0 then 4 else if 255 < (nI k).toInt ∨ tn_ = 96 then 6 else 0) = 0 from (by first | (exfalso; omega) | ((try simp only [nI_tI hk_, nI_clamp hk_, true_and, and_true]); (repeat (first | rw [if_pos (by omega)] | rw [if_neg (by omega)])) <;> rfl))]; first | done | exact ⟨by first | ((try simp only [nI_tI hk_, nI_clamp hk_, true_and, and_true, rsp_0, rspL_0, bump_0]) <;> (repeat (first | rw [if_pos (by omega)] | rw [if_neg (by omega)])) <;> rfl) | (exfalso; omega), by first | ((try simp only [nI_tI hk_, nI_clamp hk_, true_and, and_true, rsp_0, rspL_0, bump_0]) <;> (repeat (first | rw [if_pos (by omega)] | rw [if_neg (by omega)])) <;> rfl) | (exfalso; omega)⟩)
      · skip
        refine lv_aload_n hx hb dX4_letter_28 rfl (lv_at hl 0 rfl) ?_
        refine lv_bipush (v := (-6)) hx hb dX4_letter_29 (by decide) ?_
        refine cVI (As := [.int (-6)]) (rest := []) F (c_X4_refuse l g x0 h0 d0 k0 b0 a0 t0 r0 r1 ik rn rf (-6) 6 (by decide) (by omega) (by omega)) kX4_refuse rfl gX4_letter_X4_refuse rfl rfl ⟨Nat.le_of_ble_eq_true rfl, Nat.le_of_ble_eq_true rfl⟩ hP hD hS [0, 3] [1, 2] rfl rfl 0 rfl rfl hl.1 rfl rfl (Nat.le_of_ble_eq_true rfl) dX4_letter_31 ⟨Nat.le_of_ble_eq_true rfl, Nat.le_of_ble_eq_true rfl⟩ (fun rz w1 H locs hpo hP hD hS => ?_)
        obtain ⟨rfl, rfl⟩ := hpo
        obtain ⟨hP, hD⟩ := nx (ws' := [(x0, .inr (4, [.ref h0, .ref d0, .ref k0, .int (nI ik), .ref b0, .ref a0, .ref t0, .ref r0, .int (nI rn), .ref r1])), (t0, .inr (3, [.ref t1, .int (nI tn_)])), (t1, .inl (eI g, 96, .inl (fun j => nI (tx j)))), (r1, .inl (eI g, 7, .inl (bump rf 6)))]) hP hD [2, 0, 1, 3] (ndB_ok _ rfl) rfl
        exact rtI F hP hD hS dX4_letter_34 (by rw [show (if x.toInt < 0 then 4 else if 255 < x.toInt ∨ tn_ = 96 then 6 else 0) = 6 from (by first | (exfalso; omega) | ((try simp only [true_and, and_true]); (repeat (first | rw [if_pos (by omega)] | rw [if_neg (by omega)])) <;> rfl))]; first | done | exact ⟨by rfl, by rfl⟩)
  · skip
    refine lv_aload_n hx hb dX4_letter_4 rfl (lv_at hl 0 rfl) ?_
    refine lv_bipush (v := (-4)) hx hb dX4_letter_5 (by decide) ?_
    refine cVI (As := [.int (-4)]) (rest := []) F (c_X4_refuse l g x0 h0 d0 k0 b0 a0 t0 r0 r1 ik rn rf (-4) 4 (by decide) (by omega) (by omega)) kX4_refuse rfl gX4_letter_X4_refuse rfl rfl ⟨Nat.le_of_ble_eq_true rfl, Nat.le_of_ble_eq_true rfl⟩ hP hD hS [0, 3] [1, 2] rfl rfl 0 rfl rfl hl.1 rfl rfl (Nat.le_of_ble_eq_true rfl) dX4_letter_7 ⟨Nat.le_of_ble_eq_true rfl, Nat.le_of_ble_eq_true rfl⟩ (fun rz w1 H locs hpo hP hD hS => ?_)
    obtain ⟨rfl, rfl⟩ := hpo
    obtain ⟨hP, hD⟩ := nx (ws' := [(x0, .inr (4, [.ref h0, .ref d0, .ref k0, .int (nI ik), .ref b0, .ref a0, .ref t0, .ref r0, .int (nI rn), .ref r1])), (t0, .inr (3, [.ref t1, .int (nI tn_)])), (t1, .inl (eI g, 96, .inl (fun j => nI (tx j)))), (r1, .inl (eI g, 7, .inl (bump rf 4)))]) hP hD [2, 0, 1, 3] (ndB_ok _ rfl) rfl
    exact rtI F hP hD hS dX4_letter_10 (by rw [show (if x.toInt < 0 then 4 else if 255 < x.toInt ∨ tn_ = 96 then 6 else 0) = 4 from (by first | (exfalso; omega) | ((try simp only [true_and, and_true]); (repeat (first | rw [if_pos (by omega)] | rw [if_neg (by omega)])) <;> rfl))]; first | done | exact ⟨by rfl, by rfl⟩)

theorem inX5_letter_X5 : ∀ w ∈ u_ws RX5 TX5 20, w ∈ wsX5_letter := fun _ h => (List.mem_cons_of_mem _ (List.mem_append_right _ h))
theorem lkX5_letter_1 : Cond.fieldLink RX5 183 "StripInFiveStepsModel" "taped" "I" ∈ wsX5_letter := List.mem_of_getElem? (i := 1) rfl
theorem lkX5_letter_2 : Cond.fieldLink RX5 40 "StripInFiveStepsModel" "tape" "[I" ∈ wsX5_letter := List.mem_of_getElem? (i := 2) rfl
theorem kX5_letter : Cal yX5_letter wsX5_letter cX5_letter 2 (some .int) 1 := ⟨⟨_, rfl⟩, by decide +kernel⟩
set_option maxHeartbeats 4000000 in
set_option maxRecDepth 100000 in
theorem c_X5_letter (l : Launch) (g : EE) (m0 : Nat) (m1 : Nat) (m2 : Nat) (m3 : Nat) (m4 : Nat) (m5 : Nat) (m6 : Nat) (m7 : Nat) (m8 : Nat) (m9 : Nat) (m10 : Nat) (m11 : Nat) (m12 : Nat) (m13 : Nat) (m14 : Nat) (kp : Nat) (rn : Nat) (tn_ : Nat) (ia : Nat) (wl : Nat) (si : Nat) (tx : Nat → Nat) (rf : Nat → Int32) (x : Int32) (htn : tn_ ≤ 96) : CI l yX5_letter wsX5_letter ({ frames := 1, cells := 0, slots := 0, locals := 21 }) g [.ref m0, .int x] [(m0, .inr (5, [.ref m1, .ref m2, .ref m3, .int (nI kp), .ref m4, .ref m5, .ref m6, .ref m7, .ref m8, .int (nI rn), .ref m9, .int (nI tn_), .int (nI ia), .int (nI wl), .ref m10, .ref m11, .ref m12, .int (nI si), .ref m13, .ref m14])), (m1, .inl (eI g, 7, .inl rf)), (m9, .inl (eI g, 96, .inl (fun j => nI (tx j))))] (fun (rz : Int32) (wz : va_W) => rz = (rsp (if x.toInt < 0 then 4 else if 255 < x.toInt ∨ tn_ = 96 then 6 else 0) (nI (tn_ + 1))) ∧ wz = [(m0, .inr (5, [.ref m1, .ref m2, .ref m3, .int (nI kp), .ref m4, .ref m5, .ref m6, .ref m7, .ref m8, .int (nI rn), .ref m9, .int (nI (if (if x.toInt < 0 then 4 else if 255 < x.toInt ∨ tn_ = 96 then 6 else 0) = 0 then tn_ + 1 else tn_)), .int (nI ia), .int (nI wl), .ref m10, .ref m11, .ref m12, .int (nI si), .ref m13, .ref m14])), (m1, .inl (eI g, 7, .inl (bump rf (if x.toInt < 0 then 4 else if 255 < x.toInt ∨ tn_ = 96 then 6 else 0)))), (m9, .inl (eI g, 96, .inl (fun j => nI ((if (if x.toInt < 0 then 4 else if 255 < x.toInt ∨ tn_ = 96 then 6 else 0) = 0 then updN tx tn_ x.toNatClampNeg else tx) j))))]) 0 0 := by
  refine ctI (cc := cX5_letter) (maxL := 2) (ret := (some .int)) (by decide) rfl (Nat.le_of_ble_eq_true rfl) ?_
  intro p_ e_ s_ m_ bl_ mt_ cd_ A ls F hnm hP hD hS hl
  obtain ⟨hx, hb, hml, hown, hts, hK, hX, hA, hrt_, hlocks⟩ := id F
  have hl : lv_has ls 2 [(0, .ref m0), (1, .int x)] := hl
  refine lv_iload_n hx hb dX5_letter_0 rfl (lv_at hl 1 rfl) ?_
  refine wge (tgt := 11) hx hb dX5_letter_1 (by decide) (fun c1 => ?_) (fun c1 => ?_)
  · skip
    refine lv_iload_n hx hb dX5_letter_11 rfl (lv_at hl 1 rfl) ?_
    refine lv_sipush (v := (nI 255)) hx hb dX5_letter_12 (by decide) ?_
    refine ygt (tgt := 27) hx hb dX5_letter_15 (by decide) (by omega) (fun c15 => ?_) (fun c15 => ?_)
    · skip
      refine lv_aload_n hx hb dX5_letter_27 rfl (lv_at hl 0 rfl) ?_
      refine lv_bipush (v := (-6)) hx hb dX5_letter_28 (by decide) ?_
      refine cVI (As := [.int (-6)]) (rest := []) F (c_X5_no l g m0 m1 m2 m3 m4 m5 m6 m7 m8 m9 m10 m11 m12 m13 m14 kp rn tn_ ia wl si rf (-6) 6 (by decide) (by omega) (by omega)) kX5_no rfl gX5_letter_X5_no rfl rfl ⟨Nat.le_of_ble_eq_true rfl, Nat.le_of_ble_eq_true rfl⟩ hP hD hS [0, 1] [2] rfl rfl 0 rfl rfl hl.1 rfl rfl (Nat.le_of_ble_eq_true rfl) dX5_letter_30 ⟨Nat.le_of_ble_eq_true rfl, Nat.le_of_ble_eq_true rfl⟩ (fun rz w1 H locs hpo hP hD hS => ?_)
      obtain ⟨rfl, rfl⟩ := hpo
      obtain ⟨hP, hD⟩ := nx (ws' := [(m0, .inr (5, [.ref m1, .ref m2, .ref m3, .int (nI kp), .ref m4, .ref m5, .ref m6, .ref m7, .ref m8, .int (nI rn), .ref m9, .int (nI tn_), .int (nI ia), .int (nI wl), .ref m10, .ref m11, .ref m12, .int (nI si), .ref m13, .ref m14])), (m1, .inl (eI g, 7, .inl (bump rf 6))), (m9, .inl (eI g, 96, .inl (fun j => nI (tx j))))]) hP hD [1, 2, 0] (ndB_ok _ rfl) rfl
      exact rtI F hP hD hS dX5_letter_33 (by rw [show (if x.toInt < 0 then 4 else if 255 < x.toInt ∨ tn_ = 96 then 6 else 0) = 6 from (by first | (exfalso; omega) | ((try simp only [true_and, and_true]); (repeat (first | rw [if_pos (by omega)] | rw [if_neg (by omega)])) <;> rfl))]; first | done | exact ⟨by rfl, by rfl⟩)
    · skip
      refine lv_aload_n hx hb dX5_letter_18 rfl (lv_at hl 0 rfl) ?_
      refine xget F hP inX5_letter_X5 0 rfl rfl 11 (by decide) lkX5_letter_1 rfl dX5_letter_19 ?_
      refine lv_bipush (v := (nI 96)) hx hb dX5_letter_22 (by decide) ?_
      refine xne (tgt := 34) hx hb dX5_letter_24 (by decide) (by omega) (by omega) (fun c24 => ?_) (fun c24 => ?_)
      · skip
        obtain ⟨k, hk_, rfl⟩ := natOf (x := x) (by omega)
        rw [nI_tI hk_] at c1
        rw [nI_tI hk_] at c15
        refine lv_aload_n hx hb dX5_letter_34 rfl (lv_at hl 0 rfl) ?_
        refine xget F hP inX5_letter_X5 0 rfl rfl 10 (by decide) lkX5_letter_2 rfl dX5_letter_35 ?_
        refine lv_aload_n hx hb dX5_letter_38 rfl (lv_at hl 0 rfl) ?_
        refine xget F hP inX5_letter_X5 0 rfl rfl 11 (by decide) lkX5_letter_1 rfl dX5_letter_39 ?_
        refine lv_iload_n hx hb dX5_letter_42 rfl (lv_at hl 1 rfl) ?_
        refine xast F hP hD hS 2 (f' := fun j => nI ((updN tx tn_ k) j)) rfl (by omega) (by omega) (upd_nI tx tn_ k) dX5_letter_43 (fun H locs hP hD hS => ?_)
        have hP : va_P (eD g) vwCl [(m0, .inr (5, [.ref m1, .ref m2, .ref m3, .int (nI kp), .ref m4, .ref m5, .ref m6, .ref m7, .ref m8, .int (nI rn), .ref m9, .int (nI tn_), .int (nI ia), .int (nI wl), .ref m10, .ref m11, .ref m12, .int (nI si), .ref m13, .ref m14])), (m1, .inl (eI g, 7, .inl rf)), (m9, .inl (eI g, 96, .inl (fun j => nI ((updN tx tn_ k) j))))] H := hP
        have hD : va_D A [(m0, .inr (5, [.ref m1, .ref m2, .ref m3, .int (nI kp), .ref m4, .ref m5, .ref m6, .ref m7, .ref m8, .int (nI rn), .ref m9, .int (nI tn_), .int (nI ia), .int (nI wl), .ref m10, .ref m11, .ref m12, .int (nI si), .ref m13, .ref m14])), (m1, .inl (eI g, 7, .inl rf)), (m9, .inl (eI g, 96, .inl (fun j => nI ((updN tx tn_ k) j))))] := hD
        refine lv_aload_n hx hb dX5_letter_44 rfl (lv_at hl 0 rfl) ?_
        refine lv_dup hx hb dX5_letter_45 rfl ?_
        refine xget F hP inX5_letter_X5 0 rfl rfl 11 (by decide) lkX5_letter_1 rfl dX5_letter_46 ?_
        refine lv_iconst (v := (nI 1)) hx hb dX5_letter_49 (by decide) ?_
        refine xadd hx hb dX5_letter_50 ?_
        refine xput F hP hD hS inX5_letter_X5 tyX5 tyX5_ok nmX5 0 rfl rfl 11 (by decide) lkX5_letter_1 rfl rfl rfl (Nat.le_of_ble_eq_true rfl) dX5_letter_51 (fun H locs hP hD hS => ?_)
        have hP : va_P (eD g) vwCl [(m0, .inr (5, [.ref m1, .ref m2, .ref m3, .int (nI kp), .ref m4, .ref m5, .ref m6, .ref m7, .ref m8, .int (nI rn), .ref m9, .int (nI (tn_ + 1)), .int (nI ia), .int (nI wl), .ref m10, .ref m11, .ref m12, .int (nI si), .ref m13, .ref m14])), (m1, .inl (eI g, 7, .inl rf)), (m9, .inl (eI g, 96, .inl (fun j => nI ((updN tx tn_ k) j))))] H := hP
        have hD : va_D A [(m0, .inr (5, [.ref m1, .ref m2, .ref m3, .int (nI kp), .ref m4, .ref m5, .ref m6, .ref m7, .ref m8, .int (nI rn), .ref m9, .int (nI (tn_ + 1)), .int (nI ia), .int (nI wl), .ref m10, .ref m11, .ref m12, .int (nI si), .ref m13, .ref m14])), (m1, .inl (eI g, 7, .inl rf)), (m9, .inl (eI g, 96, .inl (fun j => nI ((updN tx tn_ k) j))))] := hD
        refine lv_aload_n hx hb dX5_letter_54 rfl (lv_at hl 0 rfl) ?_
        refine xget F hP inX5_letter_X5 0 rfl rfl 11 (by decide) lkX5_letter_1 rfl dX5_letter_55 ?_
        exact rtI F hP hD hS dX5_letter_58 (by rw [show (if (nI k).toInt < 0 then 4 else if 255 < (nI k).toInt ∨ tn_ = 96 then 6 else 0) = 0 from (by first | (exfalso; omega) | ((try simp only [nI_tI hk_, nI_clamp hk_, true_and, and_true]); (repeat (first | rw [if_pos (by omega)] | rw [if_neg (by omega)])) <;> rfl))]; first | done | exact ⟨by first | ((try simp only [nI_tI hk_, nI_clamp hk_, true_and, and_true, rsp_0, rspL_0, bump_0]) <;> (repeat (first | rw [if_pos (by omega)] | rw [if_neg (by omega)])) <;> rfl) | (exfalso; omega), by first | ((try simp only [nI_tI hk_, nI_clamp hk_, true_and, and_true, rsp_0, rspL_0, bump_0]) <;> (repeat (first | rw [if_pos (by omega)] | rw [if_neg (by omega)])) <;> rfl) | (exfalso; omega)⟩)
      · skip
        refine lv_aload_n hx hb dX5_letter_27 rfl (lv_at hl 0 rfl) ?_
        refine lv_bipush (v := (-6)) hx hb dX5_letter_28 (by decide) ?_
        refine cVI (As := [.int (-6)]) (rest := []) F (c_X5_no l g m0 m1 m2 m3 m4 m5 m6 m7 m8 m9 m10 m11 m12 m13 m14 kp rn tn_ ia wl si rf (-6) 6 (by decide) (by omega) (by omega)) kX5_no rfl gX5_letter_X5_no rfl rfl ⟨Nat.le_of_ble_eq_true rfl, Nat.le_of_ble_eq_true rfl⟩ hP hD hS [0, 1] [2] rfl rfl 0 rfl rfl hl.1 rfl rfl (Nat.le_of_ble_eq_true rfl) dX5_letter_30 ⟨Nat.le_of_ble_eq_true rfl, Nat.le_of_ble_eq_true rfl⟩ (fun rz w1 H locs hpo hP hD hS => ?_)
        obtain ⟨rfl, rfl⟩ := hpo
        obtain ⟨hP, hD⟩ := nx (ws' := [(m0, .inr (5, [.ref m1, .ref m2, .ref m3, .int (nI kp), .ref m4, .ref m5, .ref m6, .ref m7, .ref m8, .int (nI rn), .ref m9, .int (nI tn_), .int (nI ia), .int (nI wl), .ref m10, .ref m11, .ref m12, .int (nI si), .ref m13, .ref m14])), (m1, .inl (eI g, 7, .inl (bump rf 6))), (m9, .inl (eI g, 96, .inl (fun j => nI (tx j))))]) hP hD [1, 2, 0] (ndB_ok _ rfl) rfl
        exact rtI F hP hD hS dX5_letter_33 (by rw [show (if x.toInt < 0 then 4 else if 255 < x.toInt ∨ tn_ = 96 then 6 else 0) = 6 from (by first | (exfalso; omega) | ((try simp only [true_and, and_true]); (repeat (first | rw [if_pos (by omega)] | rw [if_neg (by omega)])) <;> rfl))]; first | done | exact ⟨by rfl, by rfl⟩)
  · skip
    refine lv_aload_n hx hb dX5_letter_4 rfl (lv_at hl 0 rfl) ?_
    refine lv_bipush (v := (-4)) hx hb dX5_letter_5 (by decide) ?_
    refine cVI (As := [.int (-4)]) (rest := []) F (c_X5_no l g m0 m1 m2 m3 m4 m5 m6 m7 m8 m9 m10 m11 m12 m13 m14 kp rn tn_ ia wl si rf (-4) 4 (by decide) (by omega) (by omega)) kX5_no rfl gX5_letter_X5_no rfl rfl ⟨Nat.le_of_ble_eq_true rfl, Nat.le_of_ble_eq_true rfl⟩ hP hD hS [0, 1] [2] rfl rfl 0 rfl rfl hl.1 rfl rfl (Nat.le_of_ble_eq_true rfl) dX5_letter_7 ⟨Nat.le_of_ble_eq_true rfl, Nat.le_of_ble_eq_true rfl⟩ (fun rz w1 H locs hpo hP hD hS => ?_)
    obtain ⟨rfl, rfl⟩ := hpo
    obtain ⟨hP, hD⟩ := nx (ws' := [(m0, .inr (5, [.ref m1, .ref m2, .ref m3, .int (nI kp), .ref m4, .ref m5, .ref m6, .ref m7, .ref m8, .int (nI rn), .ref m9, .int (nI tn_), .int (nI ia), .int (nI wl), .ref m10, .ref m11, .ref m12, .int (nI si), .ref m13, .ref m14])), (m1, .inl (eI g, 7, .inl (bump rf 4))), (m9, .inl (eI g, 96, .inl (fun j => nI (tx j))))]) hP hD [1, 2, 0] (ndB_ok _ rfl) rfl
    exact rtI F hP hD hS dX5_letter_10 (by rw [show (if x.toInt < 0 then 4 else if 255 < x.toInt ∨ tn_ = 96 then 6 else 0) = 4 from (by first | (exfalso; omega) | ((try simp only [true_and, and_true]); (repeat (first | rw [if_pos (by omega)] | rw [if_neg (by omega)])) <;> rfl))]; first | done | exact ⟨by rfl, by rfl⟩)

theorem inX4_count_X4 : ∀ w ∈ u_ws RX4 TX4 10, w ∈ wsX4_count := fun _ h => (List.mem_cons_of_mem _ (List.mem_append_left _ (List.mem_append_left _ (List.mem_append_right _ h))))
theorem lkX4_count_1 : Cond.fieldLink RX4 10 "StripInFiveSteps" "now" "LStripInFiveSteps$Shed;" ∈ wsX4_count := List.mem_of_getElem? (i := 1) rfl
theorem inX4_count_X0 : ∀ w ∈ u_ws RX0 TX0 5, w ∈ wsX4_count := fun _ h => (List.mem_cons_of_mem _ (List.mem_append_left _ (List.mem_append_right _ h)))
theorem lkX4_count_4 : Cond.fieldLink RX4 129 "StripInFiveSteps$Shed" "tried" "I" ∈ wsX4_count := List.mem_of_getElem? (i := 4) rfl
theorem lkX4_count_5 : Cond.fieldLink RX4 51 "StripInFiveSteps" "rowSize" "I" ∈ wsX4_count := List.mem_of_getElem? (i := 5) rfl
theorem lkX4_count_6 : Cond.fieldLink RX4 43 "StripInFiveSteps" "text" "LStripInFiveSteps$Text;" ∈ wsX4_count := List.mem_of_getElem? (i := 6) rfl
theorem inX4_count_X3 : ∀ w ∈ u_ws RX3 TX3 2, w ∈ wsX4_count := fun _ h => (List.mem_cons_of_mem _ (List.mem_append_right _ h))
theorem lkX4_count_7 : Cond.fieldLink RX4 238 "StripInFiveSteps$Text" "size" "I" ∈ wsX4_count := List.mem_of_getElem? (i := 7) rfl
theorem lkX4_count_3 : Cond.fieldLink RX4 55 "StripInFiveSteps" "refusals" "[I" ∈ wsX4_count := List.mem_of_getElem? (i := 3) rfl
theorem lkX4_count_2 : Cond.fieldLink RX4 93 "StripInFiveSteps$Shed" "numbers" "[I" ∈ wsX4_count := List.mem_of_getElem? (i := 2) rfl
theorem kX4_count : Cal yX4_count wsX4_count cX4_count 2 (some .int) 1 := ⟨⟨_, rfl⟩, by decide +kernel⟩
set_option maxHeartbeats 4000000 in
set_option maxRecDepth 100000 in
theorem c_X4_count (l : Launch) (g : EE) (x0 : Nat) (h0 : Nat) (d0 : Nat) (k0 : Nat) (b0 : Nat) (a0 : Nat) (t0 : Nat) (r0 : Nat) (r1 : Nat) (ik : Nat) (rn : Nat) (h1 : Nat) (h2 : Nat) (W : Nat → Nat) (B : Nat → Nat) (sk : Nat) (ek : Nat) (tr : Nat) (t1 : Nat) (tn_ : Nat) (rf : Nat → Int32) (x : Int32) (hW : ∀ j, W j ≤ 9) (hB : okB B) : CI l yX4_count wsX4_count ({ frames := 2, cells := 0, slots := 0, locals := 46 }) g [.ref x0, .int x] [(x0, .inr (4, [.ref h0, .ref d0, .ref k0, .int (nI ik), .ref b0, .ref a0, .ref t0, .ref r0, .int (nI rn), .ref r1])), (h0, .inr (0, [.ref h1, .ref h2, .int (nI sk), .int (nI ek), .int (nI tr)])), (h1, .inl (eI g, 41, .inl (fun j => nI (W j)))), (h2, .inl (eI g, 5, .inl (fun j => nI (B j)))), (t0, .inr (3, [.ref t1, .int (nI tn_)])), (r1, .inl (eI g, 7, .inl rf))] (fun (rz : Int32) (wz : va_W) => rz = (if x.toInt = 0 then nI (cnS (lpB W)) else if x.toInt = 1 then nI (sg W 40) else if x.toInt = 2 then nI (tr) else if 3 ≤ x.toInt ∧ x.toInt ≤ 7 then nI (B (x.toNatClampNeg - 3)) else if x.toInt = 8 then nI rn else if x.toInt = 9 then nI tn_ else if 11 ≤ x.toInt ∧ x.toInt ≤ 16 then rf (x.toNatClampNeg - 10) else -9) ∧ wz = [(x0, .inr (4, [.ref h0, .ref d0, .ref k0, .int (nI ik), .ref b0, .ref a0, .ref t0, .ref r0, .int (nI rn), .ref r1])), (h0, .inr (0, [.ref h1, .ref h2, .int (nI sk), .int (nI ek), .int (nI tr)])), (h1, .inl (eI g, 41, .inl (fun j => nI (W j)))), (h2, .inl (eI g, 5, .inl (fun j => nI (B j)))), (t0, .inr (3, [.ref t1, .int (nI tn_)])), (r1, .inl (eI g, 7, .inl rf))]) 0 0 := by
  refine ctI (cc := cX4_count) (maxL := 2) (ret := (some .int)) (by decide) rfl (Nat.le_of_ble_eq_true rfl) ?_
  intro p_ e_ s_ m_ bl_ mt_ cd_ A ls F hnm hP hD hS hl
  obtain ⟨hx, hb, hml, hown, hts, hK, hX, hA, hrt_, hlocks⟩ := id F
  have hl : lv_has ls 2 [(0, .ref x0), (1, .int x)] := hl
  obtain ⟨hb0, hb1, hb2, hb3, hb4, hb5⟩ := okB_b hB
  refine lv_iload_n hx hb dX4_count_0 rfl (lv_at hl 1 rfl) ?_
  refine lv_iconst (v := (nI 3)) hx hb dX4_count_1 (by decide) ?_
  refine ylt (tgt := 23) hx hb dX4_count_2 (by decide) (by omega) (fun c2 => ?_) (fun c2 => ?_)
  · skip
    refine lv_iload_n hx hb dX4_count_23 rfl (lv_at hl 1 rfl) ?_
    refine lv_bipush (v := (nI 10)) hx hb dX4_count_24 (by decide) ?_
    refine yle (tgt := 45) hx hb dX4_count_26 (by decide) (by omega) (fun c26 => ?_) (fun c26 => ?_)
    · skip
      refine lv_iload_n hx hb dX4_count_45 rfl (lv_at hl 1 rfl) ?_
      rcases (show x.toInt < 0 ∨ x.toInt = 0 ∨ x.toInt = 1 ∨ x.toInt = 2 ∨ x.toInt = 3 ∨ x.toInt = 4 ∨ x.toInt = 5 ∨ x.toInt = 6 ∨ x.toInt = 7 ∨ x.toInt = 8 ∨ x.toInt = 9 ∨ 9 < x.toInt by omega) with c46 | c46 | c46 | c46 | c46 | c46 | c46 | c46 | c46 | c46 | c46 | c46
      · refine lv_tableOut (tgt := 147) hx hb dX4_count_46 (Or.inl (by omega)) (by decide) ?_
        refine lv_bipush (v := (-9)) hx hb dX4_count_147 (by decide) ?_
        exact rtI F hP hD hS dX4_count_149 (⟨by first | (exfalso; omega) | ((try simp only [true_and, and_true, bitL_lfM, wtS_lp]) <;> (repeat (first | rw [if_pos (by omega)] | rw [if_neg (by omega)])) <;> rfl), rfl⟩)
      · refine lv_tableIn (tgt := 100) hx hb dX4_count_46 (by rw [c46]; decide) (by rw [c46]; decide) (by rw [c46]; rfl) (by decide) ?_
        refine lv_aload_n hx hb dX4_count_100 rfl (lv_at hl 0 rfl) ?_
        refine xget F hP inX4_count_X4 0 rfl rfl 0 (by decide) lkX4_count_1 rfl dX4_count_101 ?_
        refine cVL (As := []) (rest := []) F (c_X0_left l g h0 h1 h2 W B sk ek tr (hW)) kX0_left rfl gX4_count_X0_left rfl rfl ⟨Nat.le_of_ble_eq_true rfl, Nat.le_of_ble_eq_true rfl⟩ hP hD hS [1, 2, 3] [0, 4, 5] rfl rfl 0 rfl rfl hl.1 rfl rfl (Nat.le_of_ble_eq_true rfl) dX4_count_104 ⟨Nat.le_of_ble_eq_true rfl, Nat.le_of_ble_eq_true rfl⟩ (fun rz w1 H locs hpo hP hD hS => ?_)
        obtain ⟨rfl, rfl⟩ := hpo
        obtain ⟨hP, hD⟩ := nx (ws' := [(x0, .inr (4, [.ref h0, .ref d0, .ref k0, .int (nI ik), .ref b0, .ref a0, .ref t0, .ref r0, .int (nI rn), .ref r1])), (h0, .inr (0, [.ref h1, .ref h2, .int (nI sk), .int (nI ek), .int (nI tr)])), (h1, .inl (eI g, 41, .inl (fun j => nI (W j)))), (h2, .inl (eI g, 5, .inl (fun j => nI (B j)))), (t0, .inr (3, [.ref t1, .int (nI tn_)])), (r1, .inl (eI g, 7, .inl rf))]) hP hD [0, 3, 4, 5, 1, 2] (ndB_ok _ rfl) rfl
        refine cSI (As := [.long (lfM W)]) (rest := []) F (c_X4_size l g (lfM W) (inS_lf W)) kX4_size gX4_count_X4_size rfl rfl ⟨Nat.le_of_ble_eq_true rfl, Nat.le_of_ble_eq_true rfl⟩ hP hD hS [] [0, 1, 2, 3, 4, 5] rfl rfl hl.1 rfl rfl (Nat.le_of_ble_eq_true rfl) dX4_count_107 ⟨Nat.le_of_ble_eq_true rfl, Nat.le_of_ble_eq_true rfl⟩ (fun rz w1 H locs hpo hP hD hS => ?_)
        obtain ⟨rfl, rfl⟩ := hpo
        obtain ⟨hP, hD⟩ := nx (ws' := [(x0, .inr (4, [.ref h0, .ref d0, .ref k0, .int (nI ik), .ref b0, .ref a0, .ref t0, .ref r0, .int (nI rn), .ref r1])), (h0, .inr (0, [.ref h1, .ref h2, .int (nI sk), .int (nI ek), .int (nI tr)])), (h1, .inl (eI g, 41, .inl (fun j => nI (W j)))), (h2, .inl (eI g, 5, .inl (fun j => nI (B j)))), (t0, .inr (3, [.ref t1, .int (nI tn_)])), (r1, .inl (eI g, 7, .inl rf))]) hP hD [0, 1, 2, 3, 4, 5] (ndB_ok _ rfl) rfl
        exact rtI F hP hD hS dX4_count_110 (⟨by first | (exfalso; omega) | ((try simp only [true_and, and_true, bitL_lfM, wtS_lp]) <;> (repeat (first | rw [if_pos (by omega)] | rw [if_neg (by omega)])) <;> rfl), rfl⟩)
      · refine lv_tableIn (tgt := 111) hx hb dX4_count_46 (by rw [c46]; decide) (by rw [c46]; decide) (by rw [c46]; rfl) (by decide) ?_
        refine lv_aload_n hx hb dX4_count_111 rfl (lv_at hl 0 rfl) ?_
        refine xget F hP inX4_count_X4 0 rfl rfl 0 (by decide) lkX4_count_1 rfl dX4_count_112 ?_
        refine lv_aload_n hx hb dX4_count_115 rfl (lv_at hl 0 rfl) ?_
        refine xget F hP inX4_count_X4 0 rfl rfl 0 (by decide) lkX4_count_1 rfl dX4_count_116 ?_
        refine cVL (As := []) (rest := [.ref h0]) F (c_X0_left l g h0 h1 h2 W B sk ek tr (hW)) kX0_left rfl gX4_count_X0_left rfl rfl ⟨Nat.le_of_ble_eq_true rfl, Nat.le_of_ble_eq_true rfl⟩ hP hD hS [1, 2, 3] [0, 4, 5] rfl rfl 0 rfl rfl hl.1 rfl rfl (Nat.le_of_ble_eq_true rfl) dX4_count_119 ⟨Nat.le_of_ble_eq_true rfl, Nat.le_of_ble_eq_true rfl⟩ (fun rz w1 H locs hpo hP hD hS => ?_)
        obtain ⟨rfl, rfl⟩ := hpo
        obtain ⟨hP, hD⟩ := nx (ws' := [(x0, .inr (4, [.ref h0, .ref d0, .ref k0, .int (nI ik), .ref b0, .ref a0, .ref t0, .ref r0, .int (nI rn), .ref r1])), (h0, .inr (0, [.ref h1, .ref h2, .int (nI sk), .int (nI ek), .int (nI tr)])), (h1, .inl (eI g, 41, .inl (fun j => nI (W j)))), (h2, .inl (eI g, 5, .inl (fun j => nI (B j)))), (t0, .inr (3, [.ref t1, .int (nI tn_)])), (r1, .inl (eI g, 7, .inl rf))]) hP hD [0, 3, 4, 5, 1, 2] (ndB_ok _ rfl) rfl
        refine cVI (As := [.long (lfM W)]) (rest := []) F (c_X0_weightOf l g h0 h1 h2 W B sk ek tr (lfM W) ) kX0_weightOf rfl gX4_count_X0_weightOf rfl rfl ⟨Nat.le_of_ble_eq_true rfl, Nat.le_of_ble_eq_true rfl⟩ hP hD hS [1, 2, 3] [0, 4, 5] rfl rfl 0 rfl rfl hl.1 rfl rfl (Nat.le_of_ble_eq_true rfl) dX4_count_122 ⟨Nat.le_of_ble_eq_true rfl, Nat.le_of_ble_eq_true rfl⟩ (fun rz w1 H locs hpo hP hD hS => ?_)
        obtain ⟨rfl, rfl⟩ := hpo
        obtain ⟨hP, hD⟩ := nx (ws' := [(x0, .inr (4, [.ref h0, .ref d0, .ref k0, .int (nI ik), .ref b0, .ref a0, .ref t0, .ref r0, .int (nI rn), .ref r1])), (h0, .inr (0, [.ref h1, .ref h2, .int (nI sk), .int (nI ek), .int (nI tr)])), (h1, .inl (eI g, 41, .inl (fun j => nI (W j)))), (h2, .inl (eI g, 5, .inl (fun j => nI (B j)))), (t0, .inr (3, [.ref t1, .int (nI tn_)])), (r1, .inl (eI g, 7, .inl rf))]) hP hD [0, 3, 4, 5, 1, 2] (ndB_ok _ rfl) rfl
        exact rtI F hP hD hS dX4_count_125 (⟨by first | (exfalso; omega) | ((try simp only [true_and, and_true, bitL_lfM, wtS_lp]) <;> (repeat (first | rw [if_pos (by omega)] | rw [if_neg (by omega)])) <;> rfl), rfl⟩)
      · refine lv_tableIn (tgt := 126) hx hb dX4_count_46 (by rw [c46]; decide) (by rw [c46]; decide) (by rw [c46]; rfl) (by decide) ?_
        refine lv_aload_n hx hb dX4_count_126 rfl (lv_at hl 0 rfl) ?_
        refine xget F hP inX4_count_X4 0 rfl rfl 0 (by decide) lkX4_count_1 rfl dX4_count_127 ?_
        refine xget F hP inX4_count_X0 1 rfl rfl 4 (by decide) lkX4_count_4 rfl dX4_count_130 ?_
        exact rtI F hP hD hS dX4_count_133 (⟨by first | (exfalso; omega) | ((try simp only [true_and, and_true, bitL_lfM, wtS_lp]) <;> (repeat (first | rw [if_pos (by omega)] | rw [if_neg (by omega)])) <;> rfl), rfl⟩)
      · refine lv_tableIn (tgt := 147) hx hb dX4_count_46 (by rw [c46]; decide) (by rw [c46]; decide) (by rw [c46]; rfl) (by decide) ?_
        refine lv_bipush (v := (-9)) hx hb dX4_count_147 (by decide) ?_
        exact rtI F hP hD hS dX4_count_149 (⟨by first | (exfalso; omega) | ((try simp only [true_and, and_true, bitL_lfM, wtS_lp]) <;> (repeat (first | rw [if_pos (by omega)] | rw [if_neg (by omega)])) <;> rfl), rfl⟩)
      · refine lv_tableIn (tgt := 147) hx hb dX4_count_46 (by rw [c46]; decide) (by rw [c46]; decide) (by rw [c46]; rfl) (by decide) ?_
        refine lv_bipush (v := (-9)) hx hb dX4_count_147 (by decide) ?_
        exact rtI F hP hD hS dX4_count_149 (⟨by first | (exfalso; omega) | ((try simp only [true_and, and_true, bitL_lfM, wtS_lp]) <;> (repeat (first | rw [if_pos (by omega)] | rw [if_neg (by omega)])) <;> rfl), rfl⟩)
      · refine lv_tableIn (tgt := 147) hx hb dX4_count_46 (by rw [c46]; decide) (by rw [c46]; decide) (by rw [c46]; rfl) (by decide) ?_
        refine lv_bipush (v := (-9)) hx hb dX4_count_147 (by decide) ?_
        exact rtI F hP hD hS dX4_count_149 (⟨by first | (exfalso; omega) | ((try simp only [true_and, and_true, bitL_lfM, wtS_lp]) <;> (repeat (first | rw [if_pos (by omega)] | rw [if_neg (by omega)])) <;> rfl), rfl⟩)
      · refine lv_tableIn (tgt := 147) hx hb dX4_count_46 (by rw [c46]; decide) (by rw [c46]; decide) (by rw [c46]; rfl) (by decide) ?_
        refine lv_bipush (v := (-9)) hx hb dX4_count_147 (by decide) ?_
        exact rtI F hP hD hS dX4_count_149 (⟨by first | (exfalso; omega) | ((try simp only [true_and, and_true, bitL_lfM, wtS_lp]) <;> (repeat (first | rw [if_pos (by omega)] | rw [if_neg (by omega)])) <;> rfl), rfl⟩)
      · refine lv_tableIn (tgt := 147) hx hb dX4_count_46 (by rw [c46]; decide) (by rw [c46]; decide) (by rw [c46]; rfl) (by decide) ?_
        refine lv_bipush (v := (-9)) hx hb dX4_count_147 (by decide) ?_
        exact rtI F hP hD hS dX4_count_149 (⟨by first | (exfalso; omega) | ((try simp only [true_and, and_true, bitL_lfM, wtS_lp]) <;> (repeat (first | rw [if_pos (by omega)] | rw [if_neg (by omega)])) <;> rfl), rfl⟩)
      · refine lv_tableIn (tgt := 134) hx hb dX4_count_46 (by rw [c46]; decide) (by rw [c46]; decide) (by rw [c46]; rfl) (by decide) ?_
        refine lv_aload_n hx hb dX4_count_134 rfl (lv_at hl 0 rfl) ?_
        refine xget F hP inX4_count_X4 0 rfl rfl 8 (by decide) lkX4_count_5 rfl dX4_count_135 ?_
        exact rtI F hP hD hS dX4_count_138 (⟨by first | (exfalso; omega) | ((try simp only [true_and, and_true, bitL_lfM, wtS_lp]) <;> (repeat (first | rw [if_pos (by omega)] | rw [if_neg (by omega)])) <;> rfl), rfl⟩)
      · refine lv_tableIn (tgt := 139) hx hb dX4_count_46 (by rw [c46]; decide) (by rw [c46]; decide) (by rw [c46]; rfl) (by decide) ?_
        refine lv_aload_n hx hb dX4_count_139 rfl (lv_at hl 0 rfl) ?_
        refine xget F hP inX4_count_X4 0 rfl rfl 6 (by decide) lkX4_count_6 rfl dX4_count_140 ?_
        refine xget F hP inX4_count_X3 4 rfl rfl 1 (by decide) lkX4_count_7 rfl dX4_count_143 ?_
        exact rtI F hP hD hS dX4_count_146 (⟨by first | (exfalso; omega) | ((try simp only [true_and, and_true, bitL_lfM, wtS_lp]) <;> (repeat (first | rw [if_pos (by omega)] | rw [if_neg (by omega)])) <;> rfl), rfl⟩)
      · refine lv_tableOut (tgt := 147) hx hb dX4_count_46 (Or.inr (by omega)) (by decide) ?_
        refine lv_bipush (v := (-9)) hx hb dX4_count_147 (by decide) ?_
        exact rtI F hP hD hS dX4_count_149 (⟨by first | (exfalso; omega) | ((try simp only [true_and, and_true, bitL_lfM, wtS_lp]) <;> (repeat (first | rw [if_pos (by omega)] | rw [if_neg (by omega)])) <;> rfl), rfl⟩)
    · skip
      refine lv_iload_n hx hb dX4_count_29 rfl (lv_at hl 1 rfl) ?_
      refine lv_bipush (v := (nI 17)) hx hb dX4_count_30 (by decide) ?_
      refine yge (tgt := 45) hx hb dX4_count_32 (by decide) (by omega) (fun c32 => ?_) (fun c32 => ?_)
      · skip
        refine lv_iload_n hx hb dX4_count_45 rfl (lv_at hl 1 rfl) ?_
        rcases (show x.toInt < 0 ∨ x.toInt = 0 ∨ x.toInt = 1 ∨ x.toInt = 2 ∨ x.toInt = 3 ∨ x.toInt = 4 ∨ x.toInt = 5 ∨ x.toInt = 6 ∨ x.toInt = 7 ∨ x.toInt = 8 ∨ x.toInt = 9 ∨ 9 < x.toInt by omega) with c46 | c46 | c46 | c46 | c46 | c46 | c46 | c46 | c46 | c46 | c46 | c46
        · refine lv_tableOut (tgt := 147) hx hb dX4_count_46 (Or.inl (by omega)) (by decide) ?_
          refine lv_bipush (v := (-9)) hx hb dX4_count_147 (by decide) ?_
          exact rtI F hP hD hS dX4_count_149 (⟨by first | (exfalso; omega) | ((try simp only [true_and, and_true, bitL_lfM, wtS_lp]) <;> (repeat (first | rw [if_pos (by omega)] | rw [if_neg (by omega)])) <;> rfl), rfl⟩)
        · refine lv_tableIn (tgt := 100) hx hb dX4_count_46 (by rw [c46]; decide) (by rw [c46]; decide) (by rw [c46]; rfl) (by decide) ?_
          refine lv_aload_n hx hb dX4_count_100 rfl (lv_at hl 0 rfl) ?_
          refine xget F hP inX4_count_X4 0 rfl rfl 0 (by decide) lkX4_count_1 rfl dX4_count_101 ?_
          refine cVL (As := []) (rest := []) F (c_X0_left l g h0 h1 h2 W B sk ek tr (hW)) kX0_left rfl gX4_count_X0_left rfl rfl ⟨Nat.le_of_ble_eq_true rfl, Nat.le_of_ble_eq_true rfl⟩ hP hD hS [1, 2, 3] [0, 4, 5] rfl rfl 0 rfl rfl hl.1 rfl rfl (Nat.le_of_ble_eq_true rfl) dX4_count_104 ⟨Nat.le_of_ble_eq_true rfl, Nat.le_of_ble_eq_true rfl⟩ (fun rz w1 H locs hpo hP hD hS => ?_)
          obtain ⟨rfl, rfl⟩ := hpo
          obtain ⟨hP, hD⟩ := nx (ws' := [(x0, .inr (4, [.ref h0, .ref d0, .ref k0, .int (nI ik), .ref b0, .ref a0, .ref t0, .ref r0, .int (nI rn), .ref r1])), (h0, .inr (0, [.ref h1, .ref h2, .int (nI sk), .int (nI ek), .int (nI tr)])), (h1, .inl (eI g, 41, .inl (fun j => nI (W j)))), (h2, .inl (eI g, 5, .inl (fun j => nI (B j)))), (t0, .inr (3, [.ref t1, .int (nI tn_)])), (r1, .inl (eI g, 7, .inl rf))]) hP hD [0, 3, 4, 5, 1, 2] (ndB_ok _ rfl) rfl
          refine cSI (As := [.long (lfM W)]) (rest := []) F (c_X4_size l g (lfM W) (inS_lf W)) kX4_size gX4_count_X4_size rfl rfl ⟨Nat.le_of_ble_eq_true rfl, Nat.le_of_ble_eq_true rfl⟩ hP hD hS [] [0, 1, 2, 3, 4, 5] rfl rfl hl.1 rfl rfl (Nat.le_of_ble_eq_true rfl) dX4_count_107 ⟨Nat.le_of_ble_eq_true rfl, Nat.le_of_ble_eq_true rfl⟩ (fun rz w1 H locs hpo hP hD hS => ?_)
          obtain ⟨rfl, rfl⟩ := hpo
          obtain ⟨hP, hD⟩ := nx (ws' := [(x0, .inr (4, [.ref h0, .ref d0, .ref k0, .int (nI ik), .ref b0, .ref a0, .ref t0, .ref r0, .int (nI rn), .ref r1])), (h0, .inr (0, [.ref h1, .ref h2, .int (nI sk), .int (nI ek), .int (nI tr)])), (h1, .inl (eI g, 41, .inl (fun j => nI (W j)))), (h2, .inl (eI g, 5, .inl (fun j => nI (B j)))), (t0, .inr (3, [.ref t1, .int (nI tn_)])), (r1, .inl (eI g, 7, .inl rf))]) hP hD [0, 1, 2, 3, 4, 5] (ndB_ok _ rfl) rfl
          exact rtI F hP hD hS dX4_count_110 (⟨by first | (exfalso; omega) | ((try simp only [true_and, and_true, bitL_lfM, wtS_lp]) <;> (repeat (first | rw [if_pos (by omega)] | rw [if_neg (by omega)])) <;> rfl), rfl⟩)
        · refine lv_tableIn (tgt := 111) hx hb dX4_count_46 (by rw [c46]; decide) (by rw [c46]; decide) (by rw [c46]; rfl) (by decide) ?_
          refine lv_aload_n hx hb dX4_count_111 rfl (lv_at hl 0 rfl) ?_
          refine xget F hP inX4_count_X4 0 rfl rfl 0 (by decide) lkX4_count_1 rfl dX4_count_112 ?_
          refine lv_aload_n hx hb dX4_count_115 rfl (lv_at hl 0 rfl) ?_
          refine xget F hP inX4_count_X4 0 rfl rfl 0 (by decide) lkX4_count_1 rfl dX4_count_116 ?_
          refine cVL (As := []) (rest := [.ref h0]) F (c_X0_left l g h0 h1 h2 W B sk ek tr (hW)) kX0_left rfl gX4_count_X0_left rfl rfl ⟨Nat.le_of_ble_eq_true rfl, Nat.le_of_ble_eq_true rfl⟩ hP hD hS [1, 2, 3] [0, 4, 5] rfl rfl 0 rfl rfl hl.1 rfl rfl (Nat.le_of_ble_eq_true rfl) dX4_count_119 ⟨Nat.le_of_ble_eq_true rfl, Nat.le_of_ble_eq_true rfl⟩ (fun rz w1 H locs hpo hP hD hS => ?_)
          obtain ⟨rfl, rfl⟩ := hpo
          obtain ⟨hP, hD⟩ := nx (ws' := [(x0, .inr (4, [.ref h0, .ref d0, .ref k0, .int (nI ik), .ref b0, .ref a0, .ref t0, .ref r0, .int (nI rn), .ref r1])), (h0, .inr (0, [.ref h1, .ref h2, .int (nI sk), .int (nI ek), .int (nI tr)])), (h1, .inl (eI g, 41, .inl (fun j => nI (W j)))), (h2, .inl (eI g, 5, .inl (fun j => nI (B j)))), (t0, .inr (3, [.ref t1, .int (nI tn_)])), (r1, .inl (eI g, 7, .inl rf))]) hP hD [0, 3, 4, 5, 1, 2] (ndB_ok _ rfl) rfl
          refine cVI (As := [.long (lfM W)]) (rest := []) F (c_X0_weightOf l g h0 h1 h2 W B sk ek tr (lfM W) ) kX0_weightOf rfl gX4_count_X0_weightOf rfl rfl ⟨Nat.le_of_ble_eq_true rfl, Nat.le_of_ble_eq_true rfl⟩ hP hD hS [1, 2, 3] [0, 4, 5] rfl rfl 0 rfl rfl hl.1 rfl rfl (Nat.le_of_ble_eq_true rfl) dX4_count_122 ⟨Nat.le_of_ble_eq_true rfl, Nat.le_of_ble_eq_true rfl⟩ (fun rz w1 H locs hpo hP hD hS => ?_)
          obtain ⟨rfl, rfl⟩ := hpo
          obtain ⟨hP, hD⟩ := nx (ws' := [(x0, .inr (4, [.ref h0, .ref d0, .ref k0, .int (nI ik), .ref b0, .ref a0, .ref t0, .ref r0, .int (nI rn), .ref r1])), (h0, .inr (0, [.ref h1, .ref h2, .int (nI sk), .int (nI ek), .int (nI tr)])), (h1, .inl (eI g, 41, .inl (fun j => nI (W j)))), (h2, .inl (eI g, 5, .inl (fun j => nI (B j)))), (t0, .inr (3, [.ref t1, .int (nI tn_)])), (r1, .inl (eI g, 7, .inl rf))]) hP hD [0, 3, 4, 5, 1, 2] (ndB_ok _ rfl) rfl
          exact rtI F hP hD hS dX4_count_125 (⟨by first | (exfalso; omega) | ((try simp only [true_and, and_true, bitL_lfM, wtS_lp]) <;> (repeat (first | rw [if_pos (by omega)] | rw [if_neg (by omega)])) <;> rfl), rfl⟩)
        · refine lv_tableIn (tgt := 126) hx hb dX4_count_46 (by rw [c46]; decide) (by rw [c46]; decide) (by rw [c46]; rfl) (by decide) ?_
          refine lv_aload_n hx hb dX4_count_126 rfl (lv_at hl 0 rfl) ?_
          refine xget F hP inX4_count_X4 0 rfl rfl 0 (by decide) lkX4_count_1 rfl dX4_count_127 ?_
          refine xget F hP inX4_count_X0 1 rfl rfl 4 (by decide) lkX4_count_4 rfl dX4_count_130 ?_
          exact rtI F hP hD hS dX4_count_133 (⟨by first | (exfalso; omega) | ((try simp only [true_and, and_true, bitL_lfM, wtS_lp]) <;> (repeat (first | rw [if_pos (by omega)] | rw [if_neg (by omega)])) <;> rfl), rfl⟩)
        · refine lv_tableIn (tgt := 147) hx hb dX4_count_46 (by rw [c46]; decide) (by rw [c46]; decide) (by rw [c46]; rfl) (by decide) ?_
          refine lv_bipush (v := (-9)) hx hb dX4_count_147 (by decide) ?_
          exact rtI F hP hD hS dX4_count_149 (⟨by first | (exfalso; omega) | ((try simp only [true_and, and_true, bitL_lfM, wtS_lp]) <;> (repeat (first | rw [if_pos (by omega)] | rw [if_neg (by omega)])) <;> rfl), rfl⟩)
        · refine lv_tableIn (tgt := 147) hx hb dX4_count_46 (by rw [c46]; decide) (by rw [c46]; decide) (by rw [c46]; rfl) (by decide) ?_
          refine lv_bipush (v := (-9)) hx hb dX4_count_147 (by decide) ?_
          exact rtI F hP hD hS dX4_count_149 (⟨by first | (exfalso; omega) | ((try simp only [true_and, and_true, bitL_lfM, wtS_lp]) <;> (repeat (first | rw [if_pos (by omega)] | rw [if_neg (by omega)])) <;> rfl), rfl⟩)
        · refine lv_tableIn (tgt := 147) hx hb dX4_count_46 (by rw [c46]; decide) (by rw [c46]; decide) (by rw [c46]; rfl) (by decide) ?_
          refine lv_bipush (v := (-9)) hx hb dX4_count_147 (by decide) ?_
          exact rtI F hP hD hS dX4_count_149 (⟨by first | (exfalso; omega) | ((try simp only [true_and, and_true, bitL_lfM, wtS_lp]) <;> (repeat (first | rw [if_pos (by omega)] | rw [if_neg (by omega)])) <;> rfl), rfl⟩)
        · refine lv_tableIn (tgt := 147) hx hb dX4_count_46 (by rw [c46]; decide) (by rw [c46]; decide) (by rw [c46]; rfl) (by decide) ?_
          refine lv_bipush (v := (-9)) hx hb dX4_count_147 (by decide) ?_
          exact rtI F hP hD hS dX4_count_149 (⟨by first | (exfalso; omega) | ((try simp only [true_and, and_true, bitL_lfM, wtS_lp]) <;> (repeat (first | rw [if_pos (by omega)] | rw [if_neg (by omega)])) <;> rfl), rfl⟩)
        · refine lv_tableIn (tgt := 147) hx hb dX4_count_46 (by rw [c46]; decide) (by rw [c46]; decide) (by rw [c46]; rfl) (by decide) ?_
          refine lv_bipush (v := (-9)) hx hb dX4_count_147 (by decide) ?_
          exact rtI F hP hD hS dX4_count_149 (⟨by first | (exfalso; omega) | ((try simp only [true_and, and_true, bitL_lfM, wtS_lp]) <;> (repeat (first | rw [if_pos (by omega)] | rw [if_neg (by omega)])) <;> rfl), rfl⟩)
        · refine lv_tableIn (tgt := 134) hx hb dX4_count_46 (by rw [c46]; decide) (by rw [c46]; decide) (by rw [c46]; rfl) (by decide) ?_
          refine lv_aload_n hx hb dX4_count_134 rfl (lv_at hl 0 rfl) ?_
          refine xget F hP inX4_count_X4 0 rfl rfl 8 (by decide) lkX4_count_5 rfl dX4_count_135 ?_
          exact rtI F hP hD hS dX4_count_138 (⟨by first | (exfalso; omega) | ((try simp only [true_and, and_true, bitL_lfM, wtS_lp]) <;> (repeat (first | rw [if_pos (by omega)] | rw [if_neg (by omega)])) <;> rfl), rfl⟩)
        · refine lv_tableIn (tgt := 139) hx hb dX4_count_46 (by rw [c46]; decide) (by rw [c46]; decide) (by rw [c46]; rfl) (by decide) ?_
          refine lv_aload_n hx hb dX4_count_139 rfl (lv_at hl 0 rfl) ?_
          refine xget F hP inX4_count_X4 0 rfl rfl 6 (by decide) lkX4_count_6 rfl dX4_count_140 ?_
          refine xget F hP inX4_count_X3 4 rfl rfl 1 (by decide) lkX4_count_7 rfl dX4_count_143 ?_
          exact rtI F hP hD hS dX4_count_146 (⟨by first | (exfalso; omega) | ((try simp only [true_and, and_true, bitL_lfM, wtS_lp]) <;> (repeat (first | rw [if_pos (by omega)] | rw [if_neg (by omega)])) <;> rfl), rfl⟩)
        · refine lv_tableOut (tgt := 147) hx hb dX4_count_46 (Or.inr (by omega)) (by decide) ?_
          refine lv_bipush (v := (-9)) hx hb dX4_count_147 (by decide) ?_
          exact rtI F hP hD hS dX4_count_149 (⟨by first | (exfalso; omega) | ((try simp only [true_and, and_true, bitL_lfM, wtS_lp]) <;> (repeat (first | rw [if_pos (by omega)] | rw [if_neg (by omega)])) <;> rfl), rfl⟩)
      · skip
        refine lv_aload_n hx hb dX4_count_35 rfl (lv_at hl 0 rfl) ?_
        refine xget F hP inX4_count_X4 0 rfl rfl 9 (by decide) lkX4_count_3 rfl dX4_count_36 ?_
        obtain ⟨k, hk_, rfl⟩ := natOf (x := x) (by omega)
        try rw [nI_tI hk_] at c2
        try rw [nI_tI hk_] at c8
        try rw [nI_tI hk_] at c26
        try rw [nI_tI hk_] at c32
        refine lv_iload_n hx hb dX4_count_39 rfl (lv_at hl 1 rfl) ?_
        refine lv_bipush (v := (nI 10)) hx hb dX4_count_40 (by decide) ?_
        refine xsub hx hb (by omega) dX4_count_42 ?_
        refine xald F hP 5 (v := (rf (k - 10))) rfl (by omega) (by omega) rfl dX4_count_43 ?_
        exact rtI F hP hD hS dX4_count_44 (⟨by first | (exfalso; omega) | ((try simp only [nI_tI hk_, nI_clamp hk_, true_and, and_true, bitL_lfM, wtS_lp]) <;> (repeat (first | rw [if_pos (by omega)] | rw [if_neg (by omega)])) <;> rfl), rfl⟩)
  · skip
    refine lv_iload_n hx hb dX4_count_5 rfl (lv_at hl 1 rfl) ?_
    refine lv_bipush (v := (nI 8)) hx hb dX4_count_6 (by decide) ?_
    refine yge (tgt := 23) hx hb dX4_count_8 (by decide) (by omega) (fun c8 => ?_) (fun c8 => ?_)
    · skip
      refine lv_iload_n hx hb dX4_count_23 rfl (lv_at hl 1 rfl) ?_
      refine lv_bipush (v := (nI 10)) hx hb dX4_count_24 (by decide) ?_
      refine yle (tgt := 45) hx hb dX4_count_26 (by decide) (by omega) (fun c26 => ?_) (fun c26 => ?_)
      · skip
        refine lv_iload_n hx hb dX4_count_45 rfl (lv_at hl 1 rfl) ?_
        rcases (show x.toInt < 0 ∨ x.toInt = 0 ∨ x.toInt = 1 ∨ x.toInt = 2 ∨ x.toInt = 3 ∨ x.toInt = 4 ∨ x.toInt = 5 ∨ x.toInt = 6 ∨ x.toInt = 7 ∨ x.toInt = 8 ∨ x.toInt = 9 ∨ 9 < x.toInt by omega) with c46 | c46 | c46 | c46 | c46 | c46 | c46 | c46 | c46 | c46 | c46 | c46
        · refine lv_tableOut (tgt := 147) hx hb dX4_count_46 (Or.inl (by omega)) (by decide) ?_
          refine lv_bipush (v := (-9)) hx hb dX4_count_147 (by decide) ?_
          exact rtI F hP hD hS dX4_count_149 (⟨by first | (exfalso; omega) | ((try simp only [true_and, and_true, bitL_lfM, wtS_lp]) <;> (repeat (first | rw [if_pos (by omega)] | rw [if_neg (by omega)])) <;> rfl), rfl⟩)
        · refine lv_tableIn (tgt := 100) hx hb dX4_count_46 (by rw [c46]; decide) (by rw [c46]; decide) (by rw [c46]; rfl) (by decide) ?_
          refine lv_aload_n hx hb dX4_count_100 rfl (lv_at hl 0 rfl) ?_
          refine xget F hP inX4_count_X4 0 rfl rfl 0 (by decide) lkX4_count_1 rfl dX4_count_101 ?_
          refine cVL (As := []) (rest := []) F (c_X0_left l g h0 h1 h2 W B sk ek tr (hW)) kX0_left rfl gX4_count_X0_left rfl rfl ⟨Nat.le_of_ble_eq_true rfl, Nat.le_of_ble_eq_true rfl⟩ hP hD hS [1, 2, 3] [0, 4, 5] rfl rfl 0 rfl rfl hl.1 rfl rfl (Nat.le_of_ble_eq_true rfl) dX4_count_104 ⟨Nat.le_of_ble_eq_true rfl, Nat.le_of_ble_eq_true rfl⟩ (fun rz w1 H locs hpo hP hD hS => ?_)
          obtain ⟨rfl, rfl⟩ := hpo
          obtain ⟨hP, hD⟩ := nx (ws' := [(x0, .inr (4, [.ref h0, .ref d0, .ref k0, .int (nI ik), .ref b0, .ref a0, .ref t0, .ref r0, .int (nI rn), .ref r1])), (h0, .inr (0, [.ref h1, .ref h2, .int (nI sk), .int (nI ek), .int (nI tr)])), (h1, .inl (eI g, 41, .inl (fun j => nI (W j)))), (h2, .inl (eI g, 5, .inl (fun j => nI (B j)))), (t0, .inr (3, [.ref t1, .int (nI tn_)])), (r1, .inl (eI g, 7, .inl rf))]) hP hD [0, 3, 4, 5, 1, 2] (ndB_ok _ rfl) rfl
          refine cSI (As := [.long (lfM W)]) (rest := []) F (c_X4_size l g (lfM W) (inS_lf W)) kX4_size gX4_count_X4_size rfl rfl ⟨Nat.le_of_ble_eq_true rfl, Nat.le_of_ble_eq_true rfl⟩ hP hD hS [] [0, 1, 2, 3, 4, 5] rfl rfl hl.1 rfl rfl (Nat.le_of_ble_eq_true rfl) dX4_count_107 ⟨Nat.le_of_ble_eq_true rfl, Nat.le_of_ble_eq_true rfl⟩ (fun rz w1 H locs hpo hP hD hS => ?_)
          obtain ⟨rfl, rfl⟩ := hpo
          obtain ⟨hP, hD⟩ := nx (ws' := [(x0, .inr (4, [.ref h0, .ref d0, .ref k0, .int (nI ik), .ref b0, .ref a0, .ref t0, .ref r0, .int (nI rn), .ref r1])), (h0, .inr (0, [.ref h1, .ref h2, .int (nI sk), .int (nI ek), .int (nI tr)])), (h1, .inl (eI g, 41, .inl (fun j => nI (W j)))), (h2, .inl (eI g, 5, .inl (fun j => nI (B j)))), (t0, .inr (3, [.ref t1, .int (nI tn_)])), (r1, .inl (eI g, 7, .inl rf))]) hP hD [0, 1, 2, 3, 4, 5] (ndB_ok _ rfl) rfl
          exact rtI F hP hD hS dX4_count_110 (⟨by first | (exfalso; omega) | ((try simp only [true_and, and_true, bitL_lfM, wtS_lp]) <;> (repeat (first | rw [if_pos (by omega)] | rw [if_neg (by omega)])) <;> rfl), rfl⟩)
        · refine lv_tableIn (tgt := 111) hx hb dX4_count_46 (by rw [c46]; decide) (by rw [c46]; decide) (by rw [c46]; rfl) (by decide) ?_
          refine lv_aload_n hx hb dX4_count_111 rfl (lv_at hl 0 rfl) ?_
          refine xget F hP inX4_count_X4 0 rfl rfl 0 (by decide) lkX4_count_1 rfl dX4_count_112 ?_
          refine lv_aload_n hx hb dX4_count_115 rfl (lv_at hl 0 rfl) ?_
          refine xget F hP inX4_count_X4 0 rfl rfl 0 (by decide) lkX4_count_1 rfl dX4_count_116 ?_
          refine cVL (As := []) (rest := [.ref h0]) F (c_X0_left l g h0 h1 h2 W B sk ek tr (hW)) kX0_left rfl gX4_count_X0_left rfl rfl ⟨Nat.le_of_ble_eq_true rfl, Nat.le_of_ble_eq_true rfl⟩ hP hD hS [1, 2, 3] [0, 4, 5] rfl rfl 0 rfl rfl hl.1 rfl rfl (Nat.le_of_ble_eq_true rfl) dX4_count_119 ⟨Nat.le_of_ble_eq_true rfl, Nat.le_of_ble_eq_true rfl⟩ (fun rz w1 H locs hpo hP hD hS => ?_)
          obtain ⟨rfl, rfl⟩ := hpo
          obtain ⟨hP, hD⟩ := nx (ws' := [(x0, .inr (4, [.ref h0, .ref d0, .ref k0, .int (nI ik), .ref b0, .ref a0, .ref t0, .ref r0, .int (nI rn), .ref r1])), (h0, .inr (0, [.ref h1, .ref h2, .int (nI sk), .int (nI ek), .int (nI tr)])), (h1, .inl (eI g, 41, .inl (fun j => nI (W j)))), (h2, .inl (eI g, 5, .inl (fun j => nI (B j)))), (t0, .inr (3, [.ref t1, .int (nI tn_)])), (r1, .inl (eI g, 7, .inl rf))]) hP hD [0, 3, 4, 5, 1, 2] (ndB_ok _ rfl) rfl
          refine cVI (As := [.long (lfM W)]) (rest := []) F (c_X0_weightOf l g h0 h1 h2 W B sk ek tr (lfM W) ) kX0_weightOf rfl gX4_count_X0_weightOf rfl rfl ⟨Nat.le_of_ble_eq_true rfl, Nat.le_of_ble_eq_true rfl⟩ hP hD hS [1, 2, 3] [0, 4, 5] rfl rfl 0 rfl rfl hl.1 rfl rfl (Nat.le_of_ble_eq_true rfl) dX4_count_122 ⟨Nat.le_of_ble_eq_true rfl, Nat.le_of_ble_eq_true rfl⟩ (fun rz w1 H locs hpo hP hD hS => ?_)
          obtain ⟨rfl, rfl⟩ := hpo
          obtain ⟨hP, hD⟩ := nx (ws' := [(x0, .inr (4, [.ref h0, .ref d0, .ref k0, .int (nI ik), .ref b0, .ref a0, .ref t0, .ref r0, .int (nI rn), .ref r1])), (h0, .inr (0, [.ref h1, .ref h2, .int (nI sk), .int (nI ek), .int (nI tr)])), (h1, .inl (eI g, 41, .inl (fun j => nI (W j)))), (h2, .inl (eI g, 5, .inl (fun j => nI (B j)))), (t0, .inr (3, [.ref t1, .int (nI tn_)])), (r1, .inl (eI g, 7, .inl rf))]) hP hD [0, 3, 4, 5, 1, 2] (ndB_ok _ rfl) rfl
          exact rtI F hP hD hS dX4_count_125 (⟨by first | (exfalso; omega) | ((try simp only [true_and, and_true, bitL_lfM, wtS_lp]) <;> (repeat (first | rw [if_pos (by omega)] | rw [if_neg (by omega)])) <;> rfl), rfl⟩)
        · refine lv_tableIn (tgt := 126) hx hb dX4_count_46 (by rw [c46]; decide) (by rw [c46]; decide) (by rw [c46]; rfl) (by decide) ?_
          refine lv_aload_n hx hb dX4_count_126 rfl (lv_at hl 0 rfl) ?_
          refine xget F hP inX4_count_X4 0 rfl rfl 0 (by decide) lkX4_count_1 rfl dX4_count_127 ?_
          refine xget F hP inX4_count_X0 1 rfl rfl 4 (by decide) lkX4_count_4 rfl dX4_count_130 ?_
          exact rtI F hP hD hS dX4_count_133 (⟨by first | (exfalso; omega) | ((try simp only [true_and, and_true, bitL_lfM, wtS_lp]) <;> (repeat (first | rw [if_pos (by omega)] | rw [if_neg (by omega)])) <;> rfl), rfl⟩)
        · refine lv_tableIn (tgt := 147) hx hb dX4_count_46 (by rw [c46]; decide) (by rw [c46]; decide) (by rw [c46]; rfl) (by decide) ?_
          refine lv_bipush (v := (-9)) hx hb dX4_count_147 (by decide) ?_
          exact rtI F hP hD hS dX4_count_149 (⟨by first | (exfalso; omega) | ((try simp only [true_and, and_true, bitL_lfM, wtS_lp]) <;> (repeat (first | rw [if_pos (by omega)] | rw [if_neg (by omega)])) <;> rfl), rfl⟩)
        · refine lv_tableIn (tgt := 147) hx hb dX4_count_46 (by rw [c46]; decide) (by rw [c46]; decide) (by rw [c46]; rfl) (by decide) ?_
          refine lv_bipush (v := (-9)) hx hb dX4_count_147 (by decide) ?_
          exact rtI F hP hD hS dX4_count_149 (⟨by first | (exfalso; omega) | ((try simp only [true_and, and_true, bitL_lfM, wtS_lp]) <;> (repeat (first | rw [if_pos (by omega)] | rw [if_neg (by omega)])) <;> rfl), rfl⟩)
        · refine lv_tableIn (tgt := 147) hx hb dX4_count_46 (by rw [c46]; decide) (by rw [c46]; decide) (by rw [c46]; rfl) (by decide) ?_
          refine lv_bipush (v := (-9)) hx hb dX4_count_147 (by decide) ?_
          exact rtI F hP hD hS dX4_count_149 (⟨by first | (exfalso; omega) | ((try simp only [true_and, and_true, bitL_lfM, wtS_lp]) <;> (repeat (first | rw [if_pos (by omega)] | rw [if_neg (by omega)])) <;> rfl), rfl⟩)
        · refine lv_tableIn (tgt := 147) hx hb dX4_count_46 (by rw [c46]; decide) (by rw [c46]; decide) (by rw [c46]; rfl) (by decide) ?_
          refine lv_bipush (v := (-9)) hx hb dX4_count_147 (by decide) ?_
          exact rtI F hP hD hS dX4_count_149 (⟨by first | (exfalso; omega) | ((try simp only [true_and, and_true, bitL_lfM, wtS_lp]) <;> (repeat (first | rw [if_pos (by omega)] | rw [if_neg (by omega)])) <;> rfl), rfl⟩)
        · refine lv_tableIn (tgt := 147) hx hb dX4_count_46 (by rw [c46]; decide) (by rw [c46]; decide) (by rw [c46]; rfl) (by decide) ?_
          refine lv_bipush (v := (-9)) hx hb dX4_count_147 (by decide) ?_
          exact rtI F hP hD hS dX4_count_149 (⟨by first | (exfalso; omega) | ((try simp only [true_and, and_true, bitL_lfM, wtS_lp]) <;> (repeat (first | rw [if_pos (by omega)] | rw [if_neg (by omega)])) <;> rfl), rfl⟩)
        · refine lv_tableIn (tgt := 134) hx hb dX4_count_46 (by rw [c46]; decide) (by rw [c46]; decide) (by rw [c46]; rfl) (by decide) ?_
          refine lv_aload_n hx hb dX4_count_134 rfl (lv_at hl 0 rfl) ?_
          refine xget F hP inX4_count_X4 0 rfl rfl 8 (by decide) lkX4_count_5 rfl dX4_count_135 ?_
          exact rtI F hP hD hS dX4_count_138 (⟨by first | (exfalso; omega) | ((try simp only [true_and, and_true, bitL_lfM, wtS_lp]) <;> (repeat (first | rw [if_pos (by omega)] | rw [if_neg (by omega)])) <;> rfl), rfl⟩)
        · refine lv_tableIn (tgt := 139) hx hb dX4_count_46 (by rw [c46]; decide) (by rw [c46]; decide) (by rw [c46]; rfl) (by decide) ?_
          refine lv_aload_n hx hb dX4_count_139 rfl (lv_at hl 0 rfl) ?_
          refine xget F hP inX4_count_X4 0 rfl rfl 6 (by decide) lkX4_count_6 rfl dX4_count_140 ?_
          refine xget F hP inX4_count_X3 4 rfl rfl 1 (by decide) lkX4_count_7 rfl dX4_count_143 ?_
          exact rtI F hP hD hS dX4_count_146 (⟨by first | (exfalso; omega) | ((try simp only [true_and, and_true, bitL_lfM, wtS_lp]) <;> (repeat (first | rw [if_pos (by omega)] | rw [if_neg (by omega)])) <;> rfl), rfl⟩)
        · refine lv_tableOut (tgt := 147) hx hb dX4_count_46 (Or.inr (by omega)) (by decide) ?_
          refine lv_bipush (v := (-9)) hx hb dX4_count_147 (by decide) ?_
          exact rtI F hP hD hS dX4_count_149 (⟨by first | (exfalso; omega) | ((try simp only [true_and, and_true, bitL_lfM, wtS_lp]) <;> (repeat (first | rw [if_pos (by omega)] | rw [if_neg (by omega)])) <;> rfl), rfl⟩)
      · skip
        refine lv_iload_n hx hb dX4_count_29 rfl (lv_at hl 1 rfl) ?_
        refine lv_bipush (v := (nI 17)) hx hb dX4_count_30 (by decide) ?_
        refine yge (tgt := 45) hx hb dX4_count_32 (by decide) (by omega) (fun c32 => ?_) (fun c32 => ?_)
        · skip
          refine lv_iload_n hx hb dX4_count_45 rfl (lv_at hl 1 rfl) ?_
          rcases (show x.toInt < 0 ∨ x.toInt = 0 ∨ x.toInt = 1 ∨ x.toInt = 2 ∨ x.toInt = 3 ∨ x.toInt = 4 ∨ x.toInt = 5 ∨ x.toInt = 6 ∨ x.toInt = 7 ∨ x.toInt = 8 ∨ x.toInt = 9 ∨ 9 < x.toInt by omega) with c46 | c46 | c46 | c46 | c46 | c46 | c46 | c46 | c46 | c46 | c46 | c46
          · refine lv_tableOut (tgt := 147) hx hb dX4_count_46 (Or.inl (by omega)) (by decide) ?_
            refine lv_bipush (v := (-9)) hx hb dX4_count_147 (by decide) ?_
            exact rtI F hP hD hS dX4_count_149 (⟨by first | (exfalso; omega) | ((try simp only [true_and, and_true, bitL_lfM, wtS_lp]) <;> (repeat (first | rw [if_pos (by omega)] | rw [if_neg (by omega)])) <;> rfl), rfl⟩)
          · refine lv_tableIn (tgt := 100) hx hb dX4_count_46 (by rw [c46]; decide) (by rw [c46]; decide) (by rw [c46]; rfl) (by decide) ?_
            refine lv_aload_n hx hb dX4_count_100 rfl (lv_at hl 0 rfl) ?_
            refine xget F hP inX4_count_X4 0 rfl rfl 0 (by decide) lkX4_count_1 rfl dX4_count_101 ?_
            refine cVL (As := []) (rest := []) F (c_X0_left l g h0 h1 h2 W B sk ek tr (hW)) kX0_left rfl gX4_count_X0_left rfl rfl ⟨Nat.le_of_ble_eq_true rfl, Nat.le_of_ble_eq_true rfl⟩ hP hD hS [1, 2, 3] [0, 4, 5] rfl rfl 0 rfl rfl hl.1 rfl rfl (Nat.le_of_ble_eq_true rfl) dX4_count_104 ⟨Nat.le_of_ble_eq_true rfl, Nat.le_of_ble_eq_true rfl⟩ (fun rz w1 H locs hpo hP hD hS => ?_)
            obtain ⟨rfl, rfl⟩ := hpo
            obtain ⟨hP, hD⟩ := nx (ws' := [(x0, .inr (4, [.ref h0, .ref d0, .ref k0, .int (nI ik), .ref b0, .ref a0, .ref t0, .ref r0, .int (nI rn), .ref r1])), (h0, .inr (0, [.ref h1, .ref h2, .int (nI sk), .int (nI ek), .int (nI tr)])), (h1, .inl (eI g, 41, .inl (fun j => nI (W j)))), (h2, .inl (eI g, 5, .inl (fun j => nI (B j)))), (t0, .inr (3, [.ref t1, .int (nI tn_)])), (r1, .inl (eI g, 7, .inl rf))]) hP hD [0, 3, 4, 5, 1, 2] (ndB_ok _ rfl) rfl
            refine cSI (As := [.long (lfM W)]) (rest := []) F (c_X4_size l g (lfM W) (inS_lf W)) kX4_size gX4_count_X4_size rfl rfl ⟨Nat.le_of_ble_eq_true rfl, Nat.le_of_ble_eq_true rfl⟩ hP hD hS [] [0, 1, 2, 3, 4, 5] rfl rfl hl.1 rfl rfl (Nat.le_of_ble_eq_true rfl) dX4_count_107 ⟨Nat.le_of_ble_eq_true rfl, Nat.le_of_ble_eq_true rfl⟩ (fun rz w1 H locs hpo hP hD hS => ?_)
            obtain ⟨rfl, rfl⟩ := hpo
            obtain ⟨hP, hD⟩ := nx (ws' := [(x0, .inr (4, [.ref h0, .ref d0, .ref k0, .int (nI ik), .ref b0, .ref a0, .ref t0, .ref r0, .int (nI rn), .ref r1])), (h0, .inr (0, [.ref h1, .ref h2, .int (nI sk), .int (nI ek), .int (nI tr)])), (h1, .inl (eI g, 41, .inl (fun j => nI (W j)))), (h2, .inl (eI g, 5, .inl (fun j => nI (B j)))), (t0, .inr (3, [.ref t1, .int (nI tn_)])), (r1, .inl (eI g, 7, .inl rf))]) hP hD [0, 1, 2, 3, 4, 5] (ndB_ok _ rfl) rfl
            exact rtI F hP hD hS dX4_count_110 (⟨by first | (exfalso; omega) | ((try simp only [true_and, and_true, bitL_lfM, wtS_lp]) <;> (repeat (first | rw [if_pos (by omega)] | rw [if_neg (by omega)])) <;> rfl), rfl⟩)
          · refine lv_tableIn (tgt := 111) hx hb dX4_count_46 (by rw [c46]; decide) (by rw [c46]; decide) (by rw [c46]; rfl) (by decide) ?_
            refine lv_aload_n hx hb dX4_count_111 rfl (lv_at hl 0 rfl) ?_
            refine xget F hP inX4_count_X4 0 rfl rfl 0 (by decide) lkX4_count_1 rfl dX4_count_112 ?_
            refine lv_aload_n hx hb dX4_count_115 rfl (lv_at hl 0 rfl) ?_
            refine xget F hP inX4_count_X4 0 rfl rfl 0 (by decide) lkX4_count_1 rfl dX4_count_116 ?_
            refine cVL (As := []) (rest := [.ref h0]) F (c_X0_left l g h0 h1 h2 W B sk ek tr (hW)) kX0_left rfl gX4_count_X0_left rfl rfl ⟨Nat.le_of_ble_eq_true rfl, Nat.le_of_ble_eq_true rfl⟩ hP hD hS [1, 2, 3] [0, 4, 5] rfl rfl 0 rfl rfl hl.1 rfl rfl (Nat.le_of_ble_eq_true rfl) dX4_count_119 ⟨Nat.le_of_ble_eq_true rfl, Nat.le_of_ble_eq_true rfl⟩ (fun rz w1 H locs hpo hP hD hS => ?_)
            obtain ⟨rfl, rfl⟩ := hpo
            obtain ⟨hP, hD⟩ := nx (ws' := [(x0, .inr (4, [.ref h0, .ref d0, .ref k0, .int (nI ik), .ref b0, .ref a0, .ref t0, .ref r0, .int (nI rn), .ref r1])), (h0, .inr (0, [.ref h1, .ref h2, .int (nI sk), .int (nI ek), .int (nI tr)])), (h1, .inl (eI g, 41, .inl (fun j => nI (W j)))), (h2, .inl (eI g, 5, .inl (fun j => nI (B j)))), (t0, .inr (3, [.ref t1, .int (nI tn_)])), (r1, .inl (eI g, 7, .inl rf))]) hP hD [0, 3, 4, 5, 1, 2] (ndB_ok _ rfl) rfl
            refine cVI (As := [.long (lfM W)]) (rest := []) F (c_X0_weightOf l g h0 h1 h2 W B sk ek tr (lfM W) ) kX0_weightOf rfl gX4_count_X0_weightOf rfl rfl ⟨Nat.le_of_ble_eq_true rfl, Nat.le_of_ble_eq_true rfl⟩ hP hD hS [1, 2, 3] [0, 4, 5] rfl rfl 0 rfl rfl hl.1 rfl rfl (Nat.le_of_ble_eq_true rfl) dX4_count_122 ⟨Nat.le_of_ble_eq_true rfl, Nat.le_of_ble_eq_true rfl⟩ (fun rz w1 H locs hpo hP hD hS => ?_)
            obtain ⟨rfl, rfl⟩ := hpo
            obtain ⟨hP, hD⟩ := nx (ws' := [(x0, .inr (4, [.ref h0, .ref d0, .ref k0, .int (nI ik), .ref b0, .ref a0, .ref t0, .ref r0, .int (nI rn), .ref r1])), (h0, .inr (0, [.ref h1, .ref h2, .int (nI sk), .int (nI ek), .int (nI tr)])), (h1, .inl (eI g, 41, .inl (fun j => nI (W j)))), (h2, .inl (eI g, 5, .inl (fun j => nI (B j)))), (t0, .inr (3, [.ref t1, .int (nI tn_)])), (r1, .inl (eI g, 7, .inl rf))]) hP hD [0, 3, 4, 5, 1, 2] (ndB_ok _ rfl) rfl
            exact rtI F hP hD hS dX4_count_125 (⟨by first | (exfalso; omega) | ((try simp only [true_and, and_true, bitL_lfM, wtS_lp]) <;> (repeat (first | rw [if_pos (by omega)] | rw [if_neg (by omega)])) <;> rfl), rfl⟩)
          · refine lv_tableIn (tgt := 126) hx hb dX4_count_46 (by rw [c46]; decide) (by rw [c46]; decide) (by rw [c46]; rfl) (by decide) ?_
            refine lv_aload_n hx hb dX4_count_126 rfl (lv_at hl 0 rfl) ?_
            refine xget F hP inX4_count_X4 0 rfl rfl 0 (by decide) lkX4_count_1 rfl dX4_count_127 ?_
            refine xget F hP inX4_count_X0 1 rfl rfl 4 (by decide) lkX4_count_4 rfl dX4_count_130 ?_
            exact rtI F hP hD hS dX4_count_133 (⟨by first | (exfalso; omega) | ((try simp only [true_and, and_true, bitL_lfM, wtS_lp]) <;> (repeat (first | rw [if_pos (by omega)] | rw [if_neg (by omega)])) <;> rfl), rfl⟩)
          · refine lv_tableIn (tgt := 147) hx hb dX4_count_46 (by rw [c46]; decide) (by rw [c46]; decide) (by rw [c46]; rfl) (by decide) ?_
            refine lv_bipush (v := (-9)) hx hb dX4_count_147 (by decide) ?_
            exact rtI F hP hD hS dX4_count_149 (⟨by first | (exfalso; omega) | ((try simp only [true_and, and_true, bitL_lfM, wtS_lp]) <;> (repeat (first | rw [if_pos (by omega)] | rw [if_neg (by omega)])) <;> rfl), rfl⟩)
          · refine lv_tableIn (tgt := 147) hx hb dX4_count_46 (by rw [c46]; decide) (by rw [c46]; decide) (by rw [c46]; rfl) (by decide) ?_
            refine lv_bipush (v := (-9)) hx hb dX4_count_147 (by decide) ?_
            exact rtI F hP hD hS dX4_count_149 (⟨by first | (exfalso; omega) | ((try simp only [true_and, and_true, bitL_lfM, wtS_lp]) <;> (repeat (first | rw [if_pos (by omega)] | rw [if_neg (by omega)])) <;> rfl), rfl⟩)
          · refine lv_tableIn (tgt := 147) hx hb dX4_count_46 (by rw [c46]; decide) (by rw [c46]; decide) (by rw [c46]; rfl) (by decide) ?_
            refine lv_bipush (v := (-9)) hx hb dX4_count_147 (by decide) ?_
            exact rtI F hP hD hS dX4_count_149 (⟨by first | (exfalso; omega) | ((try simp only [true_and, and_true, bitL_lfM, wtS_lp]) <;> (repeat (first | rw [if_pos (by omega)] | rw [if_neg (by omega)])) <;> rfl), rfl⟩)
          · refine lv_tableIn (tgt := 147) hx hb dX4_count_46 (by rw [c46]; decide) (by rw [c46]; decide) (by rw [c46]; rfl) (by decide) ?_
            refine lv_bipush (v := (-9)) hx hb dX4_count_147 (by decide) ?_
            exact rtI F hP hD hS dX4_count_149 (⟨by first | (exfalso; omega) | ((try simp only [true_and, and_true, bitL_lfM, wtS_lp]) <;> (repeat (first | rw [if_pos (by omega)] | rw [if_neg (by omega)])) <;> rfl), rfl⟩)
          · refine lv_tableIn (tgt := 147) hx hb dX4_count_46 (by rw [c46]; decide) (by rw [c46]; decide) (by rw [c46]; rfl) (by decide) ?_
            refine lv_bipush (v := (-9)) hx hb dX4_count_147 (by decide) ?_
            exact rtI F hP hD hS dX4_count_149 (⟨by first | (exfalso; omega) | ((try simp only [true_and, and_true, bitL_lfM, wtS_lp]) <;> (repeat (first | rw [if_pos (by omega)] | rw [if_neg (by omega)])) <;> rfl), rfl⟩)
          · refine lv_tableIn (tgt := 134) hx hb dX4_count_46 (by rw [c46]; decide) (by rw [c46]; decide) (by rw [c46]; rfl) (by decide) ?_
            refine lv_aload_n hx hb dX4_count_134 rfl (lv_at hl 0 rfl) ?_
            refine xget F hP inX4_count_X4 0 rfl rfl 8 (by decide) lkX4_count_5 rfl dX4_count_135 ?_
            exact rtI F hP hD hS dX4_count_138 (⟨by first | (exfalso; omega) | ((try simp only [true_and, and_true, bitL_lfM, wtS_lp]) <;> (repeat (first | rw [if_pos (by omega)] | rw [if_neg (by omega)])) <;> rfl), rfl⟩)
          · refine lv_tableIn (tgt := 139) hx hb dX4_count_46 (by rw [c46]; decide) (by rw [c46]; decide) (by rw [c46]; rfl) (by decide) ?_
            refine lv_aload_n hx hb dX4_count_139 rfl (lv_at hl 0 rfl) ?_
            refine xget F hP inX4_count_X4 0 rfl rfl 6 (by decide) lkX4_count_6 rfl dX4_count_140 ?_
            refine xget F hP inX4_count_X3 4 rfl rfl 1 (by decide) lkX4_count_7 rfl dX4_count_143 ?_
            exact rtI F hP hD hS dX4_count_146 (⟨by first | (exfalso; omega) | ((try simp only [true_and, and_true, bitL_lfM, wtS_lp]) <;> (repeat (first | rw [if_pos (by omega)] | rw [if_neg (by omega)])) <;> rfl), rfl⟩)
          · refine lv_tableOut (tgt := 147) hx hb dX4_count_46 (Or.inr (by omega)) (by decide) ?_
            refine lv_bipush (v := (-9)) hx hb dX4_count_147 (by decide) ?_
            exact rtI F hP hD hS dX4_count_149 (⟨by first | (exfalso; omega) | ((try simp only [true_and, and_true, bitL_lfM, wtS_lp]) <;> (repeat (first | rw [if_pos (by omega)] | rw [if_neg (by omega)])) <;> rfl), rfl⟩)
        · skip
          refine lv_aload_n hx hb dX4_count_35 rfl (lv_at hl 0 rfl) ?_
          refine xget F hP inX4_count_X4 0 rfl rfl 9 (by decide) lkX4_count_3 rfl dX4_count_36 ?_
          obtain ⟨k, hk_, rfl⟩ := natOf (x := x) (by omega)
          try rw [nI_tI hk_] at c2
          try rw [nI_tI hk_] at c8
          try rw [nI_tI hk_] at c26
          try rw [nI_tI hk_] at c32
          refine lv_iload_n hx hb dX4_count_39 rfl (lv_at hl 1 rfl) ?_
          refine lv_bipush (v := (nI 10)) hx hb dX4_count_40 (by decide) ?_
          refine xsub hx hb (by omega) dX4_count_42 ?_
          refine xald F hP 5 (v := (rf (k - 10))) rfl (by omega) (by omega) rfl dX4_count_43 ?_
          exact rtI F hP hD hS dX4_count_44 (⟨by first | (exfalso; omega) | ((try simp only [nI_tI hk_, nI_clamp hk_, true_and, and_true, bitL_lfM, wtS_lp]) <;> (repeat (first | rw [if_pos (by omega)] | rw [if_neg (by omega)])) <;> rfl), rfl⟩)
    · skip
      refine lv_aload_n hx hb dX4_count_11 rfl (lv_at hl 0 rfl) ?_
      refine xget F hP inX4_count_X4 0 rfl rfl 0 (by decide) lkX4_count_1 rfl dX4_count_12 ?_
      refine xget F hP inX4_count_X0 1 rfl rfl 1 (by decide) lkX4_count_2 rfl dX4_count_15 ?_
      obtain ⟨k, hk_, rfl⟩ := natOf (x := x) (by omega)
      try rw [nI_tI hk_] at c2
      try rw [nI_tI hk_] at c8
      refine lv_iload_n hx hb dX4_count_18 rfl (lv_at hl 1 rfl) ?_
      refine lv_iconst (v := (nI 3)) hx hb dX4_count_19 (by decide) ?_
      refine xsub hx hb (by omega) dX4_count_20 ?_
      refine xald F hP 3 (v := (nI (B (k - 3)))) rfl (by omega) (by omega) rfl dX4_count_21 ?_
      exact rtI F hP hD hS dX4_count_22 (⟨by first | (exfalso; omega) | ((try simp only [nI_tI hk_, nI_clamp hk_, true_and, and_true, bitL_lfM, wtS_lp]) <;> (repeat (first | rw [if_pos (by omega)] | rw [if_neg (by omega)])) <;> rfl), rfl⟩)

theorem inX5_count_X5 : ∀ w ∈ u_ws RX5 TX5 20, w ∈ wsX5_count := fun _ h => (List.mem_cons_of_mem _ (List.mem_append_right _ h))
theorem lkX5_count_1 : Cond.fieldLink RX5 19 "StripInFiveStepsModel" "now" "[I" ∈ wsX5_count := List.mem_of_getElem? (i := 1) rfl
theorem lkX5_count_3 : Cond.fieldLink RX5 183 "StripInFiveStepsModel" "taped" "I" ∈ wsX5_count := List.mem_of_getElem? (i := 3) rfl
theorem lkX5_count_2 : Cond.fieldLink RX5 170 "StripInFiveStepsModel" "lined" "I" ∈ wsX5_count := List.mem_of_getElem? (i := 2) rfl
theorem lkX5_count_4 : Cond.fieldLink RX5 1 "StripInFiveStepsModel" "refused" "[I" ∈ wsX5_count := List.mem_of_getElem? (i := 4) rfl
theorem kX5_count : Cal yX5_count wsX5_count cX5_count 2 (some .int) 1 := ⟨⟨_, rfl⟩, by decide +kernel⟩
set_option maxHeartbeats 4000000 in
set_option maxRecDepth 100000 in
theorem c_X5_count (l : Launch) (g : EE) (m0 : Nat) (m1 : Nat) (m2 : Nat) (m3 : Nat) (m4 : Nat) (m5 : Nat) (m6 : Nat) (m7 : Nat) (m8 : Nat) (m9 : Nat) (m10 : Nat) (m11 : Nat) (m12 : Nat) (m13 : Nat) (m14 : Nat) (kp : Nat) (rn : Nat) (tn_ : Nat) (ia : Nat) (wl : Nat) (si : Nat) (S : Nat → Nat) (rf : Nat → Int32) (x : Int32) (hO : okS S) : CI l yX5_count wsX5_count ({ frames := 1, cells := 0, slots := 0, locals := 22 }) g [.ref m0, .int x] [(m0, .inr (5, [.ref m1, .ref m2, .ref m3, .int (nI kp), .ref m4, .ref m5, .ref m6, .ref m7, .ref m8, .int (nI rn), .ref m9, .int (nI tn_), .int (nI ia), .int (nI wl), .ref m10, .ref m11, .ref m12, .int (nI si), .ref m13, .ref m14])), (m1, .inl (eI g, 7, .inl rf)), (m2, .inl (eI g, 49, .inl (fun j => nI (S j))))] (fun (rz : Int32) (wz : va_W) => rz = (if x.toInt = 0 then nI (cnS (lpB S)) else if x.toInt = 1 then nI (sg S 40) else if x.toInt = 2 then nI (S 48) else if 3 ≤ x.toInt ∧ x.toInt ≤ 7 then nI (S (41 + (x.toNatClampNeg - 3))) else if x.toInt = 8 then nI rn else if x.toInt = 9 then nI tn_ else if 11 ≤ x.toInt ∧ x.toInt ≤ 16 then rf (x.toNatClampNeg - 10) else -9) ∧ wz = [(m0, .inr (5, [.ref m1, .ref m2, .ref m3, .int (nI kp), .ref m4, .ref m5, .ref m6, .ref m7, .ref m8, .int (nI rn), .ref m9, .int (nI tn_), .int (nI ia), .int (nI wl), .ref m10, .ref m11, .ref m12, .int (nI si), .ref m13, .ref m14])), (m1, .inl (eI g, 7, .inl rf)), (m2, .inl (eI g, 49, .inl (fun j => nI (S j))))]) 0 0 := by
  refine ctI (cc := cX5_count) (maxL := 2) (ret := (some .int)) (by decide) rfl (Nat.le_of_ble_eq_true rfl) ?_
  intro p_ e_ s_ m_ bl_ mt_ cd_ A ls F hnm hP hD hS hl
  obtain ⟨hx, hb, hml, hown, hts, hK, hX, hA, hrt_, hlocks⟩ := id F
  have hl : lv_has ls 2 [(0, .ref m0), (1, .int x)] := hl
  obtain ⟨hw40, ⟨h41a, h41b⟩, ⟨h42a, h42b⟩, h43, h44, h45, h46, h47, h48⟩ := id hO
  refine lv_iload_n hx hb dX5_count_0 rfl (lv_at hl 1 rfl) ?_
  refine weq (tgt := 9) hx hb dX5_count_1 (by decide) (fun c1 => ?_) (fun c1 => ?_)
  · skip
    refine lv_iload_n hx hb dX5_count_9 rfl (lv_at hl 1 rfl) ?_
    refine wne (tgt := 23) hx hb dX5_count_10 (by decide) (fun c10 => ?_) (fun c10 => ?_)
    · skip
      refine lv_aload_n hx hb dX5_count_23 rfl (lv_at hl 0 rfl) ?_
      refine xget F hP inX5_count_X5 0 rfl rfl 1 (by decide) lkX5_count_1 rfl dX5_count_24 ?_
      refine cSI (As := [.ref m2]) (rest := []) F (c_X5_weight l g m2 S ) kX5_weight gX5_count_X5_weight rfl rfl ⟨Nat.le_of_ble_eq_true rfl, Nat.le_of_ble_eq_true rfl⟩ hP hD hS [2] [0, 1] rfl rfl hl.1 rfl rfl (Nat.le_of_ble_eq_true rfl) dX5_count_27 ⟨Nat.le_of_ble_eq_true rfl, Nat.le_of_ble_eq_true rfl⟩ (fun rz w1 H locs hpo hP hD hS => ?_)
      obtain ⟨rfl, rfl⟩ := hpo
      obtain ⟨hP, hD⟩ := nx (ws' := [(m0, .inr (5, [.ref m1, .ref m2, .ref m3, .int (nI kp), .ref m4, .ref m5, .ref m6, .ref m7, .ref m8, .int (nI rn), .ref m9, .int (nI tn_), .int (nI ia), .int (nI wl), .ref m10, .ref m11, .ref m12, .int (nI si), .ref m13, .ref m14])), (m1, .inl (eI g, 7, .inl rf)), (m2, .inl (eI g, 49, .inl (fun j => nI (S j))))]) hP hD [0, 1, 2] (ndB_ok _ rfl) rfl
      exact rtI F hP hD hS dX5_count_30 (⟨by first | (exfalso; omega) | ((try simp only [true_and, and_true]) <;> (repeat (first | rw [if_pos (by omega)] | rw [if_neg (by omega)])) <;> rfl), rfl⟩)
    · skip
      refine lv_aload_n hx hb dX5_count_13 rfl (lv_at hl 0 rfl) ?_
      refine xget F hP inX5_count_X5 0 rfl rfl 1 (by decide) lkX5_count_1 rfl dX5_count_14 ?_
      refine cSI (As := [.ref m2]) (rest := []) F (c_X5_left l g m2 S (hO.1)) kX5_left gX5_count_X5_left rfl rfl ⟨Nat.le_of_ble_eq_true rfl, Nat.le_of_ble_eq_true rfl⟩ hP hD hS [2] [0, 1] rfl rfl hl.1 rfl rfl (Nat.le_of_ble_eq_true rfl) dX5_count_17 ⟨Nat.le_of_ble_eq_true rfl, Nat.le_of_ble_eq_true rfl⟩ (fun rz w1 H locs hpo hP hD hS => ?_)
      obtain ⟨rfl, rfl⟩ := hpo
      obtain ⟨hP, hD⟩ := nx (ws' := [(m0, .inr (5, [.ref m1, .ref m2, .ref m3, .int (nI kp), .ref m4, .ref m5, .ref m6, .ref m7, .ref m8, .int (nI rn), .ref m9, .int (nI tn_), .int (nI ia), .int (nI wl), .ref m10, .ref m11, .ref m12, .int (nI si), .ref m13, .ref m14])), (m1, .inl (eI g, 7, .inl rf)), (m2, .inl (eI g, 49, .inl (fun j => nI (S j))))]) hP hD [0, 1, 2] (ndB_ok _ rfl) rfl
      refine lv_goto (tgt := 30) hx hb dX5_count_20 (by decide) ?_
      exact rtI F hP hD hS dX5_count_30 (⟨by first | (exfalso; omega) | ((try simp only [true_and, and_true]) <;> (repeat (first | rw [if_pos (by omega)] | rw [if_neg (by omega)])) <;> rfl), rfl⟩)
  · skip
    refine lv_iload_n hx hb dX5_count_4 rfl (lv_at hl 1 rfl) ?_
    refine lv_iconst (v := (nI 1)) hx hb dX5_count_5 (by decide) ?_
    refine yne (tgt := 31) hx hb dX5_count_6 (by decide) (by omega) (fun c6 => ?_) (fun c6 => ?_)
    · skip
      refine lv_iload_n hx hb dX5_count_31 rfl (lv_at hl 1 rfl) ?_
      refine lv_iconst (v := (nI 2)) hx hb dX5_count_32 (by decide) ?_
      refine yne (tgt := 44) hx hb dX5_count_33 (by decide) (by omega) (fun c33 => ?_) (fun c33 => ?_)
      · skip
        refine lv_iload_n hx hb dX5_count_44 rfl (lv_at hl 1 rfl) ?_
        refine lv_iconst (v := (nI 3)) hx hb dX5_count_45 (by decide) ?_
        refine ylt (tgt := 67) hx hb dX5_count_46 (by decide) (by omega) (fun c46 => ?_) (fun c46 => ?_)
        · skip
          refine lv_iload_n hx hb dX5_count_67 rfl (lv_at hl 1 rfl) ?_
          refine lv_bipush (v := (nI 8)) hx hb dX5_count_68 (by decide) ?_
          refine yeq (tgt := 79) hx hb dX5_count_70 (by decide) (by omega) (fun c70 => ?_) (fun c70 => ?_)
          · skip
            refine lv_iload_n hx hb dX5_count_79 rfl (lv_at hl 1 rfl) ?_
            refine lv_bipush (v := (nI 8)) hx hb dX5_count_80 (by decide) ?_
            refine yne (tgt := 92) hx hb dX5_count_82 (by decide) (by omega) (fun c82 => ?_) (fun c82 => ?_)
            · skip
              refine lv_aload_n hx hb dX5_count_92 rfl (lv_at hl 0 rfl) ?_
              refine xget F hP inX5_count_X5 0 rfl rfl 11 (by decide) lkX5_count_3 rfl dX5_count_93 ?_
              exact rtI F hP hD hS dX5_count_96 (⟨by first | (exfalso; omega) | ((try simp only [true_and, and_true]) <;> (repeat (first | rw [if_pos (by omega)] | rw [if_neg (by omega)])) <;> rfl), rfl⟩)
            · skip
              refine lv_aload_n hx hb dX5_count_85 rfl (lv_at hl 0 rfl) ?_
              refine xget F hP inX5_count_X5 0 rfl rfl 9 (by decide) lkX5_count_2 rfl dX5_count_86 ?_
              refine lv_goto (tgt := 96) hx hb dX5_count_89 (by decide) ?_
              exact rtI F hP hD hS dX5_count_96 (⟨by first | (exfalso; omega) | ((try simp only [true_and, and_true]) <;> (repeat (first | rw [if_pos (by omega)] | rw [if_neg (by omega)])) <;> rfl), rfl⟩)
          · skip
            refine lv_iload_n hx hb dX5_count_73 rfl (lv_at hl 1 rfl) ?_
            refine lv_bipush (v := (nI 9)) hx hb dX5_count_74 (by decide) ?_
            refine yne (tgt := 97) hx hb dX5_count_76 (by decide) (by omega) (fun c76 => ?_) (fun c76 => ?_)
            · skip
              refine lv_iload_n hx hb dX5_count_97 rfl (lv_at hl 1 rfl) ?_
              refine lv_bipush (v := (nI 11)) hx hb dX5_count_98 (by decide) ?_
              refine ylt (tgt := 121) hx hb dX5_count_100 (by decide) (by omega) (fun c100 => ?_) (fun c100 => ?_)
              · skip
                refine lv_bipush (v := (-9)) hx hb dX5_count_121 (by decide) ?_
                exact rtI F hP hD hS dX5_count_123 (⟨by first | (exfalso; omega) | ((try simp only [true_and, and_true]) <;> (repeat (first | rw [if_pos (by omega)] | rw [if_neg (by omega)])) <;> rfl), rfl⟩)
              · skip
                refine lv_iload_n hx hb dX5_count_103 rfl (lv_at hl 1 rfl) ?_
                refine lv_bipush (v := (nI 16)) hx hb dX5_count_104 (by decide) ?_
                refine ygt (tgt := 121) hx hb dX5_count_106 (by decide) (by omega) (fun c106 => ?_) (fun c106 => ?_)
                · skip
                  refine lv_bipush (v := (-9)) hx hb dX5_count_121 (by decide) ?_
                  exact rtI F hP hD hS dX5_count_123 (⟨by first | (exfalso; omega) | ((try simp only [true_and, and_true]) <;> (repeat (first | rw [if_pos (by omega)] | rw [if_neg (by omega)])) <;> rfl), rfl⟩)
                · skip
                  refine lv_aload_n hx hb dX5_count_109 rfl (lv_at hl 0 rfl) ?_
                  refine xget F hP inX5_count_X5 0 rfl rfl 0 (by decide) lkX5_count_4 rfl dX5_count_110 ?_
                  obtain ⟨k, hk_, rfl⟩ := natOf (x := x) (by omega)
                  try rw [nI_tI hk_] at c1
                  try rw [nI_tI hk_] at c6
                  try rw [nI_tI hk_] at c33
                  try rw [nI_tI hk_] at c46
                  try rw [nI_tI hk_] at c52
                  try rw [nI_tI hk_] at c70
                  try rw [nI_tI hk_] at c76
                  try rw [nI_tI hk_] at c100
                  try rw [nI_tI hk_] at c106
                  refine lv_iload_n hx hb dX5_count_113 rfl (lv_at hl 1 rfl) ?_
                  refine lv_bipush (v := (nI 10)) hx hb dX5_count_114 (by decide) ?_
                  refine xsub hx hb (by omega) dX5_count_116 ?_
                  refine xald F hP 1 (v := (rf (k - 10))) rfl (by omega) (by omega) rfl dX5_count_117 ?_
                  refine lv_goto (tgt := 123) hx hb dX5_count_118 (by decide) ?_
                  exact rtI F hP hD hS dX5_count_123 (⟨by first | (exfalso; omega) | ((try simp only [nI_tI hk_, nI_clamp hk_, true_and, and_true]) <;> (repeat (first | rw [if_pos (by omega)] | rw [if_neg (by omega)])) <;> rfl), rfl⟩)
            · skip
              refine lv_iload_n hx hb dX5_count_79 rfl (lv_at hl 1 rfl) ?_
              refine lv_bipush (v := (nI 8)) hx hb dX5_count_80 (by decide) ?_
              refine yne (tgt := 92) hx hb dX5_count_82 (by decide) (by omega) (fun c82 => ?_) (fun c82 => ?_)
              · skip
                refine lv_aload_n hx hb dX5_count_92 rfl (lv_at hl 0 rfl) ?_
                refine xget F hP inX5_count_X5 0 rfl rfl 11 (by decide) lkX5_count_3 rfl dX5_count_93 ?_
                exact rtI F hP hD hS dX5_count_96 (⟨by first | (exfalso; omega) | ((try simp only [true_and, and_true]) <;> (repeat (first | rw [if_pos (by omega)] | rw [if_neg (by omega)])) <;> rfl), rfl⟩)
              · skip
                refine lv_aload_n hx hb dX5_count_85 rfl (lv_at hl 0 rfl) ?_
                refine xget F hP inX5_count_X5 0 rfl rfl 9 (by decide) lkX5_count_2 rfl dX5_count_86 ?_
                refine lv_goto (tgt := 96) hx hb dX5_count_89 (by decide) ?_
                exact rtI F hP hD hS dX5_count_96 (⟨by first | (exfalso; omega) | ((try simp only [true_and, and_true]) <;> (repeat (first | rw [if_pos (by omega)] | rw [if_neg (by omega)])) <;> rfl), rfl⟩)
        · skip
          refine lv_iload_n hx hb dX5_count_49 rfl (lv_at hl 1 rfl) ?_
          refine lv_bipush (v := (nI 7)) hx hb dX5_count_50 (by decide) ?_
          refine ygt (tgt := 67) hx hb dX5_count_52 (by decide) (by omega) (fun c52 => ?_) (fun c52 => ?_)
          · skip
            refine lv_iload_n hx hb dX5_count_67 rfl (lv_at hl 1 rfl) ?_
            refine lv_bipush (v := (nI 8)) hx hb dX5_count_68 (by decide) ?_
            refine yeq (tgt := 79) hx hb dX5_count_70 (by decide) (by omega) (fun c70 => ?_) (fun c70 => ?_)
            · skip
              refine lv_iload_n hx hb dX5_count_79 rfl (lv_at hl 1 rfl) ?_
              refine lv_bipush (v := (nI 8)) hx hb dX5_count_80 (by decide) ?_
              refine yne (tgt := 92) hx hb dX5_count_82 (by decide) (by omega) (fun c82 => ?_) (fun c82 => ?_)
              · skip
                refine lv_aload_n hx hb dX5_count_92 rfl (lv_at hl 0 rfl) ?_
                refine xget F hP inX5_count_X5 0 rfl rfl 11 (by decide) lkX5_count_3 rfl dX5_count_93 ?_
                exact rtI F hP hD hS dX5_count_96 (⟨by first | (exfalso; omega) | ((try simp only [true_and, and_true]) <;> (repeat (first | rw [if_pos (by omega)] | rw [if_neg (by omega)])) <;> rfl), rfl⟩)
              · skip
                refine lv_aload_n hx hb dX5_count_85 rfl (lv_at hl 0 rfl) ?_
                refine xget F hP inX5_count_X5 0 rfl rfl 9 (by decide) lkX5_count_2 rfl dX5_count_86 ?_
                refine lv_goto (tgt := 96) hx hb dX5_count_89 (by decide) ?_
                exact rtI F hP hD hS dX5_count_96 (⟨by first | (exfalso; omega) | ((try simp only [true_and, and_true]) <;> (repeat (first | rw [if_pos (by omega)] | rw [if_neg (by omega)])) <;> rfl), rfl⟩)
            · skip
              refine lv_iload_n hx hb dX5_count_73 rfl (lv_at hl 1 rfl) ?_
              refine lv_bipush (v := (nI 9)) hx hb dX5_count_74 (by decide) ?_
              refine yne (tgt := 97) hx hb dX5_count_76 (by decide) (by omega) (fun c76 => ?_) (fun c76 => ?_)
              · skip
                refine lv_iload_n hx hb dX5_count_97 rfl (lv_at hl 1 rfl) ?_
                refine lv_bipush (v := (nI 11)) hx hb dX5_count_98 (by decide) ?_
                refine ylt (tgt := 121) hx hb dX5_count_100 (by decide) (by omega) (fun c100 => ?_) (fun c100 => ?_)
                · skip
                  refine lv_bipush (v := (-9)) hx hb dX5_count_121 (by decide) ?_
                  exact rtI F hP hD hS dX5_count_123 (⟨by first | (exfalso; omega) | ((try simp only [true_and, and_true]) <;> (repeat (first | rw [if_pos (by omega)] | rw [if_neg (by omega)])) <;> rfl), rfl⟩)
                · skip
                  refine lv_iload_n hx hb dX5_count_103 rfl (lv_at hl 1 rfl) ?_
                  refine lv_bipush (v := (nI 16)) hx hb dX5_count_104 (by decide) ?_
                  refine ygt (tgt := 121) hx hb dX5_count_106 (by decide) (by omega) (fun c106 => ?_) (fun c106 => ?_)
                  · skip
                    refine lv_bipush (v := (-9)) hx hb dX5_count_121 (by decide) ?_
                    exact rtI F hP hD hS dX5_count_123 (⟨by first | (exfalso; omega) | ((try simp only [true_and, and_true]) <;> (repeat (first | rw [if_pos (by omega)] | rw [if_neg (by omega)])) <;> rfl), rfl⟩)
                  · skip
                    refine lv_aload_n hx hb dX5_count_109 rfl (lv_at hl 0 rfl) ?_
                    refine xget F hP inX5_count_X5 0 rfl rfl 0 (by decide) lkX5_count_4 rfl dX5_count_110 ?_
                    obtain ⟨k, hk_, rfl⟩ := natOf (x := x) (by omega)
                    try rw [nI_tI hk_] at c1
                    try rw [nI_tI hk_] at c6
                    try rw [nI_tI hk_] at c33
                    try rw [nI_tI hk_] at c46
                    try rw [nI_tI hk_] at c52
                    try rw [nI_tI hk_] at c70
                    try rw [nI_tI hk_] at c76
                    try rw [nI_tI hk_] at c100
                    try rw [nI_tI hk_] at c106
                    refine lv_iload_n hx hb dX5_count_113 rfl (lv_at hl 1 rfl) ?_
                    refine lv_bipush (v := (nI 10)) hx hb dX5_count_114 (by decide) ?_
                    refine xsub hx hb (by omega) dX5_count_116 ?_
                    refine xald F hP 1 (v := (rf (k - 10))) rfl (by omega) (by omega) rfl dX5_count_117 ?_
                    refine lv_goto (tgt := 123) hx hb dX5_count_118 (by decide) ?_
                    exact rtI F hP hD hS dX5_count_123 (⟨by first | (exfalso; omega) | ((try simp only [nI_tI hk_, nI_clamp hk_, true_and, and_true]) <;> (repeat (first | rw [if_pos (by omega)] | rw [if_neg (by omega)])) <;> rfl), rfl⟩)
              · skip
                refine lv_iload_n hx hb dX5_count_79 rfl (lv_at hl 1 rfl) ?_
                refine lv_bipush (v := (nI 8)) hx hb dX5_count_80 (by decide) ?_
                refine yne (tgt := 92) hx hb dX5_count_82 (by decide) (by omega) (fun c82 => ?_) (fun c82 => ?_)
                · skip
                  refine lv_aload_n hx hb dX5_count_92 rfl (lv_at hl 0 rfl) ?_
                  refine xget F hP inX5_count_X5 0 rfl rfl 11 (by decide) lkX5_count_3 rfl dX5_count_93 ?_
                  exact rtI F hP hD hS dX5_count_96 (⟨by first | (exfalso; omega) | ((try simp only [true_and, and_true]) <;> (repeat (first | rw [if_pos (by omega)] | rw [if_neg (by omega)])) <;> rfl), rfl⟩)
                · skip
                  refine lv_aload_n hx hb dX5_count_85 rfl (lv_at hl 0 rfl) ?_
                  refine xget F hP inX5_count_X5 0 rfl rfl 9 (by decide) lkX5_count_2 rfl dX5_count_86 ?_
                  refine lv_goto (tgt := 96) hx hb dX5_count_89 (by decide) ?_
                  exact rtI F hP hD hS dX5_count_96 (⟨by first | (exfalso; omega) | ((try simp only [true_and, and_true]) <;> (repeat (first | rw [if_pos (by omega)] | rw [if_neg (by omega)])) <;> rfl), rfl⟩)
          · skip
            refine lv_aload_n hx hb dX5_count_55 rfl (lv_at hl 0 rfl) ?_
            refine xget F hP inX5_count_X5 0 rfl rfl 1 (by decide) lkX5_count_1 rfl dX5_count_56 ?_
            refine lv_bipush (v := (nI 41)) hx hb dX5_count_59 (by decide) ?_
            obtain ⟨k, hk_, rfl⟩ := natOf (x := x) (by omega)
            try rw [nI_tI hk_] at c1
            try rw [nI_tI hk_] at c6
            try rw [nI_tI hk_] at c33
            try rw [nI_tI hk_] at c46
            try rw [nI_tI hk_] at c52
            refine lv_iload_n hx hb dX5_count_61 rfl (lv_at hl 1 rfl) ?_
            refine xadd hx hb dX5_count_62 ?_
            refine lv_iconst (v := (nI 3)) hx hb dX5_count_63 (by decide) ?_
            refine xsub hx hb (by omega) dX5_count_64 ?_
            refine sti (congrArg nI (show (41 + k) - 3 = 41 + (k - 3) from by omega)) ?_
            refine xald F hP 2 (v := (nI (S (41 + (k - 3))))) rfl (by omega) (by omega) rfl dX5_count_65 ?_
            exact rtI F hP hD hS dX5_count_66 (⟨by first | (exfalso; omega) | ((try simp only [nI_tI hk_, nI_clamp hk_, true_and, and_true]) <;> (repeat (first | rw [if_pos (by omega)] | rw [if_neg (by omega)])) <;> rfl), rfl⟩)
      · skip
        refine lv_aload_n hx hb dX5_count_36 rfl (lv_at hl 0 rfl) ?_
        refine xget F hP inX5_count_X5 0 rfl rfl 1 (by decide) lkX5_count_1 rfl dX5_count_37 ?_
        refine lv_bipush (v := (nI 48)) hx hb dX5_count_40 (by decide) ?_
        refine xald F hP 2 (v := (nI (S 48))) rfl (by omega) (by omega) rfl dX5_count_42 ?_
        exact rtI F hP hD hS dX5_count_43 (⟨by first | (exfalso; omega) | ((try simp only [true_and, and_true]) <;> (repeat (first | rw [if_pos (by omega)] | rw [if_neg (by omega)])) <;> rfl), rfl⟩)
    · skip
      refine lv_iload_n hx hb dX5_count_9 rfl (lv_at hl 1 rfl) ?_
      refine wne (tgt := 23) hx hb dX5_count_10 (by decide) (fun c10 => ?_) (fun c10 => ?_)
      · skip
        refine lv_aload_n hx hb dX5_count_23 rfl (lv_at hl 0 rfl) ?_
        refine xget F hP inX5_count_X5 0 rfl rfl 1 (by decide) lkX5_count_1 rfl dX5_count_24 ?_
        refine cSI (As := [.ref m2]) (rest := []) F (c_X5_weight l g m2 S ) kX5_weight gX5_count_X5_weight rfl rfl ⟨Nat.le_of_ble_eq_true rfl, Nat.le_of_ble_eq_true rfl⟩ hP hD hS [2] [0, 1] rfl rfl hl.1 rfl rfl (Nat.le_of_ble_eq_true rfl) dX5_count_27 ⟨Nat.le_of_ble_eq_true rfl, Nat.le_of_ble_eq_true rfl⟩ (fun rz w1 H locs hpo hP hD hS => ?_)
        obtain ⟨rfl, rfl⟩ := hpo
        obtain ⟨hP, hD⟩ := nx (ws' := [(m0, .inr (5, [.ref m1, .ref m2, .ref m3, .int (nI kp), .ref m4, .ref m5, .ref m6, .ref m7, .ref m8, .int (nI rn), .ref m9, .int (nI tn_), .int (nI ia), .int (nI wl), .ref m10, .ref m11, .ref m12, .int (nI si), .ref m13, .ref m14])), (m1, .inl (eI g, 7, .inl rf)), (m2, .inl (eI g, 49, .inl (fun j => nI (S j))))]) hP hD [0, 1, 2] (ndB_ok _ rfl) rfl
        exact rtI F hP hD hS dX5_count_30 (⟨by first | (exfalso; omega) | ((try simp only [true_and, and_true]) <;> (repeat (first | rw [if_pos (by omega)] | rw [if_neg (by omega)])) <;> rfl), rfl⟩)
      · skip
        refine lv_aload_n hx hb dX5_count_13 rfl (lv_at hl 0 rfl) ?_
        refine xget F hP inX5_count_X5 0 rfl rfl 1 (by decide) lkX5_count_1 rfl dX5_count_14 ?_
        refine cSI (As := [.ref m2]) (rest := []) F (c_X5_left l g m2 S (hO.1)) kX5_left gX5_count_X5_left rfl rfl ⟨Nat.le_of_ble_eq_true rfl, Nat.le_of_ble_eq_true rfl⟩ hP hD hS [2] [0, 1] rfl rfl hl.1 rfl rfl (Nat.le_of_ble_eq_true rfl) dX5_count_17 ⟨Nat.le_of_ble_eq_true rfl, Nat.le_of_ble_eq_true rfl⟩ (fun rz w1 H locs hpo hP hD hS => ?_)
        obtain ⟨rfl, rfl⟩ := hpo
        obtain ⟨hP, hD⟩ := nx (ws' := [(m0, .inr (5, [.ref m1, .ref m2, .ref m3, .int (nI kp), .ref m4, .ref m5, .ref m6, .ref m7, .ref m8, .int (nI rn), .ref m9, .int (nI tn_), .int (nI ia), .int (nI wl), .ref m10, .ref m11, .ref m12, .int (nI si), .ref m13, .ref m14])), (m1, .inl (eI g, 7, .inl rf)), (m2, .inl (eI g, 49, .inl (fun j => nI (S j))))]) hP hD [0, 1, 2] (ndB_ok _ rfl) rfl
        refine lv_goto (tgt := 30) hx hb dX5_count_20 (by decide) ?_
        exact rtI F hP hD hS dX5_count_30 (⟨by first | (exfalso; omega) | ((try simp only [true_and, and_true]) <;> (repeat (first | rw [if_pos (by omega)] | rw [if_neg (by omega)])) <;> rfl), rfl⟩)

theorem inX4_limit_X4 : ∀ w ∈ u_ws RX4 TX4 10, w ∈ wsX4_limit := fun _ h => (List.mem_cons_of_mem _ (List.mem_append_left _ (List.mem_append_right _ h)))
theorem lkX4_limit_1 : Cond.fieldLink RX4 10 "StripInFiveSteps" "now" "LStripInFiveSteps$Shed;" ∈ wsX4_limit := List.mem_of_getElem? (i := 1) rfl
theorem kX4_limit : Cal yX4_limit wsX4_limit cX4_limit 4 (some .int) 1 := ⟨⟨_, rfl⟩, by decide +kernel⟩
set_option maxHeartbeats 4000000 in
set_option maxRecDepth 100000 in
theorem c_X4_limit (l : Launch) (g : EE) (x0 : Nat) (h0 : Nat) (d0 : Nat) (k0 : Nat) (b0 : Nat) (a0 : Nat) (t0 : Nat) (r0 : Nat) (r1 : Nat) (ik : Nat) (rn : Nat) (h1 : Nat) (h2 : Nat) (W : Nat → Nat) (B : Nat → Nat) (sk : Nat) (ek : Nat) (tr : Nat) (rf : Nat → Int32) (x : Int32) (hW : ∀ j, W j ≤ 9) (hB : okB B) : CI l yX4_limit wsX4_limit ({ frames := 3, cells := 0, slots := 0, locals := 69 }) g [.ref x0, .int x] [(x0, .inr (4, [.ref h0, .ref d0, .ref k0, .int (nI ik), .ref b0, .ref a0, .ref t0, .ref r0, .int (nI rn), .ref r1])), (h0, .inr (0, [.ref h1, .ref h2, .int (nI sk), .int (nI ek), .int (nI tr)])), (h1, .inl (eI g, 41, .inl (fun j => nI (W j)))), (h2, .inl (eI g, 5, .inl (fun j => nI (B j)))), (r1, .inl (eI g, 7, .inl rf))] (fun (rz : Int32) (wz : va_W) => rz = (rsp (if 0 ≤ x.toInt ∧ x.toInt ≤ 2 then 0 else 2) (if x.toInt = 0 then ff (lpB W) 40 1 else if x.toInt = 1 then fl (lpB W) 40 else midS W)) ∧ wz = [(x0, .inr (4, [.ref h0, .ref d0, .ref k0, .int (nI ik), .ref b0, .ref a0, .ref t0, .ref r0, .int (nI rn), .ref r1])), (h0, .inr (0, [.ref h1, .ref h2, .int (nI sk), .int (nI ek), .int (nI tr)])), (h1, .inl (eI g, 41, .inl (fun j => nI (W j)))), (h2, .inl (eI g, 5, .inl (fun j => nI (B j)))), (r1, .inl (eI g, 7, .inl (bump rf (if 0 ≤ x.toInt ∧ x.toInt ≤ 2 then 0 else 2))))]) 0 0 := by
  refine ctI (cc := cX4_limit) (maxL := 4) (ret := (some .int)) (by decide) rfl (Nat.le_of_ble_eq_true rfl) ?_
  intro p_ e_ s_ m_ bl_ mt_ cd_ A ls F hnm hP hD hS hl
  obtain ⟨hx, hb, hml, hown, hts, hK, hX, hA, hrt_, hlocks⟩ := id F
  have hl : lv_has ls 4 [(0, .ref x0), (1, .int x)] := hl
  obtain ⟨hb0, hb1, hb2, hb3, hb4, hb5⟩ := okB_b hB
  refine lv_aload_n hx hb dX4_limit_0 rfl (lv_at hl 0 rfl) ?_
  refine xget F hP inX4_limit_X4 0 rfl rfl 0 (by decide) lkX4_limit_1 rfl dX4_limit_1 ?_
  refine cVL (As := []) (rest := []) F (c_X0_left l g h0 h1 h2 W B sk ek tr (hW)) kX0_left rfl gX4_limit_X0_left rfl rfl ⟨Nat.le_of_ble_eq_true rfl, Nat.le_of_ble_eq_true rfl⟩ hP hD hS [1, 2, 3] [0, 4] rfl rfl 0 rfl rfl hl.1 rfl rfl (Nat.le_of_ble_eq_true rfl) dX4_limit_4 ⟨Nat.le_of_ble_eq_true rfl, Nat.le_of_ble_eq_true rfl⟩ (fun rz w1 H locs hpo hP hD hS => ?_)
  obtain ⟨rfl, rfl⟩ := hpo
  obtain ⟨hP, hD⟩ := nx (ws' := [(x0, .inr (4, [.ref h0, .ref d0, .ref k0, .int (nI ik), .ref b0, .ref a0, .ref t0, .ref r0, .int (nI rn), .ref r1])), (h0, .inr (0, [.ref h1, .ref h2, .int (nI sk), .int (nI ek), .int (nI tr)])), (h1, .inl (eI g, 41, .inl (fun j => nI (W j)))), (h2, .inl (eI g, 5, .inl (fun j => nI (B j)))), (r1, .inl (eI g, 7, .inl rf))]) hP hD [0, 2, 3, 4, 1] (ndB_ok _ rfl) rfl
  refine lv_lstore_n (lv' := [(2, .long (lfM W)), (0, .ref x0), (1, .int x)]) hx hb dX4_limit_7 rfl hl (by decide) rfl (fun ls hl => ?_)
  refine lv_iload_n hx hb dX4_limit_8 rfl (lv_at hl 2 rfl) ?_
  rcases (show x.toInt < 0 ∨ x.toInt = 0 ∨ x.toInt = 1 ∨ x.toInt = 2 ∨ 2 < x.toInt by omega) with c9 | c9 | c9 | c9 | c9
  · refine lv_tableOut (tgt := 54) hx hb dX4_limit_9 (Or.inl (by omega)) (by decide) ?_
    refine lv_aload_n hx hb dX4_limit_54 rfl (lv_at hl 1 rfl) ?_
    refine lv_bipush (v := (-2)) hx hb dX4_limit_55 (by decide) ?_
    refine cVI (As := [.int (-2)]) (rest := []) F (c_X4_refuse l g x0 h0 d0 k0 b0 a0 t0 r0 r1 ik rn rf (-2) 2 (by decide) (by omega) (by omega)) kX4_refuse rfl gX4_limit_X4_refuse rfl rfl ⟨Nat.le_of_ble_eq_true rfl, Nat.le_of_ble_eq_true rfl⟩ hP hD hS [0, 4] [1, 2, 3] rfl rfl 0 rfl rfl hl.1 rfl rfl (Nat.le_of_ble_eq_true rfl) dX4_limit_57 ⟨Nat.le_of_ble_eq_true rfl, Nat.le_of_ble_eq_true rfl⟩ (fun rz w1 H locs hpo hP hD hS => ?_)
    obtain ⟨rfl, rfl⟩ := hpo
    obtain ⟨hP, hD⟩ := nx (ws' := [(x0, .inr (4, [.ref h0, .ref d0, .ref k0, .int (nI ik), .ref b0, .ref a0, .ref t0, .ref r0, .int (nI rn), .ref r1])), (h0, .inr (0, [.ref h1, .ref h2, .int (nI sk), .int (nI ek), .int (nI tr)])), (h1, .inl (eI g, 41, .inl (fun j => nI (W j)))), (h2, .inl (eI g, 5, .inl (fun j => nI (B j)))), (r1, .inl (eI g, 7, .inl (bump rf 2)))]) hP hD [3, 0, 1, 2, 4] (ndB_ok _ rfl) rfl
    exact rtI F hP hD hS dX4_limit_60 (by rw [show (if 0 ≤ x.toInt ∧ x.toInt ≤ 2 then 0 else 2) = 2 from (by first | (exfalso; omega) | ((try simp only [true_and, and_true]); (repeat (first | rw [if_pos (by omega)] | rw [if_neg (by omega)])) <;> rfl))]; first | done | exact ⟨by rfl, by rfl⟩)
  · refine lv_tableIn (tgt := 36) hx hb dX4_limit_9 (by rw [c9]; decide) (by rw [c9]; decide) (by rw [c9]; rfl) (by decide) ?_
    refine lv_lload_n hx hb dX4_limit_36 rfl (lv_at hl 0 rfl) ?_
    refine cSI (As := [.long (lfM W)]) (rest := []) F (c_X4_shortestOf l g (lfM W) ) kX4_shortestOf gX4_limit_X4_shortestOf rfl rfl ⟨Nat.le_of_ble_eq_true rfl, Nat.le_of_ble_eq_true rfl⟩ hP hD hS [] [0, 1, 2, 3, 4] rfl rfl hl.1 rfl rfl (Nat.le_of_ble_eq_true rfl) dX4_limit_37 ⟨Nat.le_of_ble_eq_true rfl, Nat.le_of_ble_eq_true rfl⟩ (fun rz w1 H locs hpo hP hD hS => ?_)
    obtain ⟨rfl, rfl⟩ := hpo
    obtain ⟨hP, hD⟩ := nx (ws' := [(x0, .inr (4, [.ref h0, .ref d0, .ref k0, .int (nI ik), .ref b0, .ref a0, .ref t0, .ref r0, .int (nI rn), .ref r1])), (h0, .inr (0, [.ref h1, .ref h2, .int (nI sk), .int (nI ek), .int (nI tr)])), (h1, .inl (eI g, 41, .inl (fun j => nI (W j)))), (h2, .inl (eI g, 5, .inl (fun j => nI (B j)))), (r1, .inl (eI g, 7, .inl rf))]) hP hD [0, 1, 2, 3, 4] (ndB_ok _ rfl) rfl
    exact rtI F hP hD hS dX4_limit_40 (by rw [show (if 0 ≤ x.toInt ∧ x.toInt ≤ 2 then 0 else 2) = 0 from (by first | (exfalso; omega) | ((try simp only [true_and, and_true]); (repeat (first | rw [if_pos (by omega)] | rw [if_neg (by omega)])) <;> rfl))]; first | done | exact ⟨by first | ((try simp only [true_and, and_true, bitL_lfM, rsp_0, rspL_0, bump_0]) <;> (repeat (first | rw [if_pos (by omega)] | rw [if_neg (by omega)])) <;> rfl) | (exfalso; omega), by first | ((try simp only [true_and, and_true, bitL_lfM, rsp_0, rspL_0, bump_0]) <;> (repeat (first | rw [if_pos (by omega)] | rw [if_neg (by omega)])) <;> rfl) | (exfalso; omega)⟩)
  · refine lv_tableIn (tgt := 41) hx hb dX4_limit_9 (by rw [c9]; decide) (by rw [c9]; decide) (by rw [c9]; rfl) (by decide) ?_
    refine lv_lload_n hx hb dX4_limit_41 rfl (lv_at hl 0 rfl) ?_
    refine cSI (As := [.long (lfM W)]) (rest := []) F (c_X4_longestOf l g (lfM W) ) kX4_longestOf gX4_limit_X4_longestOf rfl rfl ⟨Nat.le_of_ble_eq_true rfl, Nat.le_of_ble_eq_true rfl⟩ hP hD hS [] [0, 1, 2, 3, 4] rfl rfl hl.1 rfl rfl (Nat.le_of_ble_eq_true rfl) dX4_limit_42 ⟨Nat.le_of_ble_eq_true rfl, Nat.le_of_ble_eq_true rfl⟩ (fun rz w1 H locs hpo hP hD hS => ?_)
    obtain ⟨rfl, rfl⟩ := hpo
    obtain ⟨hP, hD⟩ := nx (ws' := [(x0, .inr (4, [.ref h0, .ref d0, .ref k0, .int (nI ik), .ref b0, .ref a0, .ref t0, .ref r0, .int (nI rn), .ref r1])), (h0, .inr (0, [.ref h1, .ref h2, .int (nI sk), .int (nI ek), .int (nI tr)])), (h1, .inl (eI g, 41, .inl (fun j => nI (W j)))), (h2, .inl (eI g, 5, .inl (fun j => nI (B j)))), (r1, .inl (eI g, 7, .inl rf))]) hP hD [0, 1, 2, 3, 4] (ndB_ok _ rfl) rfl
    exact rtI F hP hD hS dX4_limit_45 (by rw [show (if 0 ≤ x.toInt ∧ x.toInt ≤ 2 then 0 else 2) = 0 from (by first | (exfalso; omega) | ((try simp only [true_and, and_true]); (repeat (first | rw [if_pos (by omega)] | rw [if_neg (by omega)])) <;> rfl))]; first | done | exact ⟨by first | ((try simp only [true_and, and_true, bitL_lfM, rsp_0, rspL_0, bump_0]) <;> (repeat (first | rw [if_pos (by omega)] | rw [if_neg (by omega)])) <;> rfl) | (exfalso; omega), by first | ((try simp only [true_and, and_true, bitL_lfM, rsp_0, rspL_0, bump_0]) <;> (repeat (first | rw [if_pos (by omega)] | rw [if_neg (by omega)])) <;> rfl) | (exfalso; omega)⟩)
  · refine lv_tableIn (tgt := 46) hx hb dX4_limit_9 (by rw [c9]; decide) (by rw [c9]; decide) (by rw [c9]; rfl) (by decide) ?_
    refine lv_aload_n hx hb dX4_limit_46 rfl (lv_at hl 1 rfl) ?_
    refine xget F hP inX4_limit_X4 0 rfl rfl 0 (by decide) lkX4_limit_1 rfl dX4_limit_47 ?_
    refine cVI (As := []) (rest := []) F (c_X0_middle l g h0 h1 h2 W B sk ek tr (hW)) kX0_middle rfl gX4_limit_X0_middle rfl rfl ⟨Nat.le_of_ble_eq_true rfl, Nat.le_of_ble_eq_true rfl⟩ hP hD hS [1, 2, 3] [0, 4] rfl rfl 0 rfl rfl hl.1 rfl rfl (Nat.le_of_ble_eq_true rfl) dX4_limit_50 ⟨Nat.le_of_ble_eq_true rfl, Nat.le_of_ble_eq_true rfl⟩ (fun rz w1 H locs hpo hP hD hS => ?_)
    obtain ⟨rfl, rfl⟩ := hpo
    obtain ⟨hP, hD⟩ := nx (ws' := [(x0, .inr (4, [.ref h0, .ref d0, .ref k0, .int (nI ik), .ref b0, .ref a0, .ref t0, .ref r0, .int (nI rn), .ref r1])), (h0, .inr (0, [.ref h1, .ref h2, .int (nI sk), .int (nI ek), .int (nI tr)])), (h1, .inl (eI g, 41, .inl (fun j => nI (W j)))), (h2, .inl (eI g, 5, .inl (fun j => nI (B j)))), (r1, .inl (eI g, 7, .inl rf))]) hP hD [0, 2, 3, 4, 1] (ndB_ok _ rfl) rfl
    exact rtI F hP hD hS dX4_limit_53 (by rw [show (if 0 ≤ x.toInt ∧ x.toInt ≤ 2 then 0 else 2) = 0 from (by first | (exfalso; omega) | ((try simp only [true_and, and_true]); (repeat (first | rw [if_pos (by omega)] | rw [if_neg (by omega)])) <;> rfl))]; first | done | exact ⟨by first | ((try simp only [true_and, and_true, bitL_lfM, rsp_0, rspL_0, bump_0]) <;> (repeat (first | rw [if_pos (by omega)] | rw [if_neg (by omega)])) <;> rfl) | (exfalso; omega), by first | ((try simp only [true_and, and_true, bitL_lfM, rsp_0, rspL_0, bump_0]) <;> (repeat (first | rw [if_pos (by omega)] | rw [if_neg (by omega)])) <;> rfl) | (exfalso; omega)⟩)
  · refine lv_tableOut (tgt := 54) hx hb dX4_limit_9 (Or.inr (by omega)) (by decide) ?_
    refine lv_aload_n hx hb dX4_limit_54 rfl (lv_at hl 1 rfl) ?_
    refine lv_bipush (v := (-2)) hx hb dX4_limit_55 (by decide) ?_
    refine cVI (As := [.int (-2)]) (rest := []) F (c_X4_refuse l g x0 h0 d0 k0 b0 a0 t0 r0 r1 ik rn rf (-2) 2 (by decide) (by omega) (by omega)) kX4_refuse rfl gX4_limit_X4_refuse rfl rfl ⟨Nat.le_of_ble_eq_true rfl, Nat.le_of_ble_eq_true rfl⟩ hP hD hS [0, 4] [1, 2, 3] rfl rfl 0 rfl rfl hl.1 rfl rfl (Nat.le_of_ble_eq_true rfl) dX4_limit_57 ⟨Nat.le_of_ble_eq_true rfl, Nat.le_of_ble_eq_true rfl⟩ (fun rz w1 H locs hpo hP hD hS => ?_)
    obtain ⟨rfl, rfl⟩ := hpo
    obtain ⟨hP, hD⟩ := nx (ws' := [(x0, .inr (4, [.ref h0, .ref d0, .ref k0, .int (nI ik), .ref b0, .ref a0, .ref t0, .ref r0, .int (nI rn), .ref r1])), (h0, .inr (0, [.ref h1, .ref h2, .int (nI sk), .int (nI ek), .int (nI tr)])), (h1, .inl (eI g, 41, .inl (fun j => nI (W j)))), (h2, .inl (eI g, 5, .inl (fun j => nI (B j)))), (r1, .inl (eI g, 7, .inl (bump rf 2)))]) hP hD [3, 0, 1, 2, 4] (ndB_ok _ rfl) rfl
    exact rtI F hP hD hS dX4_limit_60 (by rw [show (if 0 ≤ x.toInt ∧ x.toInt ≤ 2 then 0 else 2) = 2 from (by first | (exfalso; omega) | ((try simp only [true_and, and_true]); (repeat (first | rw [if_pos (by omega)] | rw [if_neg (by omega)])) <;> rfl))]; first | done | exact ⟨by rfl, by rfl⟩)

theorem inX5_limit_X5 : ∀ w ∈ u_ws RX5 TX5 20, w ∈ wsX5_limit := fun _ h => (List.mem_cons_of_mem _ (List.mem_append_right _ h))
theorem lkX5_limit_1 : Cond.fieldLink RX5 19 "StripInFiveStepsModel" "now" "[I" ∈ wsX5_limit := List.mem_of_getElem? (i := 1) rfl
theorem kX5_limit : Cal yX5_limit wsX5_limit cX5_limit 4 (some .int) 1 := ⟨⟨_, rfl⟩, by decide +kernel⟩
set_option maxHeartbeats 4000000 in
set_option maxRecDepth 100000 in
theorem c_X5_limit (l : Launch) (g : EE) (m0 : Nat) (m1 : Nat) (m2 : Nat) (m3 : Nat) (m4 : Nat) (m5 : Nat) (m6 : Nat) (m7 : Nat) (m8 : Nat) (m9 : Nat) (m10 : Nat) (m11 : Nat) (m12 : Nat) (m13 : Nat) (m14 : Nat) (kp : Nat) (rn : Nat) (tn : Nat) (ia : Nat) (wl : Nat) (si : Nat) (S : Nat → Nat) (rf : Nat → Int32) (x : Int32) (hO : okS S) : CI l yX5_limit wsX5_limit ({ frames := 2, cells := 0, slots := 0, locals := 42 }) g [.ref m0, .int x] [(m0, .inr (5, [.ref m1, .ref m2, .ref m3, .int (nI kp), .ref m4, .ref m5, .ref m6, .ref m7, .ref m8, .int (nI rn), .ref m9, .int (nI tn), .int (nI ia), .int (nI wl), .ref m10, .ref m11, .ref m12, .int (nI si), .ref m13, .ref m14])), (m1, .inl (eI g, 7, .inl rf)), (m2, .inl (eI g, 49, .inl (fun j => nI (S j))))] (fun (rz : Int32) (wz : va_W) => rz = (rsp (if 0 ≤ x.toInt ∧ x.toInt ≤ 2 then 0 else 2) (if x.toInt = 0 then ff (lpB S) 40 1 else if x.toInt = 1 then fl (lpB S) 40 else midS S)) ∧ wz = [(m0, .inr (5, [.ref m1, .ref m2, .ref m3, .int (nI kp), .ref m4, .ref m5, .ref m6, .ref m7, .ref m8, .int (nI rn), .ref m9, .int (nI tn), .int (nI ia), .int (nI wl), .ref m10, .ref m11, .ref m12, .int (nI si), .ref m13, .ref m14])), (m1, .inl (eI g, 7, .inl (bump rf (if 0 ≤ x.toInt ∧ x.toInt ≤ 2 then 0 else 2)))), (m2, .inl (eI g, 49, .inl (fun j => nI (S j))))]) 0 0 := by
  refine ctI (cc := cX5_limit) (maxL := 4) (ret := (some .int)) (by decide) rfl (Nat.le_of_ble_eq_true rfl) ?_
  intro p_ e_ s_ m_ bl_ mt_ cd_ A ls F hnm hP hD hS hl
  obtain ⟨hx, hb, hml, hown, hts, hK, hX, hA, hrt_, hlocks⟩ := id F
  have hl : lv_has ls 4 [(0, .ref m0), (1, .int x)] := hl
  obtain ⟨hw40, ⟨h41a, h41b⟩, ⟨h42a, h42b⟩, h43, h44, h45, h46, h47, h48⟩ := id hO
  refine lv_iload_n hx hb dX5_limit_0 rfl (lv_at hl 1 rfl) ?_
  refine wlt (tgt := 9) hx hb dX5_limit_1 (by decide) (fun c1 => ?_) (fun c1 => ?_)
  · skip
    refine lv_aload_n hx hb dX5_limit_9 rfl (lv_at hl 0 rfl) ?_
    refine lv_bipush (v := (-2)) hx hb dX5_limit_10 (by decide) ?_
    refine cVI (As := [.int (-2)]) (rest := []) F (c_X5_no l g m0 m1 m2 m3 m4 m5 m6 m7 m8 m9 m10 m11 m12 m13 m14 kp rn tn ia wl si rf (-2) 2 (by decide) (by omega) (by omega)) kX5_no rfl gX5_limit_X5_no rfl rfl ⟨Nat.le_of_ble_eq_true rfl, Nat.le_of_ble_eq_true rfl⟩ hP hD hS [0, 1] [2] rfl rfl 0 rfl rfl hl.1 rfl rfl (Nat.le_of_ble_eq_true rfl) dX5_limit_12 ⟨Nat.le_of_ble_eq_true rfl, Nat.le_of_ble_eq_true rfl⟩ (fun rz w1 H locs hpo hP hD hS => ?_)
    obtain ⟨rfl, rfl⟩ := hpo
    obtain ⟨hP, hD⟩ := nx (ws' := [(m0, .inr (5, [.ref m1, .ref m2, .ref m3, .int (nI kp), .ref m4, .ref m5, .ref m6, .ref m7, .ref m8, .int (nI rn), .ref m9, .int (nI tn), .int (nI ia), .int (nI wl), .ref m10, .ref m11, .ref m12, .int (nI si), .ref m13, .ref m14])), (m1, .inl (eI g, 7, .inl (bump rf 2))), (m2, .inl (eI g, 49, .inl (fun j => nI (S j))))]) hP hD [1, 2, 0] (ndB_ok _ rfl) rfl
    exact rtI F hP hD hS dX5_limit_15 (by rw [show (if 0 ≤ x.toInt ∧ x.toInt ≤ 2 then 0 else 2) = 2 from (by first | (exfalso; omega) | ((try simp only [true_and, and_true]); (repeat (first | rw [if_pos (by omega)] | rw [if_neg (by omega)])) <;> rfl))]; first | done | exact ⟨by rfl, by rfl⟩)
  · skip
    refine lv_iload_n hx hb dX5_limit_4 rfl (lv_at hl 1 rfl) ?_
    refine lv_iconst (v := (nI 2)) hx hb dX5_limit_5 (by decide) ?_
    refine yle (tgt := 16) hx hb dX5_limit_6 (by decide) (by omega) (fun c6 => ?_) (fun c6 => ?_)
    · skip
      obtain ⟨k, hk_, rfl⟩ := natOf (x := x) (by omega)
      rw [nI_tI hk_] at c1
      rw [nI_tI hk_] at c6
      refine lv_aload_n hx hb dX5_limit_16 rfl (lv_at hl 0 rfl) ?_
      refine cVI (As := []) (rest := []) F (c_X5_isEmpty l g m0 m1 m2 m3 m4 m5 m6 m7 m8 m9 m10 m11 m12 m13 m14 kp rn tn ia wl si S (hO)) kX5_isEmpty rfl gX5_limit_X5_isEmpty rfl rfl ⟨Nat.le_of_ble_eq_true rfl, Nat.le_of_ble_eq_true rfl⟩ hP hD hS [0, 2] [1] rfl rfl 0 rfl rfl hl.1 rfl rfl (Nat.le_of_ble_eq_true rfl) dX5_limit_17 ⟨Nat.le_of_ble_eq_true rfl, Nat.le_of_ble_eq_true rfl⟩ (fun rz w1 H locs hpo hP hD hS => ?_)
      obtain ⟨rfl, rfl⟩ := hpo
      obtain ⟨hP, hD⟩ := nx (ws' := [(m0, .inr (5, [.ref m1, .ref m2, .ref m3, .int (nI kp), .ref m4, .ref m5, .ref m6, .ref m7, .ref m8, .int (nI rn), .ref m9, .int (nI tn), .int (nI ia), .int (nI wl), .ref m10, .ref m11, .ref m12, .int (nI si), .ref m13, .ref m14])), (m1, .inl (eI g, 7, .inl rf)), (m2, .inl (eI g, 49, .inl (fun j => nI (S j))))]) hP hD [1, 0, 2] (ndB_ok _ rfl) rfl
      refine bqeq (tgt := 26) hx hb dX5_limit_20 (by decide) (fun c20 => ?_) (fun c20 => ?_)
      · skip
        have hc0 : ¬ cnS (lpB S) = 0 := fun z => c20 ((em0 S).mpr z)
        refine lv_iload_n hx hb dX5_limit_26 rfl (lv_at hl 1 rfl) ?_
        refine lv_iconst (v := (nI 2)) hx hb dX5_limit_27 (by decide) ?_
        refine xge (tgt := 53) hx hb dX5_limit_28 (by decide) (by omega) (by omega) (fun c28 => ?_) (fun c28 => ?_)
        · skip
          refine lv_iconst (v := (nI 0)) hx hb dX5_limit_53 (by decide) ?_
          refine lv_istore_n (lv' := [(2, .int (nI 0)), (0, .ref m0), (1, .int (nI k))]) hx hb dX5_limit_54 rfl hl (by decide) rfl (fun ls hl => ?_)
          refine lv_iconst (v := (nI 0)) hx hb dX5_limit_55 (by decide) ?_
          refine lv_istore_n (lv' := [(3, .int (nI 0)), (2, .int (nI 0)), (0, .ref m0), (1, .int (nI k))]) hx hb dX5_limit_56 rfl hl (by decide) rfl (fun ls hl => ?_)
          refine xlo (σ := Nat × Nat) 4 (fun xz_ => (fun (r : Nat) (a : Nat) => [(0, .ref m0), (1, .int (nI k)), (2, .int (nI r)), (3, .int (nI a))]) xz_.1 xz_.2) (fun xz_ => (fun (r : Nat) (a : Nat) => [(m0, .inr (5, [.ref m1, .ref m2, .ref m3, .int (nI kp), .ref m4, .ref m5, .ref m6, .ref m7, .ref m8, .int (nI rn), .ref m9, .int (nI tn), .int (nI ia), .int (nI wl), .ref m10, .ref m11, .ref m12, .int (nI si), .ref m13, .ref m14])), (m1, .inl (eI g, 7, .inl rf)), (m2, .inl (eI g, 49, .inl (fun j => nI (S j))))]) xz_.1 xz_.2) (fun xz_ => (fun (r : Nat) (a : Nat) => a = sg S r ∧ r ≤ 40 ∧ ∀ j, j < r → 2 * sg S j < sg S 40) xz_.1 xz_.2) (fun xz_ => (fun (r : Nat) (a : Nat) => 40 - r) xz_.1 xz_.2) (fun xz_ hI ih57 H locs ls hP hD hS hl => ?_) (0, 0) (show 0 = sg S 0 ∧ 0 ≤ 40 ∧ ∀ j, j < 0 → 2 * sg S j < sg S 40 from (⟨rfl, by omega, fun j hj => absurd hj (Nat.not_lt_zero _)⟩)) hP hD hS (lv_sub hl [2, 3, 1, 0] rfl)
          obtain ⟨r, a⟩ := xz_
          have hP : va_P (eD g) vwCl [(m0, .inr (5, [.ref m1, .ref m2, .ref m3, .int (nI kp), .ref m4, .ref m5, .ref m6, .ref m7, .ref m8, .int (nI rn), .ref m9, .int (nI tn), .int (nI ia), .int (nI wl), .ref m10, .ref m11, .ref m12, .int (nI si), .ref m13, .ref m14])), (m1, .inl (eI g, 7, .inl rf)), (m2, .inl (eI g, 49, .inl (fun j => nI (S j))))] H := hP
          have hD : va_D A [(m0, .inr (5, [.ref m1, .ref m2, .ref m3, .int (nI kp), .ref m4, .ref m5, .ref m6, .ref m7, .ref m8, .int (nI rn), .ref m9, .int (nI tn), .int (nI ia), .int (nI wl), .ref m10, .ref m11, .ref m12, .int (nI si), .ref m13, .ref m14])), (m1, .inl (eI g, 7, .inl rf)), (m2, .inl (eI g, 49, .inl (fun j => nI (S j))))] := hD
          have hl : lv_has ls 4 [(0, .ref m0), (1, .int (nI k)), (2, .int (nI r)), (3, .int (nI a))] := hl
          have hI57 : a = sg S r ∧ r ≤ 40 ∧ ∀ j, j < r → 2 * sg S j < sg S 40 := hI
          clear hI
          obtain ⟨ha, hr2, hjj⟩ := id hI57
          have hj := hjj
          have hw40 := sgW_b hO.1
          have hab : a ≤ 360 := by rw [ha]; exact Nat.le_trans (sg_mono hr2) hw40
          have hr40 : 2 * a < sg S 40 → r < 40 := fun h => by rcases (show r < 40 ∨ r = 40 by omega) with e | e; exact e; rw [e] at ha; omega
          refine lv_iconst (v := (nI 2)) hx hb dX5_limit_57 (by decide) ?_
          refine lv_iload_n hx hb dX5_limit_58 rfl (lv_at hl 3 rfl) ?_
          refine xmul hx hb dX5_limit_59 ?_
          refine lv_aload_n hx hb dX5_limit_60 rfl (lv_at hl 0 rfl) ?_
          refine xget F hP inX5_limit_X5 0 rfl rfl 1 (by decide) lkX5_limit_1 rfl dX5_limit_61 ?_
          refine cSI (As := [.ref m2]) (rest := [.int (nI (2 * a))]) F (c_X5_weight l g m2 S ) kX5_weight gX5_limit_X5_weight rfl rfl ⟨Nat.le_of_ble_eq_true rfl, Nat.le_of_ble_eq_true rfl⟩ hP hD hS [2] [0, 1] rfl rfl hl.1 rfl rfl (Nat.le_of_ble_eq_true rfl) dX5_limit_64 ⟨Nat.le_of_ble_eq_true rfl, Nat.le_of_ble_eq_true rfl⟩ (fun rz w1 H locs hpo hP hD hS => ?_)
          obtain ⟨rfl, rfl⟩ := hpo
          obtain ⟨hP, hD⟩ := nx (ws' := [(m0, .inr (5, [.ref m1, .ref m2, .ref m3, .int (nI kp), .ref m4, .ref m5, .ref m6, .ref m7, .ref m8, .int (nI rn), .ref m9, .int (nI tn), .int (nI ia), .int (nI wl), .ref m10, .ref m11, .ref m12, .int (nI si), .ref m13, .ref m14])), (m1, .inl (eI g, 7, .inl rf)), (m2, .inl (eI g, 49, .inl (fun j => nI (S j))))]) hP hD [0, 1, 2] (ndB_ok _ rfl) rfl
          refine xge (tgt := 85) hx hb dX5_limit_67 (by decide) (by omega) (by omega) (fun c67 => ?_) (fun c67 => ?_)
          · skip
            refine lv_iload_n hx hb dX5_limit_85 rfl (lv_at hl 2 rfl) ?_
            exact rtI F hP hD hS dX5_limit_86 (by rw [show (if 0 ≤ (nI k).toInt ∧ (nI k).toInt ≤ 2 then 0 else 2) = 0 from (by rw [nI_tI hk_, if_pos (by omega)])]; exact ⟨by rw [rsp_0, nI_tI hk_, if_neg (by omega), if_neg (by omega)]; exact mid_at hc0 hr2 hj (by rw [← ha]; omega), rfl⟩)
          · skip
            refine lv_iinc (v := (nI (r + 1))) (lv' := [(2, .int (nI (r + 1))), (0, .ref m0), (1, .int (nI k)), (3, .int (nI a))]) hx hb dX5_limit_70 hl (k := 2) rfl (iincP r 1) (by decide) rfl (fun ls hl => ?_)
            refine lv_iload_n hx hb dX5_limit_73 rfl (lv_at hl 3 rfl) ?_
            refine lv_aload_n hx hb dX5_limit_74 rfl (lv_at hl 1 rfl) ?_
            refine xget F hP inX5_limit_X5 0 rfl rfl 1 (by decide) lkX5_limit_1 rfl dX5_limit_75 ?_
            refine lv_iload_n hx hb dX5_limit_78 rfl (lv_at hl 0 rfl) ?_
            refine xald F hP 2 (v := (nI (S (r + 1)))) rfl (by omega) (by omega) rfl dX5_limit_79 ?_
            refine xadd hx hb dX5_limit_80 ?_
            refine lv_istore_n (lv' := [(3, .int (nI (a + (S (r + 1))))), (2, .int (nI (r + 1))), (0, .ref m0), (1, .int (nI k))]) hx hb dX5_limit_81 rfl hl (by decide) rfl (fun ls hl => ?_)
            refine lv_goto (tgt := 57) hx hb dX5_limit_82 (by decide) ?_
            exact ih57 (r + 1, a + (S (r + 1))) (show (a + (S (r + 1))) = sg S (r + 1) ∧ (r + 1) ≤ 40 ∧ ∀ j, j < (r + 1) → 2 * sg S j < sg S 40 from (⟨by rw [ha]; rfl, by omega, fun j hj => by rcases (show j < r ∨ j = r by omega) with e | e; exact hjj j e; rw [e, ← ha]; omega⟩)) (show 40 - (r + 1) < 40 - r from (by omega)) _ _ _ hP hD hS (lv_sub hl [2, 3, 1, 0] rfl)
        · skip
          refine lv_iload_n hx hb dX5_limit_31 rfl (lv_at hl 1 rfl) ?_
          refine zne (tgt := 45) hx hb dX5_limit_32 (by decide) (by omega) (fun c32 => ?_) (fun c32 => ?_)
          · skip
            refine lv_aload_n hx hb dX5_limit_45 rfl (lv_at hl 0 rfl) ?_
            refine xget F hP inX5_limit_X5 0 rfl rfl 1 (by decide) lkX5_limit_1 rfl dX5_limit_46 ?_
            refine cSI (As := [.ref m2]) (rest := []) F (c_X5_longest l g m2 S (hO.1) (ne_ex hc0)) kX5_longest gX5_limit_X5_longest rfl rfl ⟨Nat.le_of_ble_eq_true rfl, Nat.le_of_ble_eq_true rfl⟩ hP hD hS [2] [0, 1] rfl rfl hl.1 rfl rfl (Nat.le_of_ble_eq_true rfl) dX5_limit_49 ⟨Nat.le_of_ble_eq_true rfl, Nat.le_of_ble_eq_true rfl⟩ (fun rz w1 H locs hpo hP hD hS => ?_)
            obtain ⟨rfl, rfl⟩ := hpo
            obtain ⟨hP, hD⟩ := nx (ws' := [(m0, .inr (5, [.ref m1, .ref m2, .ref m3, .int (nI kp), .ref m4, .ref m5, .ref m6, .ref m7, .ref m8, .int (nI rn), .ref m9, .int (nI tn), .int (nI ia), .int (nI wl), .ref m10, .ref m11, .ref m12, .int (nI si), .ref m13, .ref m14])), (m1, .inl (eI g, 7, .inl rf)), (m2, .inl (eI g, 49, .inl (fun j => nI (S j))))]) hP hD [0, 1, 2] (ndB_ok _ rfl) rfl
            exact rtI F hP hD hS dX5_limit_52 (by rw [show (if 0 ≤ (nI k).toInt ∧ (nI k).toInt ≤ 2 then 0 else 2) = 0 from (by rw [nI_tI hk_, if_pos (by omega)])]; exact ⟨by rw [rsp_0, nI_tI hk_] <;> (repeat (first | rw [if_pos (by omega)] | rw [if_neg (by omega)])) <;> rfl, rfl⟩)
          · skip
            refine lv_aload_n hx hb dX5_limit_35 rfl (lv_at hl 0 rfl) ?_
            refine xget F hP inX5_limit_X5 0 rfl rfl 1 (by decide) lkX5_limit_1 rfl dX5_limit_36 ?_
            refine cSI (As := [.ref m2]) (rest := []) F (c_X5_shortest l g m2 S (hO.1) (ne_ex hc0)) kX5_shortest gX5_limit_X5_shortest rfl rfl ⟨Nat.le_of_ble_eq_true rfl, Nat.le_of_ble_eq_true rfl⟩ hP hD hS [2] [0, 1] rfl rfl hl.1 rfl rfl (Nat.le_of_ble_eq_true rfl) dX5_limit_39 ⟨Nat.le_of_ble_eq_true rfl, Nat.le_of_ble_eq_true rfl⟩ (fun rz w1 H locs hpo hP hD hS => ?_)
            obtain ⟨rfl, rfl⟩ := hpo
            obtain ⟨hP, hD⟩ := nx (ws' := [(m0, .inr (5, [.ref m1, .ref m2, .ref m3, .int (nI kp), .ref m4, .ref m5, .ref m6, .ref m7, .ref m8, .int (nI rn), .ref m9, .int (nI tn), .int (nI ia), .int (nI wl), .ref m10, .ref m11, .ref m12, .int (nI si), .ref m13, .ref m14])), (m1, .inl (eI g, 7, .inl rf)), (m2, .inl (eI g, 49, .inl (fun j => nI (S j))))]) hP hD [0, 1, 2] (ndB_ok _ rfl) rfl
            refine lv_goto (tgt := 52) hx hb dX5_limit_42 (by decide) ?_
            exact rtI F hP hD hS dX5_limit_52 (by rw [show (if 0 ≤ (nI k).toInt ∧ (nI k).toInt ≤ 2 then 0 else 2) = 0 from (by rw [nI_tI hk_, if_pos (by omega)])]; exact ⟨by rw [rsp_0, nI_tI hk_] <;> (repeat (first | rw [if_pos (by omega)] | rw [if_neg (by omega)])) <;> rfl, rfl⟩)
      · skip
        have hc0 : cnS (lpB S) = 0 := (em0 S).mp c20
        refine lv_bipush (v := (-9)) hx hb dX5_limit_23 (by decide) ?_
        exact rtI F hP hD hS dX5_limit_25 (by rw [show (if 0 ≤ (nI k).toInt ∧ (nI k).toInt ≤ 2 then 0 else 2) = 0 from (by rw [nI_tI hk_, if_pos (by omega)])]; exact ⟨by rw [rsp_0]; exact (lim0 hc0).symm, rfl⟩)
    · skip
      refine lv_aload_n hx hb dX5_limit_9 rfl (lv_at hl 0 rfl) ?_
      refine lv_bipush (v := (-2)) hx hb dX5_limit_10 (by decide) ?_
      refine cVI (As := [.int (-2)]) (rest := []) F (c_X5_no l g m0 m1 m2 m3 m4 m5 m6 m7 m8 m9 m10 m11 m12 m13 m14 kp rn tn ia wl si rf (-2) 2 (by decide) (by omega) (by omega)) kX5_no rfl gX5_limit_X5_no rfl rfl ⟨Nat.le_of_ble_eq_true rfl, Nat.le_of_ble_eq_true rfl⟩ hP hD hS [0, 1] [2] rfl rfl 0 rfl rfl hl.1 rfl rfl (Nat.le_of_ble_eq_true rfl) dX5_limit_12 ⟨Nat.le_of_ble_eq_true rfl, Nat.le_of_ble_eq_true rfl⟩ (fun rz w1 H locs hpo hP hD hS => ?_)
      obtain ⟨rfl, rfl⟩ := hpo
      obtain ⟨hP, hD⟩ := nx (ws' := [(m0, .inr (5, [.ref m1, .ref m2, .ref m3, .int (nI kp), .ref m4, .ref m5, .ref m6, .ref m7, .ref m8, .int (nI rn), .ref m9, .int (nI tn), .int (nI ia), .int (nI wl), .ref m10, .ref m11, .ref m12, .int (nI si), .ref m13, .ref m14])), (m1, .inl (eI g, 7, .inl (bump rf 2))), (m2, .inl (eI g, 49, .inl (fun j => nI (S j))))]) hP hD [1, 2, 0] (ndB_ok _ rfl) rfl
      exact rtI F hP hD hS dX5_limit_15 (by rw [show (if 0 ≤ x.toInt ∧ x.toInt ≤ 2 then 0 else 2) = 2 from (by first | (exfalso; omega) | ((try simp only [true_and, and_true]); (repeat (first | rw [if_pos (by omega)] | rw [if_neg (by omega)])) <;> rfl))]; first | done | exact ⟨by rfl, by rfl⟩)

theorem inX4_fewest_X4 : ∀ w ∈ u_ws RX4 TX4 10, w ∈ wsX4_fewest := fun _ h => (List.mem_cons_of_mem _ (List.mem_append_left _ (List.mem_append_right _ h)))
theorem lkX4_fewest_1 : Cond.fieldLink RX4 10 "StripInFiveSteps" "now" "LStripInFiveSteps$Shed;" ∈ wsX4_fewest := List.mem_of_getElem? (i := 1) rfl
theorem inX4_fewest_X0 : ∀ w ∈ u_ws RX0 TX0 5, w ∈ wsX4_fewest := fun _ h => (List.mem_cons_of_mem _ (List.mem_append_right _ h))
theorem lkX4_fewest_2 : Cond.fieldLink RX4 93 "StripInFiveSteps$Shed" "numbers" "[I" ∈ wsX4_fewest := List.mem_of_getElem? (i := 2) rfl
theorem lkX4_fewest_3 : Cond.fieldLink RX4 105 "StripInFiveSteps$Shed" "eyeKind" "I" ∈ wsX4_fewest := List.mem_of_getElem? (i := 3) rfl
theorem kX4_fewest : Cal yX4_fewest wsX4_fewest cX4_fewest 5 (some .int) 0 := ⟨⟨_, rfl⟩, by decide +kernel⟩
set_option maxHeartbeats 4000000 in
set_option maxRecDepth 100000 in
theorem c_X4_fewest (l : Launch) (g : EE) (x0 : Nat) (h0 : Nat) (d0 : Nat) (k0 : Nat) (b0 : Nat) (a0 : Nat) (t0 : Nat) (r0 : Nat) (r1 : Nat) (ik : Nat) (rn : Nat) (h1 : Nat) (h2 : Nat) (W : Nat → Nat) (B : Nat → Nat) (sk : Nat) (ek : Nat) (tr : Nat) (rf : Nat → Int32) (hW : ∀ j, W j ≤ 9) (hB : okB B) (hek : ek ≤ 4) : CI l yX4_fewest wsX4_fewest ({ frames := 2, cells := 0, slots := 0, locals := 42 }) g [.ref x0] [(x0, .inr (4, [.ref h0, .ref d0, .ref k0, .int (nI ik), .ref b0, .ref a0, .ref t0, .ref r0, .int (nI rn), .ref r1])), (h0, .inr (0, [.ref h1, .ref h2, .int (nI sk), .int (nI ek), .int (nI tr)])), (h1, .inl (eI g, 41, .inl (fun j => nI (W j)))), (h2, .inl (eI g, 5, .inl (fun j => nI (B j)))), (r1, .inl (eI g, 7, .inl rf))] (fun (rz : Int32) (wz : va_W) => rz = (rsp (if cnS (lpB W) = 0 then 3 else 0) (nI (fwF (B 0 + (if ek = 4 then 1 else 0)) (cnS (lpB W)) 41 0))) ∧ wz = [(x0, .inr (4, [.ref h0, .ref d0, .ref k0, .int (nI ik), .ref b0, .ref a0, .ref t0, .ref r0, .int (nI rn), .ref r1])), (h0, .inr (0, [.ref h1, .ref h2, .int (nI sk), .int (nI ek), .int (nI tr)])), (h1, .inl (eI g, 41, .inl (fun j => nI (W j)))), (h2, .inl (eI g, 5, .inl (fun j => nI (B j)))), (r1, .inl (eI g, 7, .inl (bump rf (if cnS (lpB W) = 0 then 3 else 0))))]) 0 0 := by
  refine ctI (cc := cX4_fewest) (maxL := 5) (ret := (some .int)) (by decide) rfl (Nat.le_of_ble_eq_true rfl) ?_
  intro p_ e_ s_ m_ bl_ mt_ cd_ A ls F hnm hP hD hS hl
  obtain ⟨hx, hb, hml, hown, hts, hK, hX, hA, hrt_, hlocks⟩ := id F
  have hl : lv_has ls 5 [(0, .ref x0)] := hl
  obtain ⟨hb0, hb1, hb2, hb3, hb4, hb5⟩ := okB_b hB
  refine lv_aload_n hx hb dX4_fewest_0 rfl (lv_at hl 0 rfl) ?_
  refine xget F hP inX4_fewest_X4 0 rfl rfl 0 (by decide) lkX4_fewest_1 rfl dX4_fewest_1 ?_
  refine cVL (As := []) (rest := []) F (c_X0_left l g h0 h1 h2 W B sk ek tr (hW)) kX0_left rfl gX4_fewest_X0_left rfl rfl ⟨Nat.le_of_ble_eq_true rfl, Nat.le_of_ble_eq_true rfl⟩ hP hD hS [1, 2, 3] [0, 4] rfl rfl 0 rfl rfl hl.1 rfl rfl (Nat.le_of_ble_eq_true rfl) dX4_fewest_4 ⟨Nat.le_of_ble_eq_true rfl, Nat.le_of_ble_eq_true rfl⟩ (fun rz w1 H locs hpo hP hD hS => ?_)
  obtain ⟨rfl, rfl⟩ := hpo
  obtain ⟨hP, hD⟩ := nx (ws' := [(x0, .inr (4, [.ref h0, .ref d0, .ref k0, .int (nI ik), .ref b0, .ref a0, .ref t0, .ref r0, .int (nI rn), .ref r1])), (h0, .inr (0, [.ref h1, .ref h2, .int (nI sk), .int (nI ek), .int (nI tr)])), (h1, .inl (eI g, 41, .inl (fun j => nI (W j)))), (h2, .inl (eI g, 5, .inl (fun j => nI (B j)))), (r1, .inl (eI g, 7, .inl rf))]) hP hD [0, 2, 3, 4, 1] (ndB_ok _ rfl) rfl
  refine cSI (As := [.long (lfM W)]) (rest := []) F (c_X4_size l g (lfM W) (inS_lf W)) kX4_size gX4_fewest_X4_size rfl rfl ⟨Nat.le_of_ble_eq_true rfl, Nat.le_of_ble_eq_true rfl⟩ hP hD hS [] [0, 1, 2, 3, 4] rfl rfl hl.1 rfl rfl (Nat.le_of_ble_eq_true rfl) dX4_fewest_7 ⟨Nat.le_of_ble_eq_true rfl, Nat.le_of_ble_eq_true rfl⟩ (fun rz w1 H locs hpo hP hD hS => ?_)
  obtain ⟨rfl, rfl⟩ := hpo
  obtain ⟨hP, hD⟩ := nx (ws' := [(x0, .inr (4, [.ref h0, .ref d0, .ref k0, .int (nI ik), .ref b0, .ref a0, .ref t0, .ref r0, .int (nI rn), .ref r1])), (h0, .inr (0, [.ref h1, .ref h2, .int (nI sk), .int (nI ek), .int (nI tr)])), (h1, .inl (eI g, 41, .inl (fun j => nI (W j)))), (h2, .inl (eI g, 5, .inl (fun j => nI (B j)))), (r1, .inl (eI g, 7, .inl rf))]) hP hD [0, 1, 2, 3, 4] (ndB_ok _ rfl) rfl
  refine sti (congrArg nI (show cnS (bitL (lfM W)) = cnS (lpB W) from by rw [bitL_lfM])) ?_
  have hcb := cnS_le (lpB W)
  refine lv_istore_n (lv' := [(1, .int (nI (cnS (lpB W)))), (0, .ref x0)]) hx hb dX4_fewest_10 rfl hl (by decide) rfl (fun ls hl => ?_)
  refine lv_iload_n hx hb dX4_fewest_11 rfl (lv_at hl 0 rfl) ?_
  refine zne (tgt := 22) hx hb dX4_fewest_12 (by decide) (by omega) (fun c12 => ?_) (fun c12 => ?_)
  · skip
    have hc0 : ¬ cnS (lpB W) = 0 := c12
    refine lv_aload_n hx hb dX4_fewest_22 rfl (lv_at hl 1 rfl) ?_
    refine xget F hP inX4_fewest_X4 0 rfl rfl 0 (by decide) lkX4_fewest_1 rfl dX4_fewest_23 ?_
    refine xget F hP inX4_fewest_X0 1 rfl rfl 1 (by decide) lkX4_fewest_2 rfl dX4_fewest_26 ?_
    refine lv_iconst (v := (nI 0)) hx hb dX4_fewest_29 (by decide) ?_
    refine xald F hP 3 (v := (nI (B 0))) rfl (by omega) (by omega) rfl dX4_fewest_30 ?_
    refine lv_aload_n hx hb dX4_fewest_31 rfl (lv_at hl 1 rfl) ?_
    refine xget F hP inX4_fewest_X4 0 rfl rfl 0 (by decide) lkX4_fewest_1 rfl dX4_fewest_32 ?_
    refine xget F hP inX4_fewest_X0 1 rfl rfl 3 (by decide) lkX4_fewest_3 rfl dX4_fewest_35 ?_
    refine lv_iconst (v := (nI 4)) hx hb dX4_fewest_38 (by decide) ?_
    refine xne (tgt := 46) hx hb dX4_fewest_39 (by decide) (by omega) (by omega) (fun c39 => ?_) (fun c39 => ?_)
    · skip
      refine lv_iconst (v := (nI 0)) hx hb dX4_fewest_46 (by decide) ?_
      refine xadd hx hb dX4_fewest_47 ?_
      refine lv_istore_n (lv' := [(2, .int (nI ((B 0) + 0))), (1, .int (nI (cnS (lpB W)))), (0, .ref x0)]) hx hb dX4_fewest_48 rfl hl (by decide) rfl (fun ls hl => ?_)
      refine lv_iconst (v := (nI 1)) hx hb dX4_fewest_49 (by decide) ?_
      refine lv_istore_n (lv' := [(3, .int (nI 1)), (2, .int (nI ((B 0) + 0))), (1, .int (nI (cnS (lpB W)))), (0, .ref x0)]) hx hb dX4_fewest_50 rfl hl (by decide) rfl (fun ls hl => ?_)
      refine lv_iconst (v := (nI 0)) hx hb dX4_fewest_51 (by decide) ?_
      refine lv_istore (lv' := [(4, .int (nI 0)), (3, .int (nI 1)), (2, .int (nI ((B 0) + 0))), (1, .int (nI (cnS (lpB W)))), (0, .ref x0)]) hx hb dX4_fewest_52 hl (by decide) rfl (fun ls hl => ?_)
      refine xlo (σ := Nat × Nat × Nat) 5 (fun xz_ => (fun (n : Nat) (a : Nat) (wy : Nat) => [(0, .ref x0), (1, .int (nI (cnS (lpB W)))), (2, .int (nI wy)), (3, .int (nI a)), (4, .int (nI n))]) xz_.1 xz_.2.1 xz_.2.2) (fun xz_ => (fun (n : Nat) (a : Nat) (wy : Nat) => [(x0, .inr (4, [.ref h0, .ref d0, .ref k0, .int (nI ik), .ref b0, .ref a0, .ref t0, .ref r0, .int (nI rn), .ref r1])), (h0, .inr (0, [.ref h1, .ref h2, .int (nI sk), .int (nI ek), .int (nI tr)])), (h1, .inl (eI g, 41, .inl (fun j => nI (W j)))), (h2, .inl (eI g, 5, .inl (fun j => nI (B j)))), (r1, .inl (eI g, 7, .inl rf))]) xz_.1 xz_.2.1 xz_.2.2) (fun xz_ => (fun (n : Nat) (a : Nat) (wy : Nat) => wy = B 0 + (if ek = 4 then 1 else 0) ∧ a = wy ^ n ∧ n ≤ 40 ∧ a ≤ 320 ∧ fwF wy (cnS (lpB W)) 41 0 = fwF wy (cnS (lpB W)) (41 - n) n) xz_.1 xz_.2.1 xz_.2.2) (fun xz_ => (fun (n : Nat) (a : Nat) (wy : Nat) => 41 - n) xz_.1 xz_.2.1 xz_.2.2) (fun xz_ hI ih54 H locs ls hP hD hS hl => ?_) (0, 1, (B 0) + 0) (show ((B 0) + 0) = B 0 + (if ek = 4 then 1 else 0) ∧ 1 = ((B 0) + 0) ^ 0 ∧ 0 ≤ 40 ∧ 1 ≤ 320 ∧ fwF ((B 0) + 0) (cnS (lpB W)) 41 0 = fwF ((B 0) + 0) (cnS (lpB W)) (41 - 0) 0 from (⟨by first | rw [if_pos (by omega)] | rw [if_neg (by omega)], rfl, by omega, by omega, rfl⟩)) hP hD hS (lv_sub hl [4, 3, 2, 1, 0] rfl)
      obtain ⟨n, a, wy⟩ := xz_
      have hP : va_P (eD g) vwCl [(x0, .inr (4, [.ref h0, .ref d0, .ref k0, .int (nI ik), .ref b0, .ref a0, .ref t0, .ref r0, .int (nI rn), .ref r1])), (h0, .inr (0, [.ref h1, .ref h2, .int (nI sk), .int (nI ek), .int (nI tr)])), (h1, .inl (eI g, 41, .inl (fun j => nI (W j)))), (h2, .inl (eI g, 5, .inl (fun j => nI (B j)))), (r1, .inl (eI g, 7, .inl rf))] H := hP
      have hD : va_D A [(x0, .inr (4, [.ref h0, .ref d0, .ref k0, .int (nI ik), .ref b0, .ref a0, .ref t0, .ref r0, .int (nI rn), .ref r1])), (h0, .inr (0, [.ref h1, .ref h2, .int (nI sk), .int (nI ek), .int (nI tr)])), (h1, .inl (eI g, 41, .inl (fun j => nI (W j)))), (h2, .inl (eI g, 5, .inl (fun j => nI (B j)))), (r1, .inl (eI g, 7, .inl rf))] := hD
      have hl : lv_has ls 5 [(0, .ref x0), (1, .int (nI (cnS (lpB W)))), (2, .int (nI wy)), (3, .int (nI a)), (4, .int (nI n))] := hl
      have hI54 : wy = B 0 + (if ek = 4 then 1 else 0) ∧ a = wy ^ n ∧ n ≤ 40 ∧ a ≤ 320 ∧ fwF wy (cnS (lpB W)) 41 0 = fwF wy (cnS (lpB W)) (41 - n) n := hI
      clear hI
      obtain ⟨hwy, ha, hn, hab, hfw⟩ := id hI54
      have hwb : 2 ≤ wy ∧ wy ≤ 8 := by rw [hwy]; split <;> omega
      have hcb := cnS_le (lpB W)
      refine lv_iload_n hx hb dX4_fewest_54 rfl (lv_at hl 3 rfl) ?_
      refine lv_iload_n hx hb dX4_fewest_55 rfl (lv_at hl 1 rfl) ?_
      refine xge (tgt := 76) hx hb dX4_fewest_56 (by decide) (by omega) (by omega) (fun c56 => ?_) (fun c56 => ?_)
      · skip
        refine lv_iload hx hb dX4_fewest_76 (lv_at hl 4 rfl) ?_
        exact rtI F hP hD hS dX4_fewest_78 (by rw [show (if cnS (lpB W) = 0 then 3 else 0) = 0 from (by rw [if_neg hc0])]; exact ⟨congrArg nI (by rw [← hwy, hfw]; first | exact (fw_end hn (by rw [← ha]; omega)).symm | (exfalso; have := pw_lt (w := wy) (n := n) (by omega) (by rw [← ha]; omega); omega)), rfl⟩)
      · skip
        refine lv_iload hx hb dX4_fewest_59 (lv_at hl 4 rfl) ?_
        refine lv_bipush (v := (nI 40)) hx hb dX4_fewest_61 (by decide) ?_
        refine xge (tgt := 76) hx hb dX4_fewest_63 (by decide) (by omega) (by omega) (fun c63 => ?_) (fun c63 => ?_)
        · skip
          refine lv_iload hx hb dX4_fewest_76 (lv_at hl 4 rfl) ?_
          exact rtI F hP hD hS dX4_fewest_78 (by rw [show (if cnS (lpB W) = 0 then 3 else 0) = 0 from (by rw [if_neg hc0])]; exact ⟨congrArg nI (by rw [← hwy, hfw]; first | exact (fw_end hn (by rw [← ha]; omega)).symm | (exfalso; have := pw_lt (w := wy) (n := n) (by omega) (by rw [← ha]; omega); omega)), rfl⟩)
        · skip
          refine lv_iload_n hx hb dX4_fewest_66 rfl (lv_at hl 3 rfl) ?_
          refine lv_iload_n hx hb dX4_fewest_67 rfl (lv_at hl 2 rfl) ?_
          refine xmul hx hb dX4_fewest_68 ?_
          refine lv_istore_n (lv' := [(3, .int (nI (a * wy))), (0, .ref x0), (1, .int (nI (cnS (lpB W)))), (2, .int (nI wy)), (4, .int (nI n))]) hx hb dX4_fewest_69 rfl hl (by decide) rfl (fun ls hl => ?_)
          refine lv_iinc (v := (nI (n + 1))) (lv' := [(4, .int (nI (n + 1))), (3, .int (nI (a * wy))), (0, .ref x0), (1, .int (nI (cnS (lpB W)))), (2, .int (nI wy))]) hx hb dX4_fewest_70 hl (k := 4) rfl (iincP n 1) (by decide) rfl (fun ls hl => ?_)
          refine lv_goto (tgt := 54) hx hb dX4_fewest_73 (by decide) ?_
          exact ih54 (n + 1, a * wy, wy) (show wy = B 0 + (if ek = 4 then 1 else 0) ∧ (a * wy) = wy ^ (n + 1) ∧ (n + 1) ≤ 40 ∧ (a * wy) ≤ 320 ∧ fwF wy (cnS (lpB W)) 41 0 = fwF wy (cnS (lpB W)) (41 - (n + 1)) (n + 1) from (⟨hwy, by rw [ha, Nat.pow_succ], by have := pw_lt (w := wy) (n := n) (by omega) (by rw [← ha]; omega); omega, Nat.le_trans (mul_le_c (show a ≤ 40 by omega) (show wy ≤ 8 by omega)) (by omega), hfw.trans (fw_step hn (by rw [← ha]; omega))⟩)) (show 41 - (n + 1) < 41 - n from (by omega)) _ _ _ hP hD hS (lv_sub hl [2, 3, 4, 1, 0] rfl)
    · skip
      refine lv_iconst (v := (nI 1)) hx hb dX4_fewest_42 (by decide) ?_
      refine lv_goto (tgt := 47) hx hb dX4_fewest_43 (by decide) ?_
      refine xadd hx hb dX4_fewest_47 ?_
      refine lv_istore_n (lv' := [(2, .int (nI ((B 0) + 1))), (1, .int (nI (cnS (lpB W)))), (0, .ref x0)]) hx hb dX4_fewest_48 rfl hl (by decide) rfl (fun ls hl => ?_)
      refine lv_iconst (v := (nI 1)) hx hb dX4_fewest_49 (by decide) ?_
      refine lv_istore_n (lv' := [(3, .int (nI 1)), (2, .int (nI ((B 0) + 1))), (1, .int (nI (cnS (lpB W)))), (0, .ref x0)]) hx hb dX4_fewest_50 rfl hl (by decide) rfl (fun ls hl => ?_)
      refine lv_iconst (v := (nI 0)) hx hb dX4_fewest_51 (by decide) ?_
      refine lv_istore (lv' := [(4, .int (nI 0)), (3, .int (nI 1)), (2, .int (nI ((B 0) + 1))), (1, .int (nI (cnS (lpB W)))), (0, .ref x0)]) hx hb dX4_fewest_52 hl (by decide) rfl (fun ls hl => ?_)
      refine xlo (σ := Nat × Nat × Nat) 5 (fun xz_ => (fun (n : Nat) (a : Nat) (wy : Nat) => [(0, .ref x0), (1, .int (nI (cnS (lpB W)))), (2, .int (nI wy)), (3, .int (nI a)), (4, .int (nI n))]) xz_.1 xz_.2.1 xz_.2.2) (fun xz_ => (fun (n : Nat) (a : Nat) (wy : Nat) => [(x0, .inr (4, [.ref h0, .ref d0, .ref k0, .int (nI ik), .ref b0, .ref a0, .ref t0, .ref r0, .int (nI rn), .ref r1])), (h0, .inr (0, [.ref h1, .ref h2, .int (nI sk), .int (nI ek), .int (nI tr)])), (h1, .inl (eI g, 41, .inl (fun j => nI (W j)))), (h2, .inl (eI g, 5, .inl (fun j => nI (B j)))), (r1, .inl (eI g, 7, .inl rf))]) xz_.1 xz_.2.1 xz_.2.2) (fun xz_ => (fun (n : Nat) (a : Nat) (wy : Nat) => wy = B 0 + (if ek = 4 then 1 else 0) ∧ a = wy ^ n ∧ n ≤ 40 ∧ a ≤ 320 ∧ fwF wy (cnS (lpB W)) 41 0 = fwF wy (cnS (lpB W)) (41 - n) n) xz_.1 xz_.2.1 xz_.2.2) (fun xz_ => (fun (n : Nat) (a : Nat) (wy : Nat) => 41 - n) xz_.1 xz_.2.1 xz_.2.2) (fun xz_ hI ih54 H locs ls hP hD hS hl => ?_) (0, 1, (B 0) + 1) (show ((B 0) + 1) = B 0 + (if ek = 4 then 1 else 0) ∧ 1 = ((B 0) + 1) ^ 0 ∧ 0 ≤ 40 ∧ 1 ≤ 320 ∧ fwF ((B 0) + 1) (cnS (lpB W)) 41 0 = fwF ((B 0) + 1) (cnS (lpB W)) (41 - 0) 0 from (⟨by first | rw [if_pos (by omega)] | rw [if_neg (by omega)], rfl, by omega, by omega, rfl⟩)) hP hD hS (lv_sub hl [4, 3, 2, 1, 0] rfl)
      obtain ⟨n, a, wy⟩ := xz_
      have hP : va_P (eD g) vwCl [(x0, .inr (4, [.ref h0, .ref d0, .ref k0, .int (nI ik), .ref b0, .ref a0, .ref t0, .ref r0, .int (nI rn), .ref r1])), (h0, .inr (0, [.ref h1, .ref h2, .int (nI sk), .int (nI ek), .int (nI tr)])), (h1, .inl (eI g, 41, .inl (fun j => nI (W j)))), (h2, .inl (eI g, 5, .inl (fun j => nI (B j)))), (r1, .inl (eI g, 7, .inl rf))] H := hP
      have hD : va_D A [(x0, .inr (4, [.ref h0, .ref d0, .ref k0, .int (nI ik), .ref b0, .ref a0, .ref t0, .ref r0, .int (nI rn), .ref r1])), (h0, .inr (0, [.ref h1, .ref h2, .int (nI sk), .int (nI ek), .int (nI tr)])), (h1, .inl (eI g, 41, .inl (fun j => nI (W j)))), (h2, .inl (eI g, 5, .inl (fun j => nI (B j)))), (r1, .inl (eI g, 7, .inl rf))] := hD
      have hl : lv_has ls 5 [(0, .ref x0), (1, .int (nI (cnS (lpB W)))), (2, .int (nI wy)), (3, .int (nI a)), (4, .int (nI n))] := hl
      have hI54 : wy = B 0 + (if ek = 4 then 1 else 0) ∧ a = wy ^ n ∧ n ≤ 40 ∧ a ≤ 320 ∧ fwF wy (cnS (lpB W)) 41 0 = fwF wy (cnS (lpB W)) (41 - n) n := hI
      clear hI
      obtain ⟨hwy, ha, hn, hab, hfw⟩ := id hI54
      have hwb : 2 ≤ wy ∧ wy ≤ 8 := by rw [hwy]; split <;> omega
      have hcb := cnS_le (lpB W)
      refine lv_iload_n hx hb dX4_fewest_54 rfl (lv_at hl 3 rfl) ?_
      refine lv_iload_n hx hb dX4_fewest_55 rfl (lv_at hl 1 rfl) ?_
      refine xge (tgt := 76) hx hb dX4_fewest_56 (by decide) (by omega) (by omega) (fun c56 => ?_) (fun c56 => ?_)
      · skip
        refine lv_iload hx hb dX4_fewest_76 (lv_at hl 4 rfl) ?_
        exact rtI F hP hD hS dX4_fewest_78 (by rw [show (if cnS (lpB W) = 0 then 3 else 0) = 0 from (by rw [if_neg hc0])]; exact ⟨congrArg nI (by rw [← hwy, hfw]; first | exact (fw_end hn (by rw [← ha]; omega)).symm | (exfalso; have := pw_lt (w := wy) (n := n) (by omega) (by rw [← ha]; omega); omega)), rfl⟩)
      · skip
        refine lv_iload hx hb dX4_fewest_59 (lv_at hl 4 rfl) ?_
        refine lv_bipush (v := (nI 40)) hx hb dX4_fewest_61 (by decide) ?_
        refine xge (tgt := 76) hx hb dX4_fewest_63 (by decide) (by omega) (by omega) (fun c63 => ?_) (fun c63 => ?_)
        · skip
          refine lv_iload hx hb dX4_fewest_76 (lv_at hl 4 rfl) ?_
          exact rtI F hP hD hS dX4_fewest_78 (by rw [show (if cnS (lpB W) = 0 then 3 else 0) = 0 from (by rw [if_neg hc0])]; exact ⟨congrArg nI (by rw [← hwy, hfw]; first | exact (fw_end hn (by rw [← ha]; omega)).symm | (exfalso; have := pw_lt (w := wy) (n := n) (by omega) (by rw [← ha]; omega); omega)), rfl⟩)
        · skip
          refine lv_iload_n hx hb dX4_fewest_66 rfl (lv_at hl 3 rfl) ?_
          refine lv_iload_n hx hb dX4_fewest_67 rfl (lv_at hl 2 rfl) ?_
          refine xmul hx hb dX4_fewest_68 ?_
          refine lv_istore_n (lv' := [(3, .int (nI (a * wy))), (0, .ref x0), (1, .int (nI (cnS (lpB W)))), (2, .int (nI wy)), (4, .int (nI n))]) hx hb dX4_fewest_69 rfl hl (by decide) rfl (fun ls hl => ?_)
          refine lv_iinc (v := (nI (n + 1))) (lv' := [(4, .int (nI (n + 1))), (3, .int (nI (a * wy))), (0, .ref x0), (1, .int (nI (cnS (lpB W)))), (2, .int (nI wy))]) hx hb dX4_fewest_70 hl (k := 4) rfl (iincP n 1) (by decide) rfl (fun ls hl => ?_)
          refine lv_goto (tgt := 54) hx hb dX4_fewest_73 (by decide) ?_
          exact ih54 (n + 1, a * wy, wy) (show wy = B 0 + (if ek = 4 then 1 else 0) ∧ (a * wy) = wy ^ (n + 1) ∧ (n + 1) ≤ 40 ∧ (a * wy) ≤ 320 ∧ fwF wy (cnS (lpB W)) 41 0 = fwF wy (cnS (lpB W)) (41 - (n + 1)) (n + 1) from (⟨hwy, by rw [ha, Nat.pow_succ], by have := pw_lt (w := wy) (n := n) (by omega) (by rw [← ha]; omega); omega, Nat.le_trans (mul_le_c (show a ≤ 40 by omega) (show wy ≤ 8 by omega)) (by omega), hfw.trans (fw_step hn (by rw [← ha]; omega))⟩)) (show 41 - (n + 1) < 41 - n from (by omega)) _ _ _ hP hD hS (lv_sub hl [2, 3, 4, 1, 0] rfl)
  · skip
    have hc0 : cnS (lpB W) = 0 := c12
    refine lv_aload_n hx hb dX4_fewest_15 rfl (lv_at hl 1 rfl) ?_
    refine lv_bipush (v := (-3)) hx hb dX4_fewest_16 (by decide) ?_
    refine cVI (As := [.int (-3)]) (rest := []) F (c_X4_refuse l g x0 h0 d0 k0 b0 a0 t0 r0 r1 ik rn rf (-3) 3 (by decide) (by omega) (by omega)) kX4_refuse rfl gX4_fewest_X4_refuse rfl rfl ⟨Nat.le_of_ble_eq_true rfl, Nat.le_of_ble_eq_true rfl⟩ hP hD hS [0, 4] [1, 2, 3] rfl rfl 0 rfl rfl hl.1 rfl rfl (Nat.le_of_ble_eq_true rfl) dX4_fewest_18 ⟨Nat.le_of_ble_eq_true rfl, Nat.le_of_ble_eq_true rfl⟩ (fun rz w1 H locs hpo hP hD hS => ?_)
    obtain ⟨rfl, rfl⟩ := hpo
    obtain ⟨hP, hD⟩ := nx (ws' := [(x0, .inr (4, [.ref h0, .ref d0, .ref k0, .int (nI ik), .ref b0, .ref a0, .ref t0, .ref r0, .int (nI rn), .ref r1])), (h0, .inr (0, [.ref h1, .ref h2, .int (nI sk), .int (nI ek), .int (nI tr)])), (h1, .inl (eI g, 41, .inl (fun j => nI (W j)))), (h2, .inl (eI g, 5, .inl (fun j => nI (B j)))), (r1, .inl (eI g, 7, .inl (bump rf 3)))]) hP hD [3, 0, 1, 2, 4] (ndB_ok _ rfl) rfl
    exact rtI F hP hD hS dX4_fewest_21 (by rw [show (if cnS (lpB W) = 0 then 3 else 0) = 3 from (by first | (exfalso; omega) | ((try simp only [true_and, and_true]); (repeat (first | rw [if_pos (by omega)] | rw [if_neg (by omega)])) <;> rfl))]; first | done | exact ⟨by rfl, by rfl⟩)

theorem inX5_fewest_X5 : ∀ w ∈ u_ws RX5 TX5 20, w ∈ wsX5_fewest := fun _ h => (List.mem_cons_of_mem _ (List.mem_append_right _ h))
theorem lkX5_fewest_1 : Cond.fieldLink RX5 19 "StripInFiveStepsModel" "now" "[I" ∈ wsX5_fewest := List.mem_of_getElem? (i := 1) rfl
theorem kX5_fewest : Cal yX5_fewest wsX5_fewest cX5_fewest 4 (some .int) 0 := ⟨⟨_, rfl⟩, by decide +kernel⟩
set_option maxHeartbeats 4000000 in
set_option maxRecDepth 100000 in
theorem c_X5_fewest (l : Launch) (g : EE) (m0 : Nat) (m1 : Nat) (m2 : Nat) (m3 : Nat) (m4 : Nat) (m5 : Nat) (m6 : Nat) (m7 : Nat) (m8 : Nat) (m9 : Nat) (m10 : Nat) (m11 : Nat) (m12 : Nat) (m13 : Nat) (m14 : Nat) (kp : Nat) (rn : Nat) (tn : Nat) (ia : Nat) (wl : Nat) (si : Nat) (S : Nat → Nat) (rf : Nat → Int32) (hO : okS S) : CI l yX5_fewest wsX5_fewest ({ frames := 2, cells := 0, slots := 0, locals := 42 }) g [.ref m0] [(m0, .inr (5, [.ref m1, .ref m2, .ref m3, .int (nI kp), .ref m4, .ref m5, .ref m6, .ref m7, .ref m8, .int (nI rn), .ref m9, .int (nI tn), .int (nI ia), .int (nI wl), .ref m10, .ref m11, .ref m12, .int (nI si), .ref m13, .ref m14])), (m1, .inl (eI g, 7, .inl rf)), (m2, .inl (eI g, 49, .inl (fun j => nI (S j))))] (fun (rz : Int32) (wz : va_W) => rz = (rsp (if cnS (lpB S) = 0 then 3 else 0) (nI (fwF (S 41 + (if S 47 = 4 then 1 else 0)) (cnS (lpB S)) 41 0))) ∧ wz = [(m0, .inr (5, [.ref m1, .ref m2, .ref m3, .int (nI kp), .ref m4, .ref m5, .ref m6, .ref m7, .ref m8, .int (nI rn), .ref m9, .int (nI tn), .int (nI ia), .int (nI wl), .ref m10, .ref m11, .ref m12, .int (nI si), .ref m13, .ref m14])), (m1, .inl (eI g, 7, .inl (bump rf (if cnS (lpB S) = 0 then 3 else 0)))), (m2, .inl (eI g, 49, .inl (fun j => nI (S j))))]) 0 0 := by
  refine ctI (cc := cX5_fewest) (maxL := 4) (ret := (some .int)) (by decide) rfl (Nat.le_of_ble_eq_true rfl) ?_
  intro p_ e_ s_ m_ bl_ mt_ cd_ A ls F hnm hP hD hS hl
  obtain ⟨hx, hb, hml, hown, hts, hK, hX, hA, hrt_, hlocks⟩ := id F
  have hl : lv_has ls 4 [(0, .ref m0)] := hl
  obtain ⟨hw40, ⟨h41a, h41b⟩, ⟨h42a, h42b⟩, h43, h44, h45, h46, h47, h48⟩ := id hO
  refine lv_aload_n hx hb dX5_fewest_0 rfl (lv_at hl 0 rfl) ?_
  refine cVI (As := []) (rest := []) F (c_X5_isEmpty l g m0 m1 m2 m3 m4 m5 m6 m7 m8 m9 m10 m11 m12 m13 m14 kp rn tn ia wl si S (hO)) kX5_isEmpty rfl gX5_fewest_X5_isEmpty rfl rfl ⟨Nat.le_of_ble_eq_true rfl, Nat.le_of_ble_eq_true rfl⟩ hP hD hS [0, 2] [1] rfl rfl 0 rfl rfl hl.1 rfl rfl (Nat.le_of_ble_eq_true rfl) dX5_fewest_1 ⟨Nat.le_of_ble_eq_true rfl, Nat.le_of_ble_eq_true rfl⟩ (fun rz w1 H locs hpo hP hD hS => ?_)
  obtain ⟨rfl, rfl⟩ := hpo
  obtain ⟨hP, hD⟩ := nx (ws' := [(m0, .inr (5, [.ref m1, .ref m2, .ref m3, .int (nI kp), .ref m4, .ref m5, .ref m6, .ref m7, .ref m8, .int (nI rn), .ref m9, .int (nI tn), .int (nI ia), .int (nI wl), .ref m10, .ref m11, .ref m12, .int (nI si), .ref m13, .ref m14])), (m1, .inl (eI g, 7, .inl rf)), (m2, .inl (eI g, 49, .inl (fun j => nI (S j))))]) hP hD [1, 0, 2] (ndB_ok _ rfl) rfl
  refine bqeq (tgt := 14) hx hb dX5_fewest_4 (by decide) (fun c4 => ?_) (fun c4 => ?_)
  · skip
    have hc0 : ¬ cnS (lpB S) = 0 := fun z => c4 ((em0 S).mpr z)
    refine lv_aload_n hx hb dX5_fewest_14 rfl (lv_at hl 0 rfl) ?_
    refine xget F hP inX5_fewest_X5 0 rfl rfl 1 (by decide) lkX5_fewest_1 rfl dX5_fewest_15 ?_
    refine lv_bipush (v := (nI 41)) hx hb dX5_fewest_18 (by decide) ?_
    refine xald F hP 2 (v := (nI (S 41))) rfl (by omega) (by omega) rfl dX5_fewest_20 ?_
    refine lv_aload_n hx hb dX5_fewest_21 rfl (lv_at hl 0 rfl) ?_
    refine xget F hP inX5_fewest_X5 0 rfl rfl 1 (by decide) lkX5_fewest_1 rfl dX5_fewest_22 ?_
    refine lv_bipush (v := (nI 47)) hx hb dX5_fewest_25 (by decide) ?_
    refine xald F hP 2 (v := (nI (S 47))) rfl (by omega) (by omega) rfl dX5_fewest_27 ?_
    refine lv_iconst (v := (nI 4)) hx hb dX5_fewest_28 (by decide) ?_
    refine xne (tgt := 36) hx hb dX5_fewest_29 (by decide) (by omega) (by omega) (fun c29 => ?_) (fun c29 => ?_)
    · skip
      refine lv_iconst (v := (nI 0)) hx hb dX5_fewest_36 (by decide) ?_
      refine xadd hx hb dX5_fewest_37 ?_
      refine lv_istore_n (lv' := [(1, .int (nI ((S 41) + 0))), (0, .ref m0)]) hx hb dX5_fewest_38 rfl hl (by decide) rfl (fun ls hl => ?_)
      refine lv_iconst (v := (nI 0)) hx hb dX5_fewest_39 (by decide) ?_
      refine lv_istore_n (lv' := [(2, .int (nI 0)), (1, .int (nI ((S 41) + 0))), (0, .ref m0)]) hx hb dX5_fewest_40 rfl hl (by decide) rfl (fun ls hl => ?_)
      refine lv_iconst (v := (nI 1)) hx hb dX5_fewest_41 (by decide) ?_
      refine lv_istore_n (lv' := [(3, .int (nI 1)), (2, .int (nI 0)), (1, .int (nI ((S 41) + 0))), (0, .ref m0)]) hx hb dX5_fewest_42 rfl hl (by decide) rfl (fun ls hl => ?_)
      refine xlo (σ := Nat × Nat × Nat) 4 (fun xz_ => (fun (n : Nat) (a : Nat) (wy : Nat) => [(0, .ref m0), (1, .int (nI wy)), (2, .int (nI n)), (3, .int (nI a))]) xz_.1 xz_.2.1 xz_.2.2) (fun xz_ => (fun (n : Nat) (a : Nat) (wy : Nat) => [(m0, .inr (5, [.ref m1, .ref m2, .ref m3, .int (nI kp), .ref m4, .ref m5, .ref m6, .ref m7, .ref m8, .int (nI rn), .ref m9, .int (nI tn), .int (nI ia), .int (nI wl), .ref m10, .ref m11, .ref m12, .int (nI si), .ref m13, .ref m14])), (m1, .inl (eI g, 7, .inl rf)), (m2, .inl (eI g, 49, .inl (fun j => nI (S j))))]) xz_.1 xz_.2.1 xz_.2.2) (fun xz_ => (fun (n : Nat) (a : Nat) (wy : Nat) => wy = S 41 + (if S 47 = 4 then 1 else 0) ∧ a = wy ^ n ∧ n ≤ 40 ∧ a ≤ 320 ∧ fwF wy (cnS (lpB S)) 41 0 = fwF wy (cnS (lpB S)) (41 - n) n) xz_.1 xz_.2.1 xz_.2.2) (fun xz_ => (fun (n : Nat) (a : Nat) (wy : Nat) => 41 - n) xz_.1 xz_.2.1 xz_.2.2) (fun xz_ hI ih43 H locs ls hP hD hS hl => ?_) (0, 1, (S 41) + 0) (show ((S 41) + 0) = S 41 + (if S 47 = 4 then 1 else 0) ∧ 1 = ((S 41) + 0) ^ 0 ∧ 0 ≤ 40 ∧ 1 ≤ 320 ∧ fwF ((S 41) + 0) (cnS (lpB S)) 41 0 = fwF ((S 41) + 0) (cnS (lpB S)) (41 - 0) 0 from (⟨by first | rw [if_pos (by omega)] | rw [if_neg (by omega)], rfl, by omega, by omega, rfl⟩)) hP hD hS (lv_sub hl [3, 2, 1, 0] rfl)
      obtain ⟨n, a, wy⟩ := xz_
      have hP : va_P (eD g) vwCl [(m0, .inr (5, [.ref m1, .ref m2, .ref m3, .int (nI kp), .ref m4, .ref m5, .ref m6, .ref m7, .ref m8, .int (nI rn), .ref m9, .int (nI tn), .int (nI ia), .int (nI wl), .ref m10, .ref m11, .ref m12, .int (nI si), .ref m13, .ref m14])), (m1, .inl (eI g, 7, .inl rf)), (m2, .inl (eI g, 49, .inl (fun j => nI (S j))))] H := hP
      have hD : va_D A [(m0, .inr (5, [.ref m1, .ref m2, .ref m3, .int (nI kp), .ref m4, .ref m5, .ref m6, .ref m7, .ref m8, .int (nI rn), .ref m9, .int (nI tn), .int (nI ia), .int (nI wl), .ref m10, .ref m11, .ref m12, .int (nI si), .ref m13, .ref m14])), (m1, .inl (eI g, 7, .inl rf)), (m2, .inl (eI g, 49, .inl (fun j => nI (S j))))] := hD
      have hl : lv_has ls 4 [(0, .ref m0), (1, .int (nI wy)), (2, .int (nI n)), (3, .int (nI a))] := hl
      have hI43 : wy = S 41 + (if S 47 = 4 then 1 else 0) ∧ a = wy ^ n ∧ n ≤ 40 ∧ a ≤ 320 ∧ fwF wy (cnS (lpB S)) 41 0 = fwF wy (cnS (lpB S)) (41 - n) n := hI
      clear hI
      obtain ⟨hwy, ha, hn, hab, hfw⟩ := id hI43
      have hwb : 2 ≤ wy ∧ wy ≤ 8 := by rw [hwy]; split <;> omega
      have hcb := cnS_le (lpB S)
      refine lv_iload_n hx hb dX5_fewest_43 rfl (lv_at hl 3 rfl) ?_
      refine lv_aload_n hx hb dX5_fewest_44 rfl (lv_at hl 0 rfl) ?_
      refine xget F hP inX5_fewest_X5 0 rfl rfl 1 (by decide) lkX5_fewest_1 rfl dX5_fewest_45 ?_
      refine cSI (As := [.ref m2]) (rest := [.int (nI a)]) F (c_X5_left l g m2 S (hO.1)) kX5_left gX5_fewest_X5_left rfl rfl ⟨Nat.le_of_ble_eq_true rfl, Nat.le_of_ble_eq_true rfl⟩ hP hD hS [2] [0, 1] rfl rfl hl.1 rfl rfl (Nat.le_of_ble_eq_true rfl) dX5_fewest_48 ⟨Nat.le_of_ble_eq_true rfl, Nat.le_of_ble_eq_true rfl⟩ (fun rz w1 H locs hpo hP hD hS => ?_)
      obtain ⟨rfl, rfl⟩ := hpo
      obtain ⟨hP, hD⟩ := nx (ws' := [(m0, .inr (5, [.ref m1, .ref m2, .ref m3, .int (nI kp), .ref m4, .ref m5, .ref m6, .ref m7, .ref m8, .int (nI rn), .ref m9, .int (nI tn), .int (nI ia), .int (nI wl), .ref m10, .ref m11, .ref m12, .int (nI si), .ref m13, .ref m14])), (m1, .inl (eI g, 7, .inl rf)), (m2, .inl (eI g, 49, .inl (fun j => nI (S j))))]) hP hD [0, 1, 2] (ndB_ok _ rfl) rfl
      refine xge (tgt := 64) hx hb dX5_fewest_51 (by decide) (by omega) (by omega) (fun c51 => ?_) (fun c51 => ?_)
      · skip
        refine lv_iload_n hx hb dX5_fewest_64 rfl (lv_at hl 2 rfl) ?_
        exact rtI F hP hD hS dX5_fewest_65 (by rw [show (if cnS (lpB S) = 0 then 3 else 0) = 0 from (by rw [if_neg hc0])]; exact ⟨congrArg nI (by rw [← hwy, hfw]; first | exact (fw_end hn (by rw [← ha]; omega)).symm | (exfalso; have := pw_lt (w := wy) (n := n) (by omega) (by rw [← ha]; omega); omega)), rfl⟩)
      · skip
        refine lv_iload_n hx hb dX5_fewest_54 rfl (lv_at hl 3 rfl) ?_
        refine lv_iload_n hx hb dX5_fewest_55 rfl (lv_at hl 1 rfl) ?_
        refine xmul hx hb dX5_fewest_56 ?_
        refine lv_istore_n (lv' := [(3, .int (nI (a * wy))), (0, .ref m0), (1, .int (nI wy)), (2, .int (nI n))]) hx hb dX5_fewest_57 rfl hl (by decide) rfl (fun ls hl => ?_)
        refine lv_iinc (v := (nI (n + 1))) (lv' := [(2, .int (nI (n + 1))), (3, .int (nI (a * wy))), (0, .ref m0), (1, .int (nI wy))]) hx hb dX5_fewest_58 hl (k := 3) rfl (iincP n 1) (by decide) rfl (fun ls hl => ?_)
        refine lv_goto (tgt := 43) hx hb dX5_fewest_61 (by decide) ?_
        exact ih43 (n + 1, a * wy, wy) (show wy = S 41 + (if S 47 = 4 then 1 else 0) ∧ (a * wy) = wy ^ (n + 1) ∧ (n + 1) ≤ 40 ∧ (a * wy) ≤ 320 ∧ fwF wy (cnS (lpB S)) 41 0 = fwF wy (cnS (lpB S)) (41 - (n + 1)) (n + 1) from (⟨hwy, by rw [ha, Nat.pow_succ], by have := pw_lt (w := wy) (n := n) (by omega) (by rw [← ha]; omega); omega, Nat.le_trans (mul_le_c (show a ≤ 40 by omega) (show wy ≤ 8 by omega)) (by omega), hfw.trans (fw_step hn (by rw [← ha]; omega))⟩)) (show 41 - (n + 1) < 41 - n from (by omega)) _ _ _ hP hD hS (lv_sub hl [2, 3, 0, 1] rfl)
    · skip
      refine lv_iconst (v := (nI 1)) hx hb dX5_fewest_32 (by decide) ?_
      refine lv_goto (tgt := 37) hx hb dX5_fewest_33 (by decide) ?_
      refine xadd hx hb dX5_fewest_37 ?_
      refine lv_istore_n (lv' := [(1, .int (nI ((S 41) + 1))), (0, .ref m0)]) hx hb dX5_fewest_38 rfl hl (by decide) rfl (fun ls hl => ?_)
      refine lv_iconst (v := (nI 0)) hx hb dX5_fewest_39 (by decide) ?_
      refine lv_istore_n (lv' := [(2, .int (nI 0)), (1, .int (nI ((S 41) + 1))), (0, .ref m0)]) hx hb dX5_fewest_40 rfl hl (by decide) rfl (fun ls hl => ?_)
      refine lv_iconst (v := (nI 1)) hx hb dX5_fewest_41 (by decide) ?_
      refine lv_istore_n (lv' := [(3, .int (nI 1)), (2, .int (nI 0)), (1, .int (nI ((S 41) + 1))), (0, .ref m0)]) hx hb dX5_fewest_42 rfl hl (by decide) rfl (fun ls hl => ?_)
      refine xlo (σ := Nat × Nat × Nat) 4 (fun xz_ => (fun (n : Nat) (a : Nat) (wy : Nat) => [(0, .ref m0), (1, .int (nI wy)), (2, .int (nI n)), (3, .int (nI a))]) xz_.1 xz_.2.1 xz_.2.2) (fun xz_ => (fun (n : Nat) (a : Nat) (wy : Nat) => [(m0, .inr (5, [.ref m1, .ref m2, .ref m3, .int (nI kp), .ref m4, .ref m5, .ref m6, .ref m7, .ref m8, .int (nI rn), .ref m9, .int (nI tn), .int (nI ia), .int (nI wl), .ref m10, .ref m11, .ref m12, .int (nI si), .ref m13, .ref m14])), (m1, .inl (eI g, 7, .inl rf)), (m2, .inl (eI g, 49, .inl (fun j => nI (S j))))]) xz_.1 xz_.2.1 xz_.2.2) (fun xz_ => (fun (n : Nat) (a : Nat) (wy : Nat) => wy = S 41 + (if S 47 = 4 then 1 else 0) ∧ a = wy ^ n ∧ n ≤ 40 ∧ a ≤ 320 ∧ fwF wy (cnS (lpB S)) 41 0 = fwF wy (cnS (lpB S)) (41 - n) n) xz_.1 xz_.2.1 xz_.2.2) (fun xz_ => (fun (n : Nat) (a : Nat) (wy : Nat) => 41 - n) xz_.1 xz_.2.1 xz_.2.2) (fun xz_ hI ih43 H locs ls hP hD hS hl => ?_) (0, 1, (S 41) + 1) (show ((S 41) + 1) = S 41 + (if S 47 = 4 then 1 else 0) ∧ 1 = ((S 41) + 1) ^ 0 ∧ 0 ≤ 40 ∧ 1 ≤ 320 ∧ fwF ((S 41) + 1) (cnS (lpB S)) 41 0 = fwF ((S 41) + 1) (cnS (lpB S)) (41 - 0) 0 from (⟨by first | rw [if_pos (by omega)] | rw [if_neg (by omega)], rfl, by omega, by omega, rfl⟩)) hP hD hS (lv_sub hl [3, 2, 1, 0] rfl)
      obtain ⟨n, a, wy⟩ := xz_
      have hP : va_P (eD g) vwCl [(m0, .inr (5, [.ref m1, .ref m2, .ref m3, .int (nI kp), .ref m4, .ref m5, .ref m6, .ref m7, .ref m8, .int (nI rn), .ref m9, .int (nI tn), .int (nI ia), .int (nI wl), .ref m10, .ref m11, .ref m12, .int (nI si), .ref m13, .ref m14])), (m1, .inl (eI g, 7, .inl rf)), (m2, .inl (eI g, 49, .inl (fun j => nI (S j))))] H := hP
      have hD : va_D A [(m0, .inr (5, [.ref m1, .ref m2, .ref m3, .int (nI kp), .ref m4, .ref m5, .ref m6, .ref m7, .ref m8, .int (nI rn), .ref m9, .int (nI tn), .int (nI ia), .int (nI wl), .ref m10, .ref m11, .ref m12, .int (nI si), .ref m13, .ref m14])), (m1, .inl (eI g, 7, .inl rf)), (m2, .inl (eI g, 49, .inl (fun j => nI (S j))))] := hD
      have hl : lv_has ls 4 [(0, .ref m0), (1, .int (nI wy)), (2, .int (nI n)), (3, .int (nI a))] := hl
      have hI43 : wy = S 41 + (if S 47 = 4 then 1 else 0) ∧ a = wy ^ n ∧ n ≤ 40 ∧ a ≤ 320 ∧ fwF wy (cnS (lpB S)) 41 0 = fwF wy (cnS (lpB S)) (41 - n) n := hI
      clear hI
      obtain ⟨hwy, ha, hn, hab, hfw⟩ := id hI43
      have hwb : 2 ≤ wy ∧ wy ≤ 8 := by rw [hwy]; split <;> omega
      have hcb := cnS_le (lpB S)
      refine lv_iload_n hx hb dX5_fewest_43 rfl (lv_at hl 3 rfl) ?_
      refine lv_aload_n hx hb dX5_fewest_44 rfl (lv_at hl 0 rfl) ?_
      refine xget F hP inX5_fewest_X5 0 rfl rfl 1 (by decide) lkX5_fewest_1 rfl dX5_fewest_45 ?_
      refine cSI (As := [.ref m2]) (rest := [.int (nI a)]) F (c_X5_left l g m2 S (hO.1)) kX5_left gX5_fewest_X5_left rfl rfl ⟨Nat.le_of_ble_eq_true rfl, Nat.le_of_ble_eq_true rfl⟩ hP hD hS [2] [0, 1] rfl rfl hl.1 rfl rfl (Nat.le_of_ble_eq_true rfl) dX5_fewest_48 ⟨Nat.le_of_ble_eq_true rfl, Nat.le_of_ble_eq_true rfl⟩ (fun rz w1 H locs hpo hP hD hS => ?_)
      obtain ⟨rfl, rfl⟩ := hpo
      obtain ⟨hP, hD⟩ := nx (ws' := [(m0, .inr (5, [.ref m1, .ref m2, .ref m3, .int (nI kp), .ref m4, .ref m5, .ref m6, .ref m7, .ref m8, .int (nI rn), .ref m9, .int (nI tn), .int (nI ia), .int (nI wl), .ref m10, .ref m11, .ref m12, .int (nI si), .ref m13, .ref m14])), (m1, .inl (eI g, 7, .inl rf)), (m2, .inl (eI g, 49, .inl (fun j => nI (S j))))]) hP hD [0, 1, 2] (ndB_ok _ rfl) rfl
      refine xge (tgt := 64) hx hb dX5_fewest_51 (by decide) (by omega) (by omega) (fun c51 => ?_) (fun c51 => ?_)
      · skip
        refine lv_iload_n hx hb dX5_fewest_64 rfl (lv_at hl 2 rfl) ?_
        exact rtI F hP hD hS dX5_fewest_65 (by rw [show (if cnS (lpB S) = 0 then 3 else 0) = 0 from (by rw [if_neg hc0])]; exact ⟨congrArg nI (by rw [← hwy, hfw]; first | exact (fw_end hn (by rw [← ha]; omega)).symm | (exfalso; have := pw_lt (w := wy) (n := n) (by omega) (by rw [← ha]; omega); omega)), rfl⟩)
      · skip
        refine lv_iload_n hx hb dX5_fewest_54 rfl (lv_at hl 3 rfl) ?_
        refine lv_iload_n hx hb dX5_fewest_55 rfl (lv_at hl 1 rfl) ?_
        refine xmul hx hb dX5_fewest_56 ?_
        refine lv_istore_n (lv' := [(3, .int (nI (a * wy))), (0, .ref m0), (1, .int (nI wy)), (2, .int (nI n))]) hx hb dX5_fewest_57 rfl hl (by decide) rfl (fun ls hl => ?_)
        refine lv_iinc (v := (nI (n + 1))) (lv' := [(2, .int (nI (n + 1))), (3, .int (nI (a * wy))), (0, .ref m0), (1, .int (nI wy))]) hx hb dX5_fewest_58 hl (k := 3) rfl (iincP n 1) (by decide) rfl (fun ls hl => ?_)
        refine lv_goto (tgt := 43) hx hb dX5_fewest_61 (by decide) ?_
        exact ih43 (n + 1, a * wy, wy) (show wy = S 41 + (if S 47 = 4 then 1 else 0) ∧ (a * wy) = wy ^ (n + 1) ∧ (n + 1) ≤ 40 ∧ (a * wy) ≤ 320 ∧ fwF wy (cnS (lpB S)) 41 0 = fwF wy (cnS (lpB S)) (41 - (n + 1)) (n + 1) from (⟨hwy, by rw [ha, Nat.pow_succ], by have := pw_lt (w := wy) (n := n) (by omega) (by rw [← ha]; omega); omega, Nat.le_trans (mul_le_c (show a ≤ 40 by omega) (show wy ≤ 8 by omega)) (by omega), hfw.trans (fw_step hn (by rw [← ha]; omega))⟩)) (show 41 - (n + 1) < 41 - n from (by omega)) _ _ _ hP hD hS (lv_sub hl [2, 3, 0, 1] rfl)
  · skip
    have hc0 : cnS (lpB S) = 0 := (em0 S).mp c4
    refine lv_aload_n hx hb dX5_fewest_7 rfl (lv_at hl 0 rfl) ?_
    refine lv_bipush (v := (-3)) hx hb dX5_fewest_8 (by decide) ?_
    refine cVI (As := [.int (-3)]) (rest := []) F (c_X5_no l g m0 m1 m2 m3 m4 m5 m6 m7 m8 m9 m10 m11 m12 m13 m14 kp rn tn ia wl si rf (-3) 3 (by decide) (by omega) (by omega)) kX5_no rfl gX5_fewest_X5_no rfl rfl ⟨Nat.le_of_ble_eq_true rfl, Nat.le_of_ble_eq_true rfl⟩ hP hD hS [0, 1] [2] rfl rfl 0 rfl rfl hl.1 rfl rfl (Nat.le_of_ble_eq_true rfl) dX5_fewest_10 ⟨Nat.le_of_ble_eq_true rfl, Nat.le_of_ble_eq_true rfl⟩ (fun rz w1 H locs hpo hP hD hS => ?_)
    obtain ⟨rfl, rfl⟩ := hpo
    obtain ⟨hP, hD⟩ := nx (ws' := [(m0, .inr (5, [.ref m1, .ref m2, .ref m3, .int (nI kp), .ref m4, .ref m5, .ref m6, .ref m7, .ref m8, .int (nI rn), .ref m9, .int (nI tn), .int (nI ia), .int (nI wl), .ref m10, .ref m11, .ref m12, .int (nI si), .ref m13, .ref m14])), (m1, .inl (eI g, 7, .inl (bump rf 3))), (m2, .inl (eI g, 49, .inl (fun j => nI (S j))))]) hP hD [1, 2, 0] (ndB_ok _ rfl) rfl
    exact rtI F hP hD hS dX5_fewest_13 (by rw [show (if cnS (lpB S) = 0 then 3 else 0) = 3 from (by first | (exfalso; omega) | ((try simp only [true_and, and_true]); (repeat (first | rw [if_pos (by omega)] | rw [if_neg (by omega)])) <;> rfl))]; first | done | exact ⟨by rfl, by rfl⟩)
