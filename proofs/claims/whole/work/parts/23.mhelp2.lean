theorem inX5_no_X5 : ∀ w ∈ u_ws RX5 TX5 20, w ∈ wsX5_no := fun _ h => (List.mem_cons_of_mem _ (List.mem_append_right _ h))
theorem lkX5_no_1 : Cond.fieldLink RX5 1 "StripInFiveStepsModel" "refused" "[I" ∈ wsX5_no := List.mem_of_getElem? (i := 1) rfl
theorem kX5_no : Cal yX5_no wsX5_no cX5_no 2 (some .int) 1 := ⟨⟨_, rfl⟩, by decide +kernel⟩
set_option maxHeartbeats 4000000 in
set_option maxRecDepth 100000 in
theorem c_X5_no (l : Launch) (g : EE) (m0 : Nat) (m1 : Nat) (m2 : Nat) (m3 : Nat) (m4 : Nat) (m5 : Nat) (m6 : Nat) (m7 : Nat) (m8 : Nat) (m9 : Nat) (m10 : Nat) (m11 : Nat) (m12 : Nat) (m13 : Nat) (m14 : Nat) (kp : Nat) (rn : Nat) (tn : Nat) (ia : Nat) (wl : Nat) (si : Nat) (rf : Nat → Int32) (x : Int32) (k : Nat) (hx0 : x = -nI k) (hk1 : 1 ≤ k) (hk6 : k ≤ 6) : CI l yX5_no wsX5_no ({ frames := 0, cells := 0, slots := 0, locals := 0 }) g [.ref m0, .int x] [(m0, .inr (5, [.ref m1, .ref m2, .ref m3, .int (nI kp), .ref m4, .ref m5, .ref m6, .ref m7, .ref m8, .int (nI rn), .ref m9, .int (nI tn), .int (nI ia), .int (nI wl), .ref m10, .ref m11, .ref m12, .int (nI si), .ref m13, .ref m14])), (m1, .inl (eI g, 7, .inl rf))] (fun (rz : Int32) (wz : va_W) => rz = x ∧ wz = [(m0, .inr (5, [.ref m1, .ref m2, .ref m3, .int (nI kp), .ref m4, .ref m5, .ref m6, .ref m7, .ref m8, .int (nI rn), .ref m9, .int (nI tn), .int (nI ia), .int (nI wl), .ref m10, .ref m11, .ref m12, .int (nI si), .ref m13, .ref m14])), (m1, .inl (eI g, 7, .inl (bump rf k)))]) 0 0 := by
  refine ctI (cc := cX5_no) (maxL := 2) (ret := (some .int)) (by decide) rfl (Nat.le_of_ble_eq_true rfl) ?_
  intro p_ e_ s_ m_ bl_ mt_ cd_ A ls F hnm hP hD hS hl
  obtain ⟨hx, hb, hml, hown, hts, hK, hX, hA, hrt_, hlocks⟩ := id F
  have hl : lv_has ls 2 [(0, .ref m0), (1, .int x)] := hl
  refine lv_aload_n hx hb dX5_no_0 rfl (lv_at hl 0 rfl) ?_
  refine xget F hP inX5_no_X5 0 rfl rfl 0 (by decide) lkX5_no_1 rfl dX5_no_1 ?_
  refine lv_iload_n hx hb dX5_no_4 rfl (lv_at hl 1 rfl) ?_
  refine lv_ineg hx hb dX5_no_5 ?_
  refine sti (show (-x) = nI k from neg_nI hx0) ?_
  refine lv_dup2_11 hx hb dX5_no_6 rfl rfl ?_
  refine xald F hP 1 (v := (rf k)) rfl (by omega) (by omega) rfl dX5_no_7 ?_
  refine lv_iconst (v := (nI 1)) hx hb dX5_no_8 (by decide) ?_
  refine lv_iadd hx hb dX5_no_9 ?_
  refine xast F hP hD hS 1 (f' := (upd rf k ((rf k) + (nI 1)))) rfl (by omega) (by omega) (rfl) dX5_no_10 (fun H locs hP hD hS => ?_)
  have hP : va_P (eD g) vwCl [(m0, .inr (5, [.ref m1, .ref m2, .ref m3, .int (nI kp), .ref m4, .ref m5, .ref m6, .ref m7, .ref m8, .int (nI rn), .ref m9, .int (nI tn), .int (nI ia), .int (nI wl), .ref m10, .ref m11, .ref m12, .int (nI si), .ref m13, .ref m14])), (m1, .inl (eI g, 7, .inl (upd rf k ((rf k) + (nI 1)))))] H := hP
  have hD : va_D A [(m0, .inr (5, [.ref m1, .ref m2, .ref m3, .int (nI kp), .ref m4, .ref m5, .ref m6, .ref m7, .ref m8, .int (nI rn), .ref m9, .int (nI tn), .int (nI ia), .int (nI wl), .ref m10, .ref m11, .ref m12, .int (nI si), .ref m13, .ref m14])), (m1, .inl (eI g, 7, .inl (upd rf k ((rf k) + (nI 1)))))] := hD
  refine lv_iload_n hx hb dX5_no_11 rfl (lv_at hl 1 rfl) ?_
  exact rtI F hP hD hS dX5_no_12 (⟨rfl, by unfold bump; rw [if_neg (by omega)]⟩)

theorem lkX5_noLong_1 : Cond.constantLong RX5 7 (4000000000000000000) ∈ wsX5_noLong := List.mem_of_getElem? (i := 1) rfl
theorem kX5_noLong : Cal yX5_noLong wsX5_noLong cX5_noLong 2 (some .long) 1 := ⟨⟨_, rfl⟩, by decide +kernel⟩
set_option maxHeartbeats 4000000 in
set_option maxRecDepth 100000 in
theorem c_X5_noLong (l : Launch) (g : EE) (m0 : Nat) (m1 : Nat) (m2 : Nat) (m3 : Nat) (m4 : Nat) (m5 : Nat) (m6 : Nat) (m7 : Nat) (m8 : Nat) (m9 : Nat) (m10 : Nat) (m11 : Nat) (m12 : Nat) (m13 : Nat) (m14 : Nat) (kp : Nat) (rn : Nat) (tn : Nat) (ia : Nat) (wl : Nat) (si : Nat) (rf : Nat → Int32) (x : Int32) (k : Nat) (hx0 : x = -nI k) (hk1 : 1 ≤ k) (hk6 : k ≤ 6) : CL l yX5_noLong wsX5_noLong ({ frames := 1, cells := 0, slots := 0, locals := 21 }) g [.ref m0, .int x] [(m0, .inr (5, [.ref m1, .ref m2, .ref m3, .int (nI kp), .ref m4, .ref m5, .ref m6, .ref m7, .ref m8, .int (nI rn), .ref m9, .int (nI tn), .int (nI ia), .int (nI wl), .ref m10, .ref m11, .ref m12, .int (nI si), .ref m13, .ref m14])), (m1, .inl (eI g, 7, .inl rf))] (fun (rz : Int64) (wz : va_W) => rz = (4000000000000000000 - (-nI k).toInt64) ∧ wz = [(m0, .inr (5, [.ref m1, .ref m2, .ref m3, .int (nI kp), .ref m4, .ref m5, .ref m6, .ref m7, .ref m8, .int (nI rn), .ref m9, .int (nI tn), .int (nI ia), .int (nI wl), .ref m10, .ref m11, .ref m12, .int (nI si), .ref m13, .ref m14])), (m1, .inl (eI g, 7, .inl (bump rf k)))]) 0 0 := by
  refine ctL (cc := cX5_noLong) (maxL := 2) (ret := (some .long)) (by decide) rfl (Nat.le_of_ble_eq_true rfl) ?_
  intro p_ e_ s_ m_ bl_ mt_ cd_ A ls F hnm hP hD hS hl
  obtain ⟨hx, hb, hml, hown, hts, hK, hX, hA, hrt_, hlocks⟩ := id F
  have hl : lv_has ls 2 [(0, .ref m0), (1, .int x)] := hl
  refine lv_ldc2 (v := 4000000000000000000) hx hb hown (F.lk lkX5_noLong_1) dX5_noLong_0 ?_
  refine lv_aload_n hx hb dX5_noLong_3 rfl (lv_at hl 0 rfl) ?_
  refine lv_iload_n hx hb dX5_noLong_4 rfl (lv_at hl 1 rfl) ?_
  refine cVI (As := [.int x]) (rest := [.long 4000000000000000000]) F (c_X5_no l g m0 m1 m2 m3 m4 m5 m6 m7 m8 m9 m10 m11 m12 m13 m14 kp rn tn ia wl si rf x k (hx0) (hk1) (hk6)) kX5_no rfl gX5_noLong_X5_no rfl rfl ⟨Nat.le_of_ble_eq_true rfl, Nat.le_of_ble_eq_true rfl⟩ hP hD hS [0, 1] [] rfl rfl 0 rfl rfl hl.1 rfl rfl (Nat.le_of_ble_eq_true rfl) dX5_noLong_5 ⟨Nat.le_of_ble_eq_true rfl, Nat.le_of_ble_eq_true rfl⟩ (fun rz w1 H locs hpo hP hD hS => ?_)
  obtain ⟨rfl, rfl⟩ := hpo
  obtain ⟨hP, hD⟩ := nx (ws' := [(m0, .inr (5, [.ref m1, .ref m2, .ref m3, .int (nI kp), .ref m4, .ref m5, .ref m6, .ref m7, .ref m8, .int (nI rn), .ref m9, .int (nI tn), .int (nI ia), .int (nI wl), .ref m10, .ref m11, .ref m12, .int (nI si), .ref m13, .ref m14])), (m1, .inl (eI g, 7, .inl (bump rf k)))]) hP hD [0, 1] (ndB_ok _ rfl) rfl
  refine lv_i2l hx hb dX5_noLong_8 rfl ?_
  refine lv_lsub hx hb dX5_noLong_9 ?_
  exact rtL F hP hD hS dX5_noLong_10 (⟨by rw [hx0], rfl⟩)

theorem kX5_fraction : Cal yX5_fraction wsX5_fraction cX5_fraction 11 (some .long) 3 := ⟨⟨_, rfl⟩, by decide +kernel⟩
set_option maxHeartbeats 4000000 in
set_option maxRecDepth 100000 in
theorem c_X5_fraction (l : Launch) (g : EE) (a : Nat) (b : Nat) (x : Int32) (ha : a < 2 ^ 60) (hb0 : b ≤ 1000) (hab : b = 0 → a = 0) (hpx : x.toInt = 0 ∨ x.toInt = 1) : CL l yX5_fraction wsX5_fraction ({ frames := 0, cells := 0, slots := 0, locals := 0 }) g [.long (lN a), .long (lN b), .int x] [] (fun (rz : Int64) (wz : va_W) => rz = (lN (frN a b (decide (x.toInt = 0)))) ∧ wz = []) 0 0 := by
  refine ctL (cc := cX5_fraction) (maxL := 11) (ret := (some .long)) (by decide) rfl (Nat.le_of_ble_eq_true rfl) ?_
  intro p_ e_ s_ m_ bl_ mt_ cd_ A ls F hnm hP hD hS hl
  obtain ⟨hx, hb, hml, hown, hts, hK, hX, hA, hrt_, hlocks⟩ := id F
  have hl : lv_has ls 11 [(0, .long (lN a)), (2, .long (lN b)), (4, .int x)] := hl
  refine lv_lload_n hx hb dX5_fraction_0 rfl (lv_at hl 0 rfl) ?_
  refine lv_lstore (lv' := [(5, .long (lN a)), (0, .long (lN a)), (2, .long (lN b)), (4, .int x)]) hx hb dX5_fraction_1 hl (by decide) rfl (fun ls hl => ?_)
  refine lv_lload_n hx hb dX5_fraction_3 rfl (lv_at hl 2 rfl) ?_
  refine lv_lstore (lv' := [(7, .long (lN b)), (5, .long (lN a)), (0, .long (lN a)), (2, .long (lN b)), (4, .int x)]) hx hb dX5_fraction_4 hl (by decide) rfl (fun ls hl => ?_)
  refine xlo (σ := Nat × Nat) 11 (fun xz_ => (fun (u : Nat) (v : Nat) => [(0, .long (lN a)), (2, .long (lN b)), (4, .int x), (5, .long (lN u)), (7, .long (lN v))]) xz_.1 xz_.2) (fun xz_ => (fun (u : Nat) (v : Nat) => []) xz_.1 xz_.2) (fun xz_ => (fun (u : Nat) (v : Nat) => Nat.gcd u v = Nat.gcd a b ∧ u < 2 ^ 60 ∧ v ≤ 1000) xz_.1 xz_.2) (fun xz_ => (fun (u : Nat) (v : Nat) => v) xz_.1 xz_.2) (fun xz_ hI ih6 H locs ls hP hD hS hl => ?_) (a, b) (show Nat.gcd a b = Nat.gcd a b ∧ a < 2 ^ 60 ∧ b ≤ 1000 from (⟨rfl, ha, hb0⟩)) hP hD hS (lv_sub hl [2, 3, 4, 1, 0] rfl)
  obtain ⟨u, v⟩ := xz_
  have hP : va_P (eD g) vwCl [] H := hP
  have hD : va_D A [] := hD
  have hl : lv_has ls 11 [(0, .long (lN a)), (2, .long (lN b)), (4, .int x), (5, .long (lN u)), (7, .long (lN v))] := hl
  have hI6 : Nat.gcd u v = Nat.gcd a b ∧ u < 2 ^ 60 ∧ v ≤ 1000 := hI
  clear hI
  obtain ⟨hg, hu, hv⟩ := id hI6
  refine lv_lload hx hb dX5_fraction_6 (lv_at hl 4 rfl) ?_
  refine lv_lconst (v := lN 0) hx hb dX5_fraction_8 rfl ?_
  refine keq (tgt := 31) hx hb dX5_fraction_9 dX5_fraction_10 (by decide) (by omega) (by omega) (fun c10 => ?_) (fun c10 => ?_)
  · skip
    have hug : u = Nat.gcd a b := by rw [← hg, c10, Nat.gcd_zero_right]
    refine lv_lload hx hb dX5_fraction_31 (lv_at hl 3 rfl) ?_
    refine lv_lconst (v := lN 0) hx hb dX5_fraction_33 rfl ?_
    refine kne (tgt := 44) hx hb dX5_fraction_34 dX5_fraction_35 (by decide) (by omega) (by omega) (fun c35 => ?_) (fun c35 => ?_)
    · skip
      refine lv_iload hx hb dX5_fraction_44 (lv_at hl 2 rfl) ?_
      refine wne (tgt := 56) hx hb dX5_fraction_46 (by decide) (fun c46 => ?_) (fun c46 => ?_)
      · skip
        refine lv_lload_n hx hb dX5_fraction_56 rfl (lv_at hl 1 rfl) ?_
        refine lv_lload hx hb dX5_fraction_57 (lv_at hl 3 rfl) ?_
        refine xldiv hx hb (by omega) (by omega) (by omega) dX5_fraction_59 ?_
        exact rtL F hP hD hS dX5_fraction_60 (⟨by rw [fr_n (by omega) hab, hug, if_neg (by simpa using c46)], rfl⟩)
      · skip
        refine lv_lload_n hx hb dX5_fraction_49 rfl (lv_at hl 0 rfl) ?_
        refine lv_lload hx hb dX5_fraction_50 (lv_at hl 3 rfl) ?_
        refine xldiv hx hb (by omega) (by omega) (by omega) dX5_fraction_52 ?_
        refine lv_goto (tgt := 60) hx hb dX5_fraction_53 (by decide) ?_
        exact rtL F hP hD hS dX5_fraction_60 (⟨by rw [fr_n (by omega) hab, hug, if_pos (by simpa using c46)], rfl⟩)
    · skip
      refine lv_iload hx hb dX5_fraction_38 (lv_at hl 2 rfl) ?_
      refine lv_i2l hx hb dX5_fraction_40 rfl ?_
      refine lv_goto (tgt := 60) hx hb dX5_fraction_41 (by decide) ?_
      exact rtL F hP hD hS dX5_fraction_60 (⟨by rw [fr_0 (by omega)]; exact part_l hpx, rfl⟩)
  · skip
    refine lv_lload hx hb dX5_fraction_13 (lv_at hl 3 rfl) ?_
    refine lv_lload hx hb dX5_fraction_15 (lv_at hl 4 rfl) ?_
    refine xlrem hx hb (by omega) (by omega) (by omega) dX5_fraction_17 ?_
    refine lv_lstore (lv' := [(9, .long (lN (u % v))), (0, .long (lN a)), (2, .long (lN b)), (4, .int x), (5, .long (lN u)), (7, .long (lN v))]) hx hb dX5_fraction_18 hl (by decide) rfl (fun ls hl => ?_)
    refine lv_lload hx hb dX5_fraction_20 (lv_at hl 5 rfl) ?_
    refine lv_lstore (lv' := [(5, .long (lN v)), (9, .long (lN (u % v))), (0, .long (lN a)), (2, .long (lN b)), (4, .int x), (7, .long (lN v))]) hx hb dX5_fraction_22 hl (by decide) rfl (fun ls hl => ?_)
    refine lv_lload hx hb dX5_fraction_24 (lv_at hl 1 rfl) ?_
    refine lv_lstore (lv' := [(7, .long (lN (u % v))), (5, .long (lN v)), (9, .long (lN (u % v))), (0, .long (lN a)), (2, .long (lN b)), (4, .int x)]) hx hb dX5_fraction_26 hl (by decide) rfl (fun ls hl => ?_)
    refine lv_goto (tgt := 6) hx hb dX5_fraction_28 (by decide) ?_
    exact ih6 (v, u % v) (show Nat.gcd v (u % v) = Nat.gcd a b ∧ v < 2 ^ 60 ∧ (u % v) ≤ 1000 from (⟨by rw [← hg]; exact (gcd_swap u v).symm, by omega, by have := Nat.mod_lt u (show 0 < v by omega); omega⟩)) (show (u % v) < v from (Nat.mod_lt u (by omega))) _ _ _ hP hD hS (lv_sub hl [3, 4, 5, 1, 0] rfl)

theorem inX5_change_X5 : ∀ w ∈ u_ws RX5 TX5 20, w ∈ wsX5_change := fun _ h => (List.mem_cons_of_mem _ (List.mem_append_right _ h))
theorem lkX5_change_1 : Cond.fieldLink RX5 19 "StripInFiveStepsModel" "now" "[I" ∈ wsX5_change := List.mem_of_getElem? (i := 1) rfl
theorem kX5_change : Cal yX5_change wsX5_change cX5_change 6 (some .int) 4 := ⟨⟨_, rfl⟩, by decide +kernel⟩
set_option maxHeartbeats 4000000 in
set_option maxRecDepth 100000 in
theorem c_X5_change (l : Launch) (g : EE) (m0 : Nat) (m1 : Nat) (m2 : Nat) (m3 : Nat) (m4 : Nat) (m5 : Nat) (m6 : Nat) (m7 : Nat) (m8 : Nat) (m9 : Nat) (m10 : Nat) (m11 : Nat) (m12 : Nat) (m13 : Nat) (m14 : Nat) (kp : Nat) (rn : Nat) (tn : Nat) (ia : Nat) (wl : Nat) (si : Nat) (rf : Nat → Int32) (S : Nat → Nat) (wh : Nat) (x : Int32) (lo : Nat) (hi : Nat) (hwh : wh < 49) (hlo : lo < 1000) (hhi : hi < 1000) : CI l yX5_change wsX5_change ({ frames := 1, cells := 0, slots := 0, locals := 21 }) g [.ref m0, .int (nI wh), .int x, .int (nI lo), .int (nI hi)] [(m0, .inr (5, [.ref m1, .ref m2, .ref m3, .int (nI kp), .ref m4, .ref m5, .ref m6, .ref m7, .ref m8, .int (nI rn), .ref m9, .int (nI tn), .int (nI ia), .int (nI wl), .ref m10, .ref m11, .ref m12, .int (nI si), .ref m13, .ref m14])), (m1, .inl (eI g, 7, .inl rf)), (m2, .inl (eI g, 49, .inl (fun j => nI (S j))))] (fun (rz : Int32) (wz : va_W) => rz = (rsp (cdC x lo hi) (nI (S wh))) ∧ wz = [(m0, .inr (5, [.ref m1, .ref m2, .ref m3, .int (nI kp), .ref m4, .ref m5, .ref m6, .ref m7, .ref m8, .int (nI rn), .ref m9, .int (nI tn), .int (nI ia), .int (nI wl), .ref m10, .ref m11, .ref m12, .int (nI si), .ref m13, .ref m14])), (m1, .inl (eI g, 7, .inl (bump rf (cdC x lo hi)))), (m2, .inl (eI g, 49, .inl (fun j => nI ((if cdC x lo hi = 0 then updN S wh x.toNatClampNeg else S) j))))]) 0 0 := by
  refine ctI (cc := cX5_change) (maxL := 6) (ret := (some .int)) (by decide) rfl (Nat.le_of_ble_eq_true rfl) ?_
  intro p_ e_ s_ m_ bl_ mt_ cd_ A ls F hnm hP hD hS hl
  obtain ⟨hx, hb, hml, hown, hts, hK, hX, hA, hrt_, hlocks⟩ := id F
  have hl : lv_has ls 6 [(0, .ref m0), (1, .int (nI wh)), (2, .int x), (3, .int (nI lo)), (4, .int (nI hi))] := hl
  refine lv_iload_n hx hb dX5_change_0 rfl (lv_at hl 2 rfl) ?_
  refine lv_iload_n hx hb dX5_change_1 rfl (lv_at hl 3 rfl) ?_
  refine yge (tgt := 12) hx hb dX5_change_2 (by decide) (by omega) (fun c2 => ?_) (fun c2 => ?_)
  · skip
    refine lv_iload_n hx hb dX5_change_12 rfl (lv_at hl 2 rfl) ?_
    refine lv_iload hx hb dX5_change_13 (lv_at hl 4 rfl) ?_
    refine yle (tgt := 25) hx hb dX5_change_15 (by decide) (by omega) (fun c15 => ?_) (fun c15 => ?_)
    · skip
      obtain ⟨k, hk_, rfl⟩ := natOf (x := x) (by omega)
      rw [nI_tI hk_] at c2
      rw [nI_tI hk_] at c15
      refine lv_aload_n hx hb dX5_change_25 rfl (lv_at hl 0 rfl) ?_
      refine xget F hP inX5_change_X5 0 rfl rfl 1 (by decide) lkX5_change_1 rfl dX5_change_26 ?_
      refine lv_iload_n hx hb dX5_change_29 rfl (lv_at hl 1 rfl) ?_
      refine xald F hP 2 (v := (nI (S wh))) rfl (by omega) (by omega) rfl dX5_change_30 ?_
      refine lv_istore (lv' := [(5, .int (nI (S wh))), (0, .ref m0), (1, .int (nI wh)), (2, .int (nI k)), (3, .int (nI lo)), (4, .int (nI hi))]) hx hb dX5_change_31 hl (by decide) rfl (fun ls hl => ?_)
      refine lv_aload_n hx hb dX5_change_33 rfl (lv_at hl 1 rfl) ?_
      refine xget F hP inX5_change_X5 0 rfl rfl 1 (by decide) lkX5_change_1 rfl dX5_change_34 ?_
      refine lv_iload_n hx hb dX5_change_37 rfl (lv_at hl 2 rfl) ?_
      refine lv_iload_n hx hb dX5_change_38 rfl (lv_at hl 3 rfl) ?_
      refine xast F hP hD hS 2 (f' := fun j => nI ((updN S wh k) j)) rfl (by omega) (by omega) (upd_nI S wh k) dX5_change_39 (fun H locs hP hD hS => ?_)
      have hP : va_P (eD g) vwCl [(m0, .inr (5, [.ref m1, .ref m2, .ref m3, .int (nI kp), .ref m4, .ref m5, .ref m6, .ref m7, .ref m8, .int (nI rn), .ref m9, .int (nI tn), .int (nI ia), .int (nI wl), .ref m10, .ref m11, .ref m12, .int (nI si), .ref m13, .ref m14])), (m1, .inl (eI g, 7, .inl rf)), (m2, .inl (eI g, 49, .inl (fun j => nI ((updN S wh k) j))))] H := hP
      have hD : va_D A [(m0, .inr (5, [.ref m1, .ref m2, .ref m3, .int (nI kp), .ref m4, .ref m5, .ref m6, .ref m7, .ref m8, .int (nI rn), .ref m9, .int (nI tn), .int (nI ia), .int (nI wl), .ref m10, .ref m11, .ref m12, .int (nI si), .ref m13, .ref m14])), (m1, .inl (eI g, 7, .inl rf)), (m2, .inl (eI g, 49, .inl (fun j => nI ((updN S wh k) j))))] := hD
      refine lv_iload hx hb dX5_change_40 (lv_at hl 0 rfl) ?_
      exact rtI F hP hD hS dX5_change_42 (by rw [show cdC (nI k) lo hi = 0 by unfold cdC; rw [nI_tI hk_, if_neg (by omega), if_neg (by omega)]]; exact ⟨rfl, by rw [if_pos rfl, nI_clamp hk_]; rfl⟩)
    · skip
      refine lv_aload_n hx hb dX5_change_18 rfl (lv_at hl 0 rfl) ?_
      refine lv_bipush (v := (-6)) hx hb dX5_change_19 (by decide) ?_
      refine cVI (As := [.int (-6)]) (rest := []) F (c_X5_no l g m0 m1 m2 m3 m4 m5 m6 m7 m8 m9 m10 m11 m12 m13 m14 kp rn tn ia wl si rf (-6) 6 (by decide) (by omega) (by omega)) kX5_no rfl gX5_change_X5_no rfl rfl ⟨Nat.le_of_ble_eq_true rfl, Nat.le_of_ble_eq_true rfl⟩ hP hD hS [0, 1] [2] rfl rfl 0 rfl rfl hl.1 rfl rfl (Nat.le_of_ble_eq_true rfl) dX5_change_21 ⟨Nat.le_of_ble_eq_true rfl, Nat.le_of_ble_eq_true rfl⟩ (fun rz w1 H locs hpo hP hD hS => ?_)
      obtain ⟨rfl, rfl⟩ := hpo
      obtain ⟨hP, hD⟩ := nx (ws' := [(m0, .inr (5, [.ref m1, .ref m2, .ref m3, .int (nI kp), .ref m4, .ref m5, .ref m6, .ref m7, .ref m8, .int (nI rn), .ref m9, .int (nI tn), .int (nI ia), .int (nI wl), .ref m10, .ref m11, .ref m12, .int (nI si), .ref m13, .ref m14])), (m1, .inl (eI g, 7, .inl (bump rf 6))), (m2, .inl (eI g, 49, .inl (fun j => nI (S j))))]) hP hD [1, 2, 0] (ndB_ok _ rfl) rfl
      exact rtI F hP hD hS dX5_change_24 (by rw [show cdC x lo hi = 6 by unfold cdC; rw [if_neg (by omega), if_pos (by omega)]]; exact ⟨rfl, rfl⟩)
  · skip
    refine lv_aload_n hx hb dX5_change_5 rfl (lv_at hl 0 rfl) ?_
    refine lv_bipush (v := (-4)) hx hb dX5_change_6 (by decide) ?_
    refine cVI (As := [.int (-4)]) (rest := []) F (c_X5_no l g m0 m1 m2 m3 m4 m5 m6 m7 m8 m9 m10 m11 m12 m13 m14 kp rn tn ia wl si rf (-4) 4 (by decide) (by omega) (by omega)) kX5_no rfl gX5_change_X5_no rfl rfl ⟨Nat.le_of_ble_eq_true rfl, Nat.le_of_ble_eq_true rfl⟩ hP hD hS [0, 1] [2] rfl rfl 0 rfl rfl hl.1 rfl rfl (Nat.le_of_ble_eq_true rfl) dX5_change_8 ⟨Nat.le_of_ble_eq_true rfl, Nat.le_of_ble_eq_true rfl⟩ (fun rz w1 H locs hpo hP hD hS => ?_)
    obtain ⟨rfl, rfl⟩ := hpo
    obtain ⟨hP, hD⟩ := nx (ws' := [(m0, .inr (5, [.ref m1, .ref m2, .ref m3, .int (nI kp), .ref m4, .ref m5, .ref m6, .ref m7, .ref m8, .int (nI rn), .ref m9, .int (nI tn), .int (nI ia), .int (nI wl), .ref m10, .ref m11, .ref m12, .int (nI si), .ref m13, .ref m14])), (m1, .inl (eI g, 7, .inl (bump rf 4))), (m2, .inl (eI g, 49, .inl (fun j => nI (S j))))]) hP hD [1, 2, 0] (ndB_ok _ rfl) rfl
    exact rtI F hP hD hS dX5_change_11 (by rw [show cdC x lo hi = 4 by unfold cdC; rw [if_pos (by omega)]]; exact ⟨rfl, rfl⟩)

theorem kX5_shortest : Cal yX5_shortest wsX5_shortest cX5_shortest 2 (some .int) 1 := ⟨⟨_, rfl⟩, by decide +kernel⟩
set_option maxHeartbeats 4000000 in
set_option maxRecDepth 100000 in
theorem c_X5_shortest (l : Launch) (g : EE) (f0 : Nat) (P : Nat → Nat) (hP9 : ∀ j, j ≤ 40 → P j ≤ 9) (hne : ∃ j, 1 ≤ j ∧ j ≤ 40 ∧ P j ≠ 0) : CI l yX5_shortest wsX5_shortest ({ frames := 0, cells := 0, slots := 0, locals := 0 }) g [.ref f0] [(f0, .inl (eI g, 49, .inl (fun j => nI (P j))))] (fun (rz : Int32) (wz : va_W) => rz = (ff (lpB P) 40 1) ∧ wz = [(f0, .inl (eI g, 49, .inl (fun j => nI (P j))))]) 0 0 := by
  refine ctI (cc := cX5_shortest) (maxL := 2) (ret := (some .int)) (by decide) rfl (Nat.le_of_ble_eq_true rfl) ?_
  intro p_ e_ s_ m_ bl_ mt_ cd_ A ls F hnm hP hD hS hl
  obtain ⟨hx, hb, hml, hown, hts, hK, hX, hA, hrt_, hlocks⟩ := id F
  have hl : lv_has ls 2 [(0, .ref f0)] := hl
  refine lv_iconst (v := (nI 1)) hx hb dX5_shortest_0 (by decide) ?_
  refine lv_istore_n (lv' := [(1, .int (nI 1)), (0, .ref f0)]) hx hb dX5_shortest_1 rfl hl (by decide) rfl (fun ls hl => ?_)
  refine xlo (σ := Nat) 2 (fun (i : Nat) => [(0, .ref f0), (1, .int (nI i))]) (fun (i : Nat) => [(f0, .inl (eI g, 49, .inl (fun j => nI (P j))))]) (fun (i : Nat) => ff (lpB P) 40 1 = ff (lpB P) (41 - i) i ∧ 1 ≤ i ∧ i ≤ 40 ∧ ∃ j, i ≤ j ∧ j ≤ 40 ∧ P j ≠ 0) (fun (i : Nat) => 41 - i) (fun xz_ hI ih2 H locs ls hP hD hS hl => ?_) 1 (show ff (lpB P) 40 1 = ff (lpB P) (41 - 1) 1 ∧ 1 ≤ 1 ∧ 1 ≤ 40 ∧ ∃ j, 1 ≤ j ∧ j ≤ 40 ∧ P j ≠ 0 from (⟨rfl, by omega, by omega, hne⟩)) hP hD hS (lv_sub hl [1, 0] rfl)
  obtain ⟨i, rfl⟩ : ∃ z, z = xz_ := ⟨_, rfl⟩
  have hP : va_P (eD g) vwCl [(f0, .inl (eI g, 49, .inl (fun j => nI (P j))))] H := hP
  have hD : va_D A [(f0, .inl (eI g, 49, .inl (fun j => nI (P j))))] := hD
  have hl : lv_has ls 2 [(0, .ref f0), (1, .int (nI i))] := hl
  have hI2 : ff (lpB P) 40 1 = ff (lpB P) (41 - i) i ∧ 1 ≤ i ∧ i ≤ 40 ∧ ∃ j, i ≤ j ∧ j ≤ 40 ∧ P j ≠ 0 := hI
  clear hI
  obtain ⟨hf0, hi1, hi2, hj⟩ := id hI2
  refine lv_aload_n hx hb dX5_shortest_2 rfl (lv_at hl 0 rfl) ?_
  refine lv_iload_n hx hb dX5_shortest_3 rfl (lv_at hl 1 rfl) ?_
  refine xald F hP 0 (v := (nI (P i))) rfl (by omega) (by omega) rfl dX5_shortest_4 ?_
  have hbd1 := hP9 (i) (by omega)
  refine zne (tgt := 14) hx hb dX5_shortest_5 (by decide) (by omega) (fun c5 => ?_) (fun c5 => ?_)
  · skip
    refine lv_iload_n hx hb dX5_shortest_14 rfl (lv_at hl 1 rfl) ?_
    exact rtI F hP hD hS dX5_shortest_15 (⟨by rw [hf0]; exact (ff_yes (by omega) (lp_on hi1 hi2 c5)).symm, rfl⟩)
  · skip
    refine lv_iinc (v := (nI (i + 1))) (lv' := [(1, .int (nI (i + 1))), (0, .ref f0)]) hx hb dX5_shortest_8 hl (k := 1) rfl (iincP i 1) (by decide) rfl (fun ls hl => ?_)
    refine lv_goto (tgt := 2) hx hb dX5_shortest_11 (by decide) ?_
    exact ih2 (i + 1) (show ff (lpB P) 40 1 = ff (lpB P) (41 - (i + 1)) (i + 1) ∧ 1 ≤ (i + 1) ∧ (i + 1) ≤ 40 ∧ ∃ j, (i + 1) ≤ j ∧ j ≤ 40 ∧ P j ≠ 0 from (sh_back hf0 hi1 hi2 hj c5)) (show 41 - (i + 1) < 41 - i from (by omega)) _ _ _ hP hD hS (lv_sub hl [1, 0] rfl)

theorem kX5_longest : Cal yX5_longest wsX5_longest cX5_longest 2 (some .int) 1 := ⟨⟨_, rfl⟩, by decide +kernel⟩
set_option maxHeartbeats 4000000 in
set_option maxRecDepth 100000 in
theorem c_X5_longest (l : Launch) (g : EE) (f0 : Nat) (P : Nat → Nat) (hP9 : ∀ j, j ≤ 40 → P j ≤ 9) (hne : ∃ j, 1 ≤ j ∧ j ≤ 40 ∧ P j ≠ 0) : CI l yX5_longest wsX5_longest ({ frames := 0, cells := 0, slots := 0, locals := 0 }) g [.ref f0] [(f0, .inl (eI g, 49, .inl (fun j => nI (P j))))] (fun (rz : Int32) (wz : va_W) => rz = (fl (lpB P) 40) ∧ wz = [(f0, .inl (eI g, 49, .inl (fun j => nI (P j))))]) 0 0 := by
  refine ctI (cc := cX5_longest) (maxL := 2) (ret := (some .int)) (by decide) rfl (Nat.le_of_ble_eq_true rfl) ?_
  intro p_ e_ s_ m_ bl_ mt_ cd_ A ls F hnm hP hD hS hl
  obtain ⟨hx, hb, hml, hown, hts, hK, hX, hA, hrt_, hlocks⟩ := id F
  have hl : lv_has ls 2 [(0, .ref f0)] := hl
  refine lv_bipush (v := (nI 40)) hx hb dX5_longest_0 (by decide) ?_
  refine lv_istore_n (lv' := [(1, .int (nI 40)), (0, .ref f0)]) hx hb dX5_longest_2 rfl hl (by decide) rfl (fun ls hl => ?_)
  refine xlo (σ := Nat) 2 (fun (i : Nat) => [(0, .ref f0), (1, .int (nI i))]) (fun (i : Nat) => [(f0, .inl (eI g, 49, .inl (fun j => nI (P j))))]) (fun (i : Nat) => fl (lpB P) 40 = fl (lpB P) i ∧ 1 ≤ i ∧ i ≤ 40 ∧ ∃ j, 1 ≤ j ∧ j ≤ i ∧ P j ≠ 0) (fun (i : Nat) => i) (fun xz_ hI ih3 H locs ls hP hD hS hl => ?_) 40 (show fl (lpB P) 40 = fl (lpB P) 40 ∧ 1 ≤ 40 ∧ 40 ≤ 40 ∧ ∃ j, 1 ≤ j ∧ j ≤ 40 ∧ P j ≠ 0 from (⟨rfl, by omega, by omega, hne⟩)) hP hD hS (lv_sub hl [1, 0] rfl)
  obtain ⟨i, rfl⟩ : ∃ z, z = xz_ := ⟨_, rfl⟩
  have hP : va_P (eD g) vwCl [(f0, .inl (eI g, 49, .inl (fun j => nI (P j))))] H := hP
  have hD : va_D A [(f0, .inl (eI g, 49, .inl (fun j => nI (P j))))] := hD
  have hl : lv_has ls 2 [(0, .ref f0), (1, .int (nI i))] := hl
  have hI3 : fl (lpB P) 40 = fl (lpB P) i ∧ 1 ≤ i ∧ i ≤ 40 ∧ ∃ j, 1 ≤ j ∧ j ≤ i ∧ P j ≠ 0 := hI
  clear hI
  obtain ⟨hf0, hi1, hi2, hj⟩ := id hI3
  refine lv_aload_n hx hb dX5_longest_3 rfl (lv_at hl 0 rfl) ?_
  refine lv_iload_n hx hb dX5_longest_4 rfl (lv_at hl 1 rfl) ?_
  refine xald F hP 0 (v := (nI (P i))) rfl (by omega) (by omega) rfl dX5_longest_5 ?_
  have hbd1 := hP9 (i) (by omega)
  refine zne (tgt := 15) hx hb dX5_longest_6 (by decide) (by omega) (fun c6 => ?_) (fun c6 => ?_)
  · skip
    refine lv_iload_n hx hb dX5_longest_15 rfl (lv_at hl 1 rfl) ?_
    exact rtI F hP hD hS dX5_longest_16 (⟨by rw [hf0]; exact (fl_yes (by omega) (lp_on hi1 hi2 c6)).symm, rfl⟩)
  · skip
    refine lv_iinc (v := (nI (i - 1))) (lv' := [(1, .int (nI (i - 1))), (0, .ref f0)]) hx hb dX5_longest_9 hl (k := 1) rfl (iincM (a := i) (n := 1) (by omega)) (by decide) rfl (fun ls hl => ?_)
    refine lv_goto (tgt := 3) hx hb dX5_longest_12 (by decide) ?_
    exact ih3 (i - 1) (show fl (lpB P) 40 = fl (lpB P) (i - 1) ∧ 1 ≤ (i - 1) ∧ (i - 1) ≤ 40 ∧ ∃ j, 1 ≤ j ∧ j ≤ (i - 1) ∧ P j ≠ 0 from (lo_back hf0 hi1 hi2 hj c6)) (show (i - 1) < i from (by omega)) _ _ _ hP hD hS (lv_sub hl [1, 0] rfl)

theorem inX5_faultsBehind_X5 : ∀ w ∈ u_ws RX5 TX5 20, w ∈ wsX5_faultsBehind := fun _ h => (List.mem_cons_of_mem _ (List.mem_append_right _ h))
theorem lkX5_faultsBehind_1 : Cond.fieldLink RX5 19 "StripInFiveStepsModel" "now" "[I" ∈ wsX5_faultsBehind := List.mem_of_getElem? (i := 1) rfl
theorem lkX5_faultsBehind_2 : Cond.fieldLink RX5 34 "StripInFiveStepsModel" "mind" "[I" ∈ wsX5_faultsBehind := List.mem_of_getElem? (i := 2) rfl
theorem kX5_faultsBehind : Cal yX5_faultsBehind wsX5_faultsBehind cX5_faultsBehind 4 (some .int) 0 := ⟨⟨_, rfl⟩, by decide +kernel⟩
set_option maxHeartbeats 4000000 in
set_option maxRecDepth 100000 in
theorem c_X5_faultsBehind (l : Launch) (g : EE) (m0 : Nat) (m1 : Nat) (m2 : Nat) (m3 : Nat) (m4 : Nat) (m5 : Nat) (m6 : Nat) (m7 : Nat) (m8 : Nat) (m9 : Nat) (m10 : Nat) (m11 : Nat) (m12 : Nat) (m13 : Nat) (m14 : Nat) (kp : Nat) (rn : Nat) (tn : Nat) (ia : Nat) (wl : Nat) (si : Nat) (S : Nat → Nat) (O : Nat → Int32) (Y : Nat → Nat) (Z : Nat → Nat) (M : Nat → Nat) (hO : okS S) : CI l yX5_faultsBehind wsX5_faultsBehind ({ frames := 8, cells := 0, slots := 0, locals := 186 }) g [.ref m0] [(m0, .inr (5, [.ref m1, .ref m2, .ref m3, .int (nI kp), .ref m4, .ref m5, .ref m6, .ref m7, .ref m8, .int (nI rn), .ref m9, .int (nI tn), .int (nI ia), .int (nI wl), .ref m10, .ref m11, .ref m12, .int (nI si), .ref m13, .ref m14])), (m2, .inl (eI g, 49, .inl (fun j => nI (S j)))), (m4, .inl (eI g, 41, .inl O)), (m5, .inl (eI g, 9, .inl (fun j => nI (Y j)))), (m6, .inl (eI g, 9, .inl (fun j => nI (Z j)))), (m7, .inl (eI g, 49, .inl (fun j => nI (M j))))] (fun (rz : Int32) (wz : va_W) => ∃ O9 : Nat → Int32, ∃ Y9 : Nat → Nat, ∃ Z9 : Nat → Nat, ∃ M9 : Nat → Nat, rz = (nI (fbS (tlS S) S (lpB S) (S 45) (bv (tlS S) (lpB S)))) ∧ wz = [(m0, .inr (5, [.ref m1, .ref m2, .ref m3, .int (nI kp), .ref m4, .ref m5, .ref m6, .ref m7, .ref m8, .int (nI rn), .ref m9, .int (nI tn), .int (nI ia), .int (nI wl), .ref m10, .ref m11, .ref m12, .int (nI si), .ref m13, .ref m14])), (m2, .inl (eI g, 49, .inl (fun j => nI (S j)))), (m4, .inl (eI g, 41, .inl O9)), (m5, .inl (eI g, 9, .inl (fun j => nI (Y9 j)))), (m6, .inl (eI g, 9, .inl (fun j => nI (Z9 j)))), (m7, .inl (eI g, 49, .inl (fun j => nI (M9 j))))]) 0 0 := by
  refine ctI (cc := cX5_faultsBehind) (maxL := 4) (ret := (some .int)) (by decide) rfl (Nat.le_of_ble_eq_true rfl) ?_
  intro p_ e_ s_ m_ bl_ mt_ cd_ A ls F hnm hP hD hS hl
  obtain ⟨hx, hb, hml, hown, hts, hK, hX, hA, hrt_, hlocks⟩ := id F
  have hl : lv_has ls 4 [(0, .ref m0)] := hl
  have hvin := bv_in (tlS S) (lpB S)
  refine lv_aload_n hx hb dX5_faultsBehind_0 rfl (lv_at hl 0 rfl) ?_
  refine lv_aload_n hx hb dX5_faultsBehind_1 rfl (lv_at hl 0 rfl) ?_
  refine xget F hP inX5_faultsBehind_X5 0 rfl rfl 1 (by decide) lkX5_faultsBehind_1 rfl dX5_faultsBehind_2 ?_
  refine lv_iconst (v := (nI 0)) hx hb dX5_faultsBehind_5 (by decide) ?_
  refine cVI (As := [.ref m2, .int (nI 0)]) (rest := []) F (nc_X5_bestBy l g m0 m1 m2 m3 m4 m5 m6 m7 m8 m9 m10 m11 m12 m13 m14 kp rn tn ia wl si S O Y Z 0 (hO) (by omega)) kX5_bestBy rfl gX5_faultsBehind_X5_bestBy rfl rfl ⟨Nat.le_of_ble_eq_true rfl, Nat.le_of_ble_eq_true rfl⟩ hP hD hS [0, 1, 2, 3, 4] [5] rfl rfl 0 rfl rfl hl.1 rfl rfl (Nat.le_of_ble_eq_true rfl) dX5_faultsBehind_6 ⟨Nat.le_of_ble_eq_true rfl, Nat.le_of_ble_eq_true rfl⟩ (fun rz w1 H locs hpo hP hD hS => ?_)
  obtain ⟨O9_1, Y9_1, Z9_1, rfl, rfl⟩ := hpo
  obtain ⟨hP, hD⟩ := nx (ws' := [(m0, .inr (5, [.ref m1, .ref m2, .ref m3, .int (nI kp), .ref m4, .ref m5, .ref m6, .ref m7, .ref m8, .int (nI rn), .ref m9, .int (nI tn), .int (nI ia), .int (nI wl), .ref m10, .ref m11, .ref m12, .int (nI si), .ref m13, .ref m14])), (m2, .inl (eI g, 49, .inl (fun j => nI (S j)))), (m4, .inl (eI g, 41, .inl O9_1)), (m5, .inl (eI g, 9, .inl (fun j => nI (Y9_1 j)))), (m6, .inl (eI g, 9, .inl (fun j => nI (Z9_1 j)))), (m7, .inl (eI g, 49, .inl (fun j => nI (M j))))]) hP hD [1, 2, 3, 4, 5, 0] (ndB_ok _ rfl) rfl
  refine sti (congrArg nI (show bsI (tlS S) S (lpB S) 0 = bv (tlS S) (lpB S) from bsI_0 _ _ _)) ?_
  refine lv_istore_n (lv' := [(1, .int (nI (bv (tlS S) (lpB S)))), (0, .ref m0)]) hx hb dX5_faultsBehind_9 rfl hl (by decide) rfl (fun ls hl => ?_)
  refine lv_iconst (v := (nI 0)) hx hb dX5_faultsBehind_10 (by decide) ?_
  refine lv_istore_n (lv' := [(2, .int (nI 0)), (1, .int (nI (bv (tlS S) (lpB S)))), (0, .ref m0)]) hx hb dX5_faultsBehind_11 rfl hl (by decide) rfl (fun ls hl => ?_)
  refine lv_iconst (v := (nI 0)) hx hb dX5_faultsBehind_12 (by decide) ?_
  refine lv_istore_n (lv' := [(3, .int (nI 0)), (2, .int (nI 0)), (1, .int (nI (bv (tlS S) (lpB S)))), (0, .ref m0)]) hx hb dX5_faultsBehind_13 rfl hl (by decide) rfl (fun ls hl => ?_)
  refine xlo (σ := Nat × Nat × (Nat → Int32) × (Nat → Nat) × (Nat → Nat) × (Nat → Nat)) 4 (fun xz_ => (fun (k : Nat) (a : Nat) (o : Nat → Int32) (y2 : Nat → Nat) (z2 : Nat → Nat) (m_ : Nat → Nat) => [(0, .ref m0), (1, .int (nI (bv (tlS S) (lpB S)))), (2, .int (nI a)), (3, .int (nI k))]) xz_.1 xz_.2.1 xz_.2.2.1 xz_.2.2.2.1 xz_.2.2.2.2.1 xz_.2.2.2.2.2) (fun xz_ => (fun (k : Nat) (a : Nat) (o : Nat → Int32) (y2 : Nat → Nat) (z2 : Nat → Nat) (m_ : Nat → Nat) => [(m0, .inr (5, [.ref m1, .ref m2, .ref m3, .int (nI kp), .ref m4, .ref m5, .ref m6, .ref m7, .ref m8, .int (nI rn), .ref m9, .int (nI tn), .int (nI ia), .int (nI wl), .ref m10, .ref m11, .ref m12, .int (nI si), .ref m13, .ref m14])), (m2, .inl (eI g, 49, .inl (fun j => nI (S j)))), (m4, .inl (eI g, 41, .inl o)), (m5, .inl (eI g, 9, .inl (fun j => nI (y2 j)))), (m6, .inl (eI g, 9, .inl (fun j => nI (z2 j)))), (m7, .inl (eI g, 49, .inl (fun j => nI (m_ j))))]) xz_.1 xz_.2.1 xz_.2.2.1 xz_.2.2.2.1 xz_.2.2.2.2.1 xz_.2.2.2.2.2) (fun xz_ => (fun (k : Nat) (a : Nat) (o : Nat → Int32) (y2 : Nat → Nat) (z2 : Nat → Nat) (m_ : Nat → Nat) => a = sz (fun z_ => faS S (prt (tlS S) (lpB S) (bv (tlS S) (lpB S)) z_) (giS S (prt (tlS S) (lpB S) (bv (tlS S) (lpB S)) z_) (S 45)) * S 45) k ∧ k ≤ 9) xz_.1 xz_.2.1 xz_.2.2.1 xz_.2.2.2.1 xz_.2.2.2.2.1 xz_.2.2.2.2.2) (fun xz_ => (fun (k : Nat) (a : Nat) (o : Nat → Int32) (y2 : Nat → Nat) (z2 : Nat → Nat) (m_ : Nat → Nat) => 9 - k) xz_.1 xz_.2.1 xz_.2.2.1 xz_.2.2.2.1 xz_.2.2.2.2.1 xz_.2.2.2.2.2) (fun xz_ hI ih14 H locs ls hP hD hS hl => ?_) (0, 0, O9_1, Y9_1, Z9_1, M) (show 0 = sz (fun z_ => faS S (prt (tlS S) (lpB S) (bv (tlS S) (lpB S)) z_) (giS S (prt (tlS S) (lpB S) (bv (tlS S) (lpB S)) z_) (S 45)) * S 45) 0 ∧ 0 ≤ 9 from (⟨rfl, by omega⟩)) hP hD hS (lv_sub hl [3, 2, 1, 0] rfl)
  obtain ⟨k, a, o, y2, z2, m_⟩ := xz_
  have hP : va_P (eD g) vwCl [(m0, .inr (5, [.ref m1, .ref m2, .ref m3, .int (nI kp), .ref m4, .ref m5, .ref m6, .ref m7, .ref m8, .int (nI rn), .ref m9, .int (nI tn), .int (nI ia), .int (nI wl), .ref m10, .ref m11, .ref m12, .int (nI si), .ref m13, .ref m14])), (m2, .inl (eI g, 49, .inl (fun j => nI (S j)))), (m4, .inl (eI g, 41, .inl o)), (m5, .inl (eI g, 9, .inl (fun j => nI (y2 j)))), (m6, .inl (eI g, 9, .inl (fun j => nI (z2 j)))), (m7, .inl (eI g, 49, .inl (fun j => nI (m_ j))))] H := hP
  have hD : va_D A [(m0, .inr (5, [.ref m1, .ref m2, .ref m3, .int (nI kp), .ref m4, .ref m5, .ref m6, .ref m7, .ref m8, .int (nI rn), .ref m9, .int (nI tn), .int (nI ia), .int (nI wl), .ref m10, .ref m11, .ref m12, .int (nI si), .ref m13, .ref m14])), (m2, .inl (eI g, 49, .inl (fun j => nI (S j)))), (m4, .inl (eI g, 41, .inl o)), (m5, .inl (eI g, 9, .inl (fun j => nI (y2 j)))), (m6, .inl (eI g, 9, .inl (fun j => nI (z2 j)))), (m7, .inl (eI g, 49, .inl (fun j => nI (m_ j))))] := hD
  have hl : lv_has ls 4 [(0, .ref m0), (1, .int (nI (bv (tlS S) (lpB S)))), (2, .int (nI a)), (3, .int (nI k))] := hl
  have hI14 : a = sz (fun z_ => faS S (prt (tlS S) (lpB S) (bv (tlS S) (lpB S)) z_) (giS S (prt (tlS S) (lpB S) (bv (tlS S) (lpB S)) z_) (S 45)) * S 45) k ∧ k ≤ 9 := hI
  clear hI
  obtain ⟨ha, hk⟩ := id hI14
  refine lv_iload_n hx hb dX5_faultsBehind_14 rfl (lv_at hl 3 rfl) ?_
  refine lv_bipush (v := (nI 8)) hx hb dX5_faultsBehind_15 (by decide) ?_
  refine xgt (tgt := 69) hx hb dX5_faultsBehind_17 (by decide) (by omega) (by omega) (fun c17 => ?_) (fun c17 => ?_)
  · skip
    refine lv_iload_n hx hb dX5_faultsBehind_69 rfl (lv_at hl 2 rfl) ?_
    exact rtI F hP hD hS dX5_faultsBehind_70 (⟨_, _, _, _, by rw [ha, show k = 9 by omega]; rfl, rfl⟩)
  · skip
    refine lv_aload_n hx hb dX5_faultsBehind_20 rfl (lv_at hl 0 rfl) ?_
    refine xget F hP inX5_faultsBehind_X5 0 rfl rfl 1 (by decide) lkX5_faultsBehind_1 rfl dX5_faultsBehind_21 ?_
    refine lv_aload_n hx hb dX5_faultsBehind_24 rfl (lv_at hl 0 rfl) ?_
    refine xget F hP inX5_faultsBehind_X5 0 rfl rfl 7 (by decide) lkX5_faultsBehind_2 rfl dX5_faultsBehind_25 ?_
    refine cSV (As := [.ref m2, .ref m7]) (rest := []) F (c_X5_move l g m2 m7 S m_ ) kX5_move gX5_faultsBehind_X5_move rfl rfl ⟨Nat.le_of_ble_eq_true rfl, Nat.le_of_ble_eq_true rfl⟩ hP hD hS [1, 5] [0, 2, 3, 4] rfl rfl hl.1 rfl rfl (Nat.le_of_ble_eq_true rfl) dX5_faultsBehind_28 ⟨Nat.le_of_ble_eq_true rfl, Nat.le_of_ble_eq_true rfl⟩ (fun w1 H locs hpo hP hD hS => ?_)
    subst hpo
    obtain ⟨hP, hD⟩ := nx (ws' := [(m0, .inr (5, [.ref m1, .ref m2, .ref m3, .int (nI kp), .ref m4, .ref m5, .ref m6, .ref m7, .ref m8, .int (nI rn), .ref m9, .int (nI tn), .int (nI ia), .int (nI wl), .ref m10, .ref m11, .ref m12, .int (nI si), .ref m13, .ref m14])), (m2, .inl (eI g, 49, .inl (fun j => nI (S j)))), (m4, .inl (eI g, 41, .inl o)), (m5, .inl (eI g, 9, .inl (fun j => nI (y2 j)))), (m6, .inl (eI g, 9, .inl (fun j => nI (z2 j)))), (m7, .inl (eI g, 49, .inl (fun j => nI (S j))))]) hP hD [0, 4, 1, 2, 3, 5] (ndB_ok _ rfl) rfl
    refine lv_aload_n hx hb dX5_faultsBehind_31 rfl (lv_at hl 0 rfl) ?_
    refine lv_aload_n hx hb dX5_faultsBehind_32 rfl (lv_at hl 0 rfl) ?_
    refine xget F hP inX5_faultsBehind_X5 0 rfl rfl 7 (by decide) lkX5_faultsBehind_2 rfl dX5_faultsBehind_33 ?_
    refine lv_iload_n hx hb dX5_faultsBehind_36 rfl (lv_at hl 1 rfl) ?_
    refine lv_iload_n hx hb dX5_faultsBehind_37 rfl (lv_at hl 3 rfl) ?_
    refine cVI (As := [.ref m7, .int (nI (bv (tlS S) (lpB S))), .int (nI k)]) (rest := []) F (mc_X5_tries l g m0 m1 m2 m3 m4 m5 m6 m7 m8 m9 m10 m11 m12 m13 m14 kp rn tn ia wl si S o y2 z2 S (bv (tlS S) (lpB S)) k (hO) (hO.1) (hvin.2) (by omega)) kX5_tries rfl gX5_faultsBehind_X5_tries rfl rfl ⟨Nat.le_of_ble_eq_true rfl, Nat.le_of_ble_eq_true rfl⟩ hP hD hS [0, 1, 2, 3, 4, 5] [] rfl rfl 0 rfl rfl hl.1 rfl rfl (Nat.le_of_ble_eq_true rfl) dX5_faultsBehind_38 ⟨Nat.le_of_ble_eq_true rfl, Nat.le_of_ble_eq_true rfl⟩ (fun rz w1 H locs hpo hP hD hS => ?_)
    obtain ⟨O9_3, Y9_3, Z9_3, rfl, rfl⟩ := hpo
    obtain ⟨hP, hD⟩ := nx (ws' := [(m0, .inr (5, [.ref m1, .ref m2, .ref m3, .int (nI kp), .ref m4, .ref m5, .ref m6, .ref m7, .ref m8, .int (nI rn), .ref m9, .int (nI tn), .int (nI ia), .int (nI wl), .ref m10, .ref m11, .ref m12, .int (nI si), .ref m13, .ref m14])), (m2, .inl (eI g, 49, .inl (fun j => nI (S j)))), (m4, .inl (eI g, 41, .inl O9_3)), (m5, .inl (eI g, 9, .inl (fun j => nI (Y9_3 j)))), (m6, .inl (eI g, 9, .inl (fun j => nI (Z9_3 j)))), (m7, .inl (eI g, 49, .inl (fun j => nI ((if cnS (prt (tlS S) (lpB S) (bv (tlS S) (lpB S)) k) ≠ 0 then cutN S (prt (tlS S) (lpB S) (bv (tlS S) (lpB S)) k) 40 else S) j))))]) hP hD [0, 1, 2, 3, 4, 5] (ndB_ok _ rfl) rfl
    refine bqeq (tgt := 63) hx hb dX5_faultsBehind_41 (by decide) (fun c41 => ?_) (fun c41 => ?_)
    · skip
      refine lv_iinc (v := (nI (k + 1))) (lv' := [(3, .int (nI (k + 1))), (0, .ref m0), (1, .int (nI (bv (tlS S) (lpB S)))), (2, .int (nI a))]) hx hb dX5_faultsBehind_63 hl (k := 3) rfl (iincP k 1) (by decide) rfl (fun ls hl => ?_)
      refine lv_goto (tgt := 14) hx hb dX5_faultsBehind_66 (by decide) ?_
      exact ih14 (k + 1, a, O9_3, Y9_3, Z9_3, (if cnS (prt (tlS S) (lpB S) (bv (tlS S) (lpB S)) k) ≠ 0 then cutN S (prt (tlS S) (lpB S) (bv (tlS S) (lpB S)) k) 40 else S)) (show a = sz (fun z_ => faS S (prt (tlS S) (lpB S) (bv (tlS S) (lpB S)) z_) (giS S (prt (tlS S) (lpB S) (bv (tlS S) (lpB S)) z_) (S 45)) * S 45) (k + 1) ∧ (k + 1) ≤ 9 from (⟨by rw [ha]; exact (fb_skip (Classical.byContradiction (fun z => c41 z))).symm, by omega⟩)) (show 9 - (k + 1) < 9 - k from (by omega)) _ _ _ hP hD hS (lv_sub hl [1, 2, 3, 0] rfl)
    · skip
      rw [if_pos c41] at hP hD
      have hP : va_P (eD g) vwCl [(m0, .inr (5, [.ref m1, .ref m2, .ref m3, .int (nI kp), .ref m4, .ref m5, .ref m6, .ref m7, .ref m8, .int (nI rn), .ref m9, .int (nI tn), .int (nI ia), .int (nI wl), .ref m10, .ref m11, .ref m12, .int (nI si), .ref m13, .ref m14])), (m2, .inl (eI g, 49, .inl (fun j => nI (S j)))), (m4, .inl (eI g, 41, .inl O9_3)), (m5, .inl (eI g, 9, .inl (fun j => nI (Y9_3 j)))), (m6, .inl (eI g, 9, .inl (fun j => nI (Z9_3 j)))), (m7, .inl (eI g, 49, .inl (fun j => nI ((cutN S (prt (tlS S) (lpB S) (bv (tlS S) (lpB S)) k) 40) j))))] H := hP
      have hD : va_D A [(m0, .inr (5, [.ref m1, .ref m2, .ref m3, .int (nI kp), .ref m4, .ref m5, .ref m6, .ref m7, .ref m8, .int (nI rn), .ref m9, .int (nI tn), .int (nI ia), .int (nI wl), .ref m10, .ref m11, .ref m12, .int (nI si), .ref m13, .ref m14])), (m2, .inl (eI g, 49, .inl (fun j => nI (S j)))), (m4, .inl (eI g, 41, .inl O9_3)), (m5, .inl (eI g, 9, .inl (fun j => nI (Y9_3 j)))), (m6, .inl (eI g, 9, .inl (fun j => nI (Z9_3 j)))), (m7, .inl (eI g, 49, .inl (fun j => nI ((cutN S (prt (tlS S) (lpB S) (bv (tlS S) (lpB S)) k) 40) j))))] := hD
      refine lv_iload_n hx hb dX5_faultsBehind_44 rfl (lv_at hl 2 rfl) ?_
      refine lv_aload_n hx hb dX5_faultsBehind_45 rfl (lv_at hl 0 rfl) ?_
      refine lv_aload_n hx hb dX5_faultsBehind_46 rfl (lv_at hl 0 rfl) ?_
      refine xget F hP inX5_faultsBehind_X5 0 rfl rfl 7 (by decide) lkX5_faultsBehind_2 rfl dX5_faultsBehind_47 ?_
      refine lv_aload_n hx hb dX5_faultsBehind_50 rfl (lv_at hl 0 rfl) ?_
      refine lv_aload_n hx hb dX5_faultsBehind_51 rfl (lv_at hl 0 rfl) ?_
      refine xget F hP inX5_faultsBehind_X5 0 rfl rfl 7 (by decide) lkX5_faultsBehind_2 rfl dX5_faultsBehind_52 ?_
      refine cVI (As := [.ref m7]) (rest := [.ref m7, .ref m0, .int (nI a)]) F (mc_X5_giveBy l g m0 m1 m2 m3 m4 m5 m6 m7 m8 m9 m10 m11 m12 m13 m14 kp rn tn ia wl si S (cutN S (prt (tlS S) (lpB S) (bv (tlS S) (lpB S)) k) 40) (hO) (cutN_le hO.1)) kX5_giveBy rfl gX5_faultsBehind_X5_giveBy rfl rfl ⟨Nat.le_of_ble_eq_true rfl, Nat.le_of_ble_eq_true rfl⟩ hP hD hS [0, 1, 5] [2, 3, 4] rfl rfl 0 rfl rfl hl.1 rfl rfl (Nat.le_of_ble_eq_true rfl) dX5_faultsBehind_55 ⟨Nat.le_of_ble_eq_true rfl, Nat.le_of_ble_eq_true rfl⟩ (fun rz w1 H locs hpo hP hD hS => ?_)
      obtain ⟨rfl, rfl⟩ := hpo
      obtain ⟨hP, hD⟩ := nx (ws' := [(m0, .inr (5, [.ref m1, .ref m2, .ref m3, .int (nI kp), .ref m4, .ref m5, .ref m6, .ref m7, .ref m8, .int (nI rn), .ref m9, .int (nI tn), .int (nI ia), .int (nI wl), .ref m10, .ref m11, .ref m12, .int (nI si), .ref m13, .ref m14])), (m2, .inl (eI g, 49, .inl (fun j => nI (S j)))), (m4, .inl (eI g, 41, .inl O9_3)), (m5, .inl (eI g, 9, .inl (fun j => nI (Y9_3 j)))), (m6, .inl (eI g, 9, .inl (fun j => nI (Z9_3 j)))), (m7, .inl (eI g, 49, .inl (fun j => nI ((cutN S (prt (tlS S) (lpB S) (bv (tlS S) (lpB S)) k) 40) j))))]) hP hD [3, 4, 0, 1, 2, 5] (ndB_ok _ rfl) rfl
      refine cVI (As := [.ref m7, .int (nI (giS (cutN S (prt (tlS S) (lpB S) (bv (tlS S) (lpB S)) k) 40) (lpB (cutN S (prt (tlS S) (lpB S) (bv (tlS S) (lpB S)) k) 40)) (S 45)))]) (rest := [.int (nI a)]) F (mc_X5_faultsAt l g m0 m1 m2 m3 m4 m5 m6 m7 m8 m9 m10 m11 m12 m13 m14 kp rn tn ia wl si S (cutN S (prt (tlS S) (lpB S) (bv (tlS S) (lpB S)) k) 40) (giS (cutN S (prt (tlS S) (lpB S) (bv (tlS S) (lpB S)) k) 40) (lpB (cutN S (prt (tlS S) (lpB S) (bv (tlS S) (lpB S)) k) 40)) (S 45)) (hO) (cutN_le hO.1) ((giS_in _ _ _).2)) kX5_faultsAt rfl gX5_faultsBehind_X5_faultsAt rfl rfl ⟨Nat.le_of_ble_eq_true rfl, Nat.le_of_ble_eq_true rfl⟩ hP hD hS [0, 1, 5] [2, 3, 4] rfl rfl 0 rfl rfl hl.1 rfl rfl (Nat.le_of_ble_eq_true rfl) dX5_faultsBehind_58 ⟨Nat.le_of_ble_eq_true rfl, Nat.le_of_ble_eq_true rfl⟩ (fun rz w1 H locs hpo hP hD hS => ?_)
      obtain ⟨rfl, rfl⟩ := hpo
      obtain ⟨hP, hD⟩ := nx (ws' := [(m0, .inr (5, [.ref m1, .ref m2, .ref m3, .int (nI kp), .ref m4, .ref m5, .ref m6, .ref m7, .ref m8, .int (nI rn), .ref m9, .int (nI tn), .int (nI ia), .int (nI wl), .ref m10, .ref m11, .ref m12, .int (nI si), .ref m13, .ref m14])), (m2, .inl (eI g, 49, .inl (fun j => nI (S j)))), (m4, .inl (eI g, 41, .inl O9_3)), (m5, .inl (eI g, 9, .inl (fun j => nI (Y9_3 j)))), (m6, .inl (eI g, 9, .inl (fun j => nI (Z9_3 j)))), (m7, .inl (eI g, 49, .inl (fun j => nI ((cutN S (prt (tlS S) (lpB S) (bv (tlS S) (lpB S)) k) 40) j))))]) hP hD [3, 4, 0, 1, 2, 5] (ndB_ok _ rfl) rfl
      refine sti (congrArg nI (show faS (cutN S (prt (tlS S) (lpB S) (bv (tlS S) (lpB S)) k) 40) (lpB (cutN S (prt (tlS S) (lpB S) (bv (tlS S) (lpB S)) k) 40)) (giS (cutN S (prt (tlS S) (lpB S) (bv (tlS S) (lpB S)) k) 40) (lpB (cutN S (prt (tlS S) (lpB S) (bv (tlS S) (lpB S)) k) 40)) (S 45)) * S 45 = faS S (prt (tlS S) (lpB S) (bv (tlS S) (lpB S)) k) (giS S (prt (tlS S) (lpB S) (bv (tlS S) (lpB S)) k) (S 45)) * S 45 from by rw [faS_cut prt_sub, giS_cut prt_sub])) ?_
      refine xadd hx hb dX5_faultsBehind_61 ?_
      refine lv_istore_n (lv' := [(2, .int (nI (a + (faS S (prt (tlS S) (lpB S) (bv (tlS S) (lpB S)) k) (giS S (prt (tlS S) (lpB S) (bv (tlS S) (lpB S)) k) (S 45)) * S 45)))), (0, .ref m0), (1, .int (nI (bv (tlS S) (lpB S)))), (3, .int (nI k))]) hx hb dX5_faultsBehind_62 rfl hl (by decide) rfl (fun ls hl => ?_)
      refine lv_iinc (v := (nI (k + 1))) (lv' := [(3, .int (nI (k + 1))), (2, .int (nI (a + (faS S (prt (tlS S) (lpB S) (bv (tlS S) (lpB S)) k) (giS S (prt (tlS S) (lpB S) (bv (tlS S) (lpB S)) k) (S 45)) * S 45)))), (0, .ref m0), (1, .int (nI (bv (tlS S) (lpB S))))]) hx hb dX5_faultsBehind_63 hl (k := 3) rfl (iincP k 1) (by decide) rfl (fun ls hl => ?_)
      refine lv_goto (tgt := 14) hx hb dX5_faultsBehind_66 (by decide) ?_
      exact ih14 (k + 1, a + (faS S (prt (tlS S) (lpB S) (bv (tlS S) (lpB S)) k) (giS S (prt (tlS S) (lpB S) (bv (tlS S) (lpB S)) k) (S 45)) * S 45), O9_3, Y9_3, Z9_3, (cutN S (prt (tlS S) (lpB S) (bv (tlS S) (lpB S)) k) 40)) (show (a + (faS S (prt (tlS S) (lpB S) (bv (tlS S) (lpB S)) k) (giS S (prt (tlS S) (lpB S) (bv (tlS S) (lpB S)) k) (S 45)) * S 45)) = sz (fun z_ => faS S (prt (tlS S) (lpB S) (bv (tlS S) (lpB S)) z_) (giS S (prt (tlS S) (lpB S) (bv (tlS S) (lpB S)) z_) (S 45)) * S 45) (k + 1) ∧ (k + 1) ≤ 9 from (⟨by rw [ha]; exact fb_step.symm, by omega⟩)) (show 9 - (k + 1) < 9 - k from (by omega)) _ _ _ hP hD hS (lv_sub hl [2, 3, 1, 0] rfl)

theorem inX5_enoughFor_X5 : ∀ w ∈ u_ws RX5 TX5 20, w ∈ wsX5_enoughFor := fun _ h => (List.mem_cons_of_mem _ (List.mem_append_right _ h))
theorem lkX5_enoughFor_1 : Cond.fieldLink RX5 19 "StripInFiveStepsModel" "now" "[I" ∈ wsX5_enoughFor := List.mem_of_getElem? (i := 1) rfl
theorem lkX5_enoughFor_2 : Cond.fieldLink RX5 34 "StripInFiveStepsModel" "mind" "[I" ∈ wsX5_enoughFor := List.mem_of_getElem? (i := 2) rfl
theorem kX5_enoughFor : Cal yX5_enoughFor wsX5_enoughFor cX5_enoughFor 4 (some .int) 1 := ⟨⟨_, rfl⟩, by decide +kernel⟩
set_option maxHeartbeats 4000000 in
set_option maxRecDepth 100000 in
theorem c_X5_enoughFor (l : Launch) (g : EE) (m0 : Nat) (m1 : Nat) (m2 : Nat) (m3 : Nat) (m4 : Nat) (m5 : Nat) (m6 : Nat) (m7 : Nat) (m8 : Nat) (m9 : Nat) (m10 : Nat) (m11 : Nat) (m12 : Nat) (m13 : Nat) (m14 : Nat) (kp : Nat) (rn : Nat) (tn : Nat) (ia : Nat) (wl : Nat) (si : Nat) (S : Nat → Nat) (O : Nat → Int32) (Y : Nat → Nat) (Z : Nat → Nat) (M : Nat → Nat) (r : Nat) (hO : okS S) (hr1 : 1 ≤ r) (hr : r ≤ 40) (hpr : lpB S r = true) : CI l yX5_enoughFor wsX5_enoughFor ({ frames := 8, cells := 0, slots := 0, locals := 186 }) g [.ref m0, .int (nI r)] [(m0, .inr (5, [.ref m1, .ref m2, .ref m3, .int (nI kp), .ref m4, .ref m5, .ref m6, .ref m7, .ref m8, .int (nI rn), .ref m9, .int (nI tn), .int (nI ia), .int (nI wl), .ref m10, .ref m11, .ref m12, .int (nI si), .ref m13, .ref m14])), (m2, .inl (eI g, 49, .inl (fun j => nI (S j)))), (m4, .inl (eI g, 41, .inl O)), (m5, .inl (eI g, 9, .inl (fun j => nI (Y j)))), (m6, .inl (eI g, 9, .inl (fun j => nI (Z j)))), (m7, .inl (eI g, 49, .inl (fun j => nI (M j))))] (fun (rz : Int32) (wz : va_W) => ∃ O9 : Nat → Int32, ∃ Y9 : Nat → Nat, ∃ Z9 : Nat → Nat, ∃ M9 : Nat → Nat, rz = (enS (tlS S) 12 (lpB S) 0 r) ∧ wz = [(m0, .inr (5, [.ref m1, .ref m2, .ref m3, .int (nI kp), .ref m4, .ref m5, .ref m6, .ref m7, .ref m8, .int (nI rn), .ref m9, .int (nI tn), .int (nI ia), .int (nI wl), .ref m10, .ref m11, .ref m12, .int (nI si), .ref m13, .ref m14])), (m2, .inl (eI g, 49, .inl (fun j => nI (S j)))), (m4, .inl (eI g, 41, .inl O9)), (m5, .inl (eI g, 9, .inl (fun j => nI (Y9 j)))), (m6, .inl (eI g, 9, .inl (fun j => nI (Z9 j)))), (m7, .inl (eI g, 49, .inl (fun j => nI (M9 j))))]) 0 0 := by
  refine ctI (cc := cX5_enoughFor) (maxL := 4) (ret := (some .int)) (by decide) rfl (Nat.le_of_ble_eq_true rfl) ?_
  intro p_ e_ s_ m_ bl_ mt_ cd_ A ls F hnm hP hD hS hl
  obtain ⟨hx, hb, hml, hown, hts, hK, hX, hA, hrt_, hlocks⟩ := id F
  have hl : lv_has ls 4 [(0, .ref m0), (1, .int (nI r))] := hl
  have ht9 := tlS_9 hO
  refine lv_aload_n hx hb dX5_enoughFor_0 rfl (lv_at hl 0 rfl) ?_
  refine xget F hP inX5_enoughFor_X5 0 rfl rfl 1 (by decide) lkX5_enoughFor_1 rfl dX5_enoughFor_1 ?_
  refine lv_aload_n hx hb dX5_enoughFor_4 rfl (lv_at hl 0 rfl) ?_
  refine xget F hP inX5_enoughFor_X5 0 rfl rfl 7 (by decide) lkX5_enoughFor_2 rfl dX5_enoughFor_5 ?_
  refine cSV (As := [.ref m2, .ref m7]) (rest := []) F (c_X5_move l g m2 m7 S M ) kX5_move gX5_enoughFor_X5_move rfl rfl ⟨Nat.le_of_ble_eq_true rfl, Nat.le_of_ble_eq_true rfl⟩ hP hD hS [1, 5] [0, 2, 3, 4] rfl rfl hl.1 rfl rfl (Nat.le_of_ble_eq_true rfl) dX5_enoughFor_8 ⟨Nat.le_of_ble_eq_true rfl, Nat.le_of_ble_eq_true rfl⟩ (fun w1 H locs hpo hP hD hS => ?_)
  subst hpo
  obtain ⟨hP, hD⟩ := nx (ws' := [(m0, .inr (5, [.ref m1, .ref m2, .ref m3, .int (nI kp), .ref m4, .ref m5, .ref m6, .ref m7, .ref m8, .int (nI rn), .ref m9, .int (nI tn), .int (nI ia), .int (nI wl), .ref m10, .ref m11, .ref m12, .int (nI si), .ref m13, .ref m14])), (m2, .inl (eI g, 49, .inl (fun j => nI (S j)))), (m4, .inl (eI g, 41, .inl O)), (m5, .inl (eI g, 9, .inl (fun j => nI (Y j)))), (m6, .inl (eI g, 9, .inl (fun j => nI (Z j)))), (m7, .inl (eI g, 49, .inl (fun j => nI (S j))))]) hP hD [0, 4, 1, 2, 3, 5] (ndB_ok _ rfl) rfl
  refine lv_iconst (v := (nI 0)) hx hb dX5_enoughFor_11 (by decide) ?_
  refine lv_istore_n (lv' := [(2, .int (nI 0)), (0, .ref m0), (1, .int (nI r))]) hx hb dX5_enoughFor_12 rfl hl (by decide) rfl (fun ls hl => ?_)
  refine xlo (σ := Nat × (Nat → Int32) × (Nat → Nat) × (Nat → Nat) × (Nat → Nat)) 4 (fun xz_ => (fun (n : Nat) (o : Nat → Int32) (y2 : Nat → Nat) (z2 : Nat → Nat) (m_ : Nat → Nat) => [(0, .ref m0), (1, .int (nI r)), (2, .int (nI n))]) xz_.1 xz_.2.1 xz_.2.2.1 xz_.2.2.2.1 xz_.2.2.2.2) (fun xz_ => (fun (n : Nat) (o : Nat → Int32) (y2 : Nat → Nat) (z2 : Nat → Nat) (m_ : Nat → Nat) => [(m0, .inr (5, [.ref m1, .ref m2, .ref m3, .int (nI kp), .ref m4, .ref m5, .ref m6, .ref m7, .ref m8, .int (nI rn), .ref m9, .int (nI tn), .int (nI ia), .int (nI wl), .ref m10, .ref m11, .ref m12, .int (nI si), .ref m13, .ref m14])), (m2, .inl (eI g, 49, .inl (fun j => nI (S j)))), (m4, .inl (eI g, 41, .inl o)), (m5, .inl (eI g, 9, .inl (fun j => nI (y2 j)))), (m6, .inl (eI g, 9, .inl (fun j => nI (z2 j)))), (m7, .inl (eI g, 49, .inl (fun j => nI (m_ j))))]) xz_.1 xz_.2.1 xz_.2.2.1 xz_.2.2.2.1 xz_.2.2.2.2) (fun xz_ => (fun (n : Nat) (o : Nat → Int32) (y2 : Nat → Nat) (z2 : Nat → Nat) (m_ : Nat → Nat) => (∀ j, j ≤ 40 → m_ j ≤ 9) ∧ lpB m_ r = true ∧ n ≤ 12 ∧ enS (tlS S) 12 (lpB S) 0 r = enS (tlS S) (12 - n) (lpB m_) n r) xz_.1 xz_.2.1 xz_.2.2.1 xz_.2.2.2.1 xz_.2.2.2.2) (fun xz_ => (fun (n : Nat) (o : Nat → Int32) (y2 : Nat → Nat) (z2 : Nat → Nat) (m_ : Nat → Nat) => 12 - n) xz_.1 xz_.2.1 xz_.2.2.1 xz_.2.2.2.1 xz_.2.2.2.2) (fun xz_ hI ih13 H locs ls hP hD hS hl => ?_) (0, O, Y, Z, S) (show (∀ j, j ≤ 40 → S j ≤ 9) ∧ lpB S r = true ∧ 0 ≤ 12 ∧ enS (tlS S) 12 (lpB S) 0 r = enS (tlS S) (12 - 0) (lpB S) 0 r from (⟨hO.1, hpr, by omega, rfl⟩)) hP hD hS (lv_sub hl [1, 2, 0] rfl)
  obtain ⟨n, o, y2, z2, m_⟩ := xz_
  have hP : va_P (eD g) vwCl [(m0, .inr (5, [.ref m1, .ref m2, .ref m3, .int (nI kp), .ref m4, .ref m5, .ref m6, .ref m7, .ref m8, .int (nI rn), .ref m9, .int (nI tn), .int (nI ia), .int (nI wl), .ref m10, .ref m11, .ref m12, .int (nI si), .ref m13, .ref m14])), (m2, .inl (eI g, 49, .inl (fun j => nI (S j)))), (m4, .inl (eI g, 41, .inl o)), (m5, .inl (eI g, 9, .inl (fun j => nI (y2 j)))), (m6, .inl (eI g, 9, .inl (fun j => nI (z2 j)))), (m7, .inl (eI g, 49, .inl (fun j => nI (m_ j))))] H := hP
  have hD : va_D A [(m0, .inr (5, [.ref m1, .ref m2, .ref m3, .int (nI kp), .ref m4, .ref m5, .ref m6, .ref m7, .ref m8, .int (nI rn), .ref m9, .int (nI tn), .int (nI ia), .int (nI wl), .ref m10, .ref m11, .ref m12, .int (nI si), .ref m13, .ref m14])), (m2, .inl (eI g, 49, .inl (fun j => nI (S j)))), (m4, .inl (eI g, 41, .inl o)), (m5, .inl (eI g, 9, .inl (fun j => nI (y2 j)))), (m6, .inl (eI g, 9, .inl (fun j => nI (z2 j)))), (m7, .inl (eI g, 49, .inl (fun j => nI (m_ j))))] := hD
  have hl : lv_has ls 4 [(0, .ref m0), (1, .int (nI r)), (2, .int (nI n))] := hl
  have hI13 : (∀ j, j ≤ 40 → m_ j ≤ 9) ∧ lpB m_ r = true ∧ n ≤ 12 ∧ enS (tlS S) 12 (lpB S) 0 r = enS (tlS S) (12 - n) (lpB m_) n r := hI
  clear hI
  obtain ⟨hm9, hlr, hn, hen⟩ := id hI13
  have hvin := bv_in (tlS S) (lpB m_)
  have hc1 := cnS_pos hr1 hr hlr
  refine lv_aload_n hx hb dX5_enoughFor_13 rfl (lv_at hl 0 rfl) ?_
  refine xget F hP inX5_enoughFor_X5 0 rfl rfl 7 (by decide) lkX5_enoughFor_2 rfl dX5_enoughFor_14 ?_
  refine cSI (As := [.ref m7]) (rest := []) F (c_X5_left l g m7 m_ (hm9)) kX5_left gX5_enoughFor_X5_left rfl rfl ⟨Nat.le_of_ble_eq_true rfl, Nat.le_of_ble_eq_true rfl⟩ hP hD hS [5] [0, 1, 2, 3, 4] rfl rfl hl.1 rfl rfl (Nat.le_of_ble_eq_true rfl) dX5_enoughFor_17 ⟨Nat.le_of_ble_eq_true rfl, Nat.le_of_ble_eq_true rfl⟩ (fun rz w1 H locs hpo hP hD hS => ?_)
  obtain ⟨rfl, rfl⟩ := hpo
  obtain ⟨hP, hD⟩ := nx (ws' := [(m0, .inr (5, [.ref m1, .ref m2, .ref m3, .int (nI kp), .ref m4, .ref m5, .ref m6, .ref m7, .ref m8, .int (nI rn), .ref m9, .int (nI tn), .int (nI ia), .int (nI wl), .ref m10, .ref m11, .ref m12, .int (nI si), .ref m13, .ref m14])), (m2, .inl (eI g, 49, .inl (fun j => nI (S j)))), (m4, .inl (eI g, 41, .inl o)), (m5, .inl (eI g, 9, .inl (fun j => nI (y2 j)))), (m6, .inl (eI g, 9, .inl (fun j => nI (z2 j)))), (m7, .inl (eI g, 49, .inl (fun j => nI (m_ j))))]) hP hD [0, 1, 2, 3, 4, 5] (ndB_ok _ rfl) rfl
  have hcb := cnS_le (lpB m_)
  refine lv_iconst (v := (nI 1)) hx hb dX5_enoughFor_20 (by decide) ?_
  refine xle (tgt := 78) hx hb dX5_enoughFor_21 (by decide) (by omega) (by omega) (fun c21 => ?_) (fun c21 => ?_)
  · skip
    refine lv_iload_n hx hb dX5_enoughFor_78 rfl (lv_at hl 2 rfl) ?_
    exact rtI F hP hD hS dX5_enoughFor_79 (⟨_, _, _, _, by rw [hen, enS_z _ (by omega), if_pos (by omega)], rfl⟩)
  · skip
    refine lv_aload_n hx hb dX5_enoughFor_24 rfl (lv_at hl 0 rfl) ?_
    refine lv_aload_n hx hb dX5_enoughFor_25 rfl (lv_at hl 0 rfl) ?_
    refine xget F hP inX5_enoughFor_X5 0 rfl rfl 7 (by decide) lkX5_enoughFor_2 rfl dX5_enoughFor_26 ?_
    refine lv_iconst (v := (nI 0)) hx hb dX5_enoughFor_29 (by decide) ?_
    refine cVI (As := [.ref m7, .int (nI 0)]) (rest := []) F (mc_X5_bestBy l g m0 m1 m2 m3 m4 m5 m6 m7 m8 m9 m10 m11 m12 m13 m14 kp rn tn ia wl si S o y2 z2 m_ 0 (hO) (hm9) (by omega)) kX5_bestBy rfl gX5_enoughFor_X5_bestBy rfl rfl ⟨Nat.le_of_ble_eq_true rfl, Nat.le_of_ble_eq_true rfl⟩ hP hD hS [0, 1, 2, 3, 4, 5] [] rfl rfl 0 rfl rfl hl.1 rfl rfl (Nat.le_of_ble_eq_true rfl) dX5_enoughFor_30 ⟨Nat.le_of_ble_eq_true rfl, Nat.le_of_ble_eq_true rfl⟩ (fun rz w1 H locs hpo hP hD hS => ?_)
    obtain ⟨O9_3, Y9_3, Z9_3, rfl, rfl⟩ := hpo
    obtain ⟨hP, hD⟩ := nx (ws' := [(m0, .inr (5, [.ref m1, .ref m2, .ref m3, .int (nI kp), .ref m4, .ref m5, .ref m6, .ref m7, .ref m8, .int (nI rn), .ref m9, .int (nI tn), .int (nI ia), .int (nI wl), .ref m10, .ref m11, .ref m12, .int (nI si), .ref m13, .ref m14])), (m2, .inl (eI g, 49, .inl (fun j => nI (S j)))), (m4, .inl (eI g, 41, .inl O9_3)), (m5, .inl (eI g, 9, .inl (fun j => nI (Y9_3 j)))), (m6, .inl (eI g, 9, .inl (fun j => nI (Z9_3 j)))), (m7, .inl (eI g, 49, .inl (fun j => nI (m_ j))))]) hP hD [0, 1, 2, 3, 4, 5] (ndB_ok _ rfl) rfl
    refine sti (congrArg nI (show bsI (tlS S) m_ (lpB m_) 0 = bv (tlS S) (lpB m_) from bsI_0 _ _ _)) ?_
    refine lv_istore_n (lv' := [(3, .int (nI (bv (tlS S) (lpB m_)))), (0, .ref m0), (1, .int (nI r)), (2, .int (nI n))]) hx hb dX5_enoughFor_33 rfl hl (by decide) rfl (fun ls hl => ?_)
    refine lv_iload_n hx hb dX5_enoughFor_34 rfl (lv_at hl 3 rfl) ?_
    refine lv_bipush (v := (nI 12)) hx hb dX5_enoughFor_35 (by decide) ?_
    refine xeq (tgt := 53) hx hb dX5_enoughFor_37 (by decide) (by omega) (by omega) (fun c37 => ?_) (fun c37 => ?_)
    · skip
      refine lv_bipush (v := (-9)) hx hb dX5_enoughFor_53 (by decide) ?_
      exact rtI F hP hD hS dX5_enoughFor_55 (⟨_, _, _, _, by rw [hen, c37]; exact (enS_z 0 (Or.inr rfl)).trans (if_neg (by omega)) |>.symm, rfl⟩)
    · skip
      refine lv_aload_n hx hb dX5_enoughFor_40 rfl (lv_at hl 1 rfl) ?_
      refine lv_aload_n hx hb dX5_enoughFor_41 rfl (lv_at hl 1 rfl) ?_
      refine xget F hP inX5_enoughFor_X5 0 rfl rfl 7 (by decide) lkX5_enoughFor_2 rfl dX5_enoughFor_42 ?_
      refine lv_iload_n hx hb dX5_enoughFor_45 rfl (lv_at hl 0 rfl) ?_
      refine cVI (As := [.ref m7, .int (nI (bv (tlS S) (lpB m_)))]) (rest := []) F (mc_X5_partsOf l g m0 m1 m2 m3 m4 m5 m6 m7 m8 m9 m10 m11 m12 m13 m14 kp rn tn ia wl si S O9_3 Y9_3 Z9_3 m_ (bv (tlS S) (lpB m_)) (hO) (hm9) (hvin.2)) kX5_partsOf rfl gX5_enoughFor_X5_partsOf rfl rfl ⟨Nat.le_of_ble_eq_true rfl, Nat.le_of_ble_eq_true rfl⟩ hP hD hS [0, 1, 2, 3, 4, 5] [] rfl rfl 0 rfl rfl hl.1 rfl rfl (Nat.le_of_ble_eq_true rfl) dX5_enoughFor_46 ⟨Nat.le_of_ble_eq_true rfl, Nat.le_of_ble_eq_true rfl⟩ (fun rz w1 H locs hpo hP hD hS => ?_)
      obtain ⟨O9_4, Y9_4, Z9_4, rfl, rfl⟩ := hpo
      obtain ⟨hP, hD⟩ := nx (ws' := [(m0, .inr (5, [.ref m1, .ref m2, .ref m3, .int (nI kp), .ref m4, .ref m5, .ref m6, .ref m7, .ref m8, .int (nI rn), .ref m9, .int (nI tn), .int (nI ia), .int (nI wl), .ref m10, .ref m11, .ref m12, .int (nI si), .ref m13, .ref m14])), (m2, .inl (eI g, 49, .inl (fun j => nI (S j)))), (m4, .inl (eI g, 41, .inl O9_4)), (m5, .inl (eI g, 9, .inl (fun j => nI (Y9_4 j)))), (m6, .inl (eI g, 9, .inl (fun j => nI (Z9_4 j)))), (m7, .inl (eI g, 49, .inl (fun j => nI (m_ j))))]) hP hD [0, 1, 2, 3, 4, 5] (ndB_ok _ rfl) rfl
      have hpb := paS_b (tlS S) (lpB m_) (bv (tlS S) (lpB m_))
      refine lv_iconst (v := (nI 1)) hx hb dX5_enoughFor_49 (by decide) ?_
      refine xne (tgt := 56) hx hb dX5_enoughFor_50 (by decide) (by omega) (by omega) (fun c50 => ?_) (fun c50 => ?_)
      · skip
        refine lv_aload_n hx hb dX5_enoughFor_56 rfl (lv_at hl 1 rfl) ?_
        refine lv_aload_n hx hb dX5_enoughFor_57 rfl (lv_at hl 1 rfl) ?_
        refine xget F hP inX5_enoughFor_X5 0 rfl rfl 7 (by decide) lkX5_enoughFor_2 rfl dX5_enoughFor_58 ?_
        refine lv_iload_n hx hb dX5_enoughFor_61 rfl (lv_at hl 0 rfl) ?_
        refine lv_aload_n hx hb dX5_enoughFor_62 rfl (lv_at hl 1 rfl) ?_
        refine lv_iload_n hx hb dX5_enoughFor_63 rfl (lv_at hl 0 rfl) ?_
        refine lv_iload_n hx hb dX5_enoughFor_64 rfl (lv_at hl 2 rfl) ?_
        refine cVI (As := [.int (nI (bv (tlS S) (lpB m_))), .int (nI r)]) (rest := [.int (nI (bv (tlS S) (lpB m_))), .ref m7, .ref m0]) F (c_X5_tells l g m0 m1 m2 m3 m4 m5 m6 m7 m8 m9 m10 m11 m12 m13 m14 kp rn tn ia wl si S (bv (tlS S) (lpB m_)) r (hO) (hvin.2) (hr)) kX5_tells rfl gX5_enoughFor_X5_tells rfl rfl ⟨Nat.le_of_ble_eq_true rfl, Nat.le_of_ble_eq_true rfl⟩ hP hD hS [0, 1] [2, 3, 4, 5] rfl rfl 0 rfl rfl hl.1 rfl rfl (Nat.le_of_ble_eq_true rfl) dX5_enoughFor_65 ⟨Nat.le_of_ble_eq_true rfl, Nat.le_of_ble_eq_true rfl⟩ (fun rz w1 H locs hpo hP hD hS => ?_)
        obtain ⟨rfl, rfl⟩ := hpo
        obtain ⟨hP, hD⟩ := nx (ws' := [(m0, .inr (5, [.ref m1, .ref m2, .ref m3, .int (nI kp), .ref m4, .ref m5, .ref m6, .ref m7, .ref m8, .int (nI rn), .ref m9, .int (nI tn), .int (nI ia), .int (nI wl), .ref m10, .ref m11, .ref m12, .int (nI si), .ref m13, .ref m14])), (m2, .inl (eI g, 49, .inl (fun j => nI (S j)))), (m4, .inl (eI g, 41, .inl O9_4)), (m5, .inl (eI g, 9, .inl (fun j => nI (Y9_4 j)))), (m6, .inl (eI g, 9, .inl (fun j => nI (Z9_4 j)))), (m7, .inl (eI g, 49, .inl (fun j => nI (m_ j))))]) hP hD [4, 5, 0, 1, 2, 3] (ndB_ok _ rfl) rfl
        refine cVI (As := [.ref m7, .int (nI (bv (tlS S) (lpB m_))), .int (nI (tlS S (bv (tlS S) (lpB m_)) r))]) (rest := []) F (mc_X5_tries l g m0 m1 m2 m3 m4 m5 m6 m7 m8 m9 m10 m11 m12 m13 m14 kp rn tn ia wl si S O9_4 Y9_4 Z9_4 m_ (bv (tlS S) (lpB m_)) (tlS S (bv (tlS S) (lpB m_)) r) (hO) (hm9) (hvin.2) (ht9 _ _)) kX5_tries rfl gX5_enoughFor_X5_tries rfl rfl ⟨Nat.le_of_ble_eq_true rfl, Nat.le_of_ble_eq_true rfl⟩ hP hD hS [0, 1, 2, 3, 4, 5] [] rfl rfl 0 rfl rfl hl.1 rfl rfl (Nat.le_of_ble_eq_true rfl) dX5_enoughFor_68 ⟨Nat.le_of_ble_eq_true rfl, Nat.le_of_ble_eq_true rfl⟩ (fun rz w1 H locs hpo hP hD hS => ?_)
        obtain ⟨O9_6, Y9_6, Z9_6, rfl, rfl⟩ := hpo
        obtain ⟨hP, hD⟩ := nx (ws' := [(m0, .inr (5, [.ref m1, .ref m2, .ref m3, .int (nI kp), .ref m4, .ref m5, .ref m6, .ref m7, .ref m8, .int (nI rn), .ref m9, .int (nI tn), .int (nI ia), .int (nI wl), .ref m10, .ref m11, .ref m12, .int (nI si), .ref m13, .ref m14])), (m2, .inl (eI g, 49, .inl (fun j => nI (S j)))), (m4, .inl (eI g, 41, .inl O9_6)), (m5, .inl (eI g, 9, .inl (fun j => nI (Y9_6 j)))), (m6, .inl (eI g, 9, .inl (fun j => nI (Z9_6 j)))), (m7, .inl (eI g, 49, .inl (fun j => nI ((if cnS (prt (tlS S) (lpB m_) (bv (tlS S) (lpB m_)) (tlS S (bv (tlS S) (lpB m_)) r)) ≠ 0 then cutN m_ (prt (tlS S) (lpB m_) (bv (tlS S) (lpB m_)) (tlS S (bv (tlS S) (lpB m_)) r)) 40 else m_) j))))]) hP hD [0, 1, 2, 3, 4, 5] (ndB_ok _ rfl) rfl
        refine lv_pop hx hb dX5_enoughFor_71 rfl ?_
        rw [if_pos (ef_ne hr1 hr hlr)] at hP hD
        have hP : va_P (eD g) vwCl [(m0, .inr (5, [.ref m1, .ref m2, .ref m3, .int (nI kp), .ref m4, .ref m5, .ref m6, .ref m7, .ref m8, .int (nI rn), .ref m9, .int (nI tn), .int (nI ia), .int (nI wl), .ref m10, .ref m11, .ref m12, .int (nI si), .ref m13, .ref m14])), (m2, .inl (eI g, 49, .inl (fun j => nI (S j)))), (m4, .inl (eI g, 41, .inl O9_6)), (m5, .inl (eI g, 9, .inl (fun j => nI (Y9_6 j)))), (m6, .inl (eI g, 9, .inl (fun j => nI (Z9_6 j)))), (m7, .inl (eI g, 49, .inl (fun j => nI ((cutN m_ (prt (tlS S) (lpB m_) (bv (tlS S) (lpB m_)) (tlS S (bv (tlS S) (lpB m_)) r)) 40) j))))] H := hP
        have hD : va_D A [(m0, .inr (5, [.ref m1, .ref m2, .ref m3, .int (nI kp), .ref m4, .ref m5, .ref m6, .ref m7, .ref m8, .int (nI rn), .ref m9, .int (nI tn), .int (nI ia), .int (nI wl), .ref m10, .ref m11, .ref m12, .int (nI si), .ref m13, .ref m14])), (m2, .inl (eI g, 49, .inl (fun j => nI (S j)))), (m4, .inl (eI g, 41, .inl O9_6)), (m5, .inl (eI g, 9, .inl (fun j => nI (Y9_6 j)))), (m6, .inl (eI g, 9, .inl (fun j => nI (Z9_6 j)))), (m7, .inl (eI g, 49, .inl (fun j => nI ((cutN m_ (prt (tlS S) (lpB m_) (bv (tlS S) (lpB m_)) (tlS S (bv (tlS S) (lpB m_)) r)) 40) j))))] := hD
        refine lv_iinc (v := (nI (n + 1))) (lv' := [(2, .int (nI (n + 1))), (3, .int (nI (bv (tlS S) (lpB m_)))), (0, .ref m0), (1, .int (nI r))]) hx hb dX5_enoughFor_72 hl (k := 3) rfl (iincP n 1) (by decide) rfl (fun ls hl => ?_)
        refine lv_goto (tgt := 13) hx hb dX5_enoughFor_75 (by decide) ?_
        exact ih13 (n + 1, O9_6, Y9_6, Z9_6, (cutN m_ (prt (tlS S) (lpB m_) (bv (tlS S) (lpB m_)) (tlS S (bv (tlS S) (lpB m_)) r)) 40)) (show (∀ j, j ≤ 40 → (cutN m_ (prt (tlS S) (lpB m_) (bv (tlS S) (lpB m_)) (tlS S (bv (tlS S) (lpB m_)) r)) 40) j ≤ 9) ∧ lpB (cutN m_ (prt (tlS S) (lpB m_) (bv (tlS S) (lpB m_)) (tlS S (bv (tlS S) (lpB m_)) r)) 40) r = true ∧ (n + 1) ≤ 12 ∧ enS (tlS S) 12 (lpB S) 0 r = enS (tlS S) (12 - (n + 1)) (lpB (cutN m_ (prt (tlS S) (lpB m_) (bv (tlS S) (lpB m_)) (tlS S (bv (tlS S) (lpB m_)) r)) 40)) (n + 1) r from (⟨cutN_le hm9, by rw [lpB_prt]; exact ef_in hlr, by omega, by rw [lpB_prt, hen, show 12 - n = 12 - (n + 1) + 1 by omega]; exact enS_step (by omega) (fun z => c50 ((part_one ht9 (by omega)).mpr z))⟩)) (show 12 - (n + 1) < 12 - n from (by omega)) _ _ _ hP hD hS (lv_sub hl [2, 3, 0] rfl)
      · skip
        refine lv_bipush (v := (-9)) hx hb dX5_enoughFor_53 (by decide) ?_
        exact rtI F hP hD hS dX5_enoughFor_55 (⟨_, _, _, _, by rw [hen, show 12 - n = 12 - (n + 1) + 1 by omega]; exact (enS_stuck (by omega) ((part_one ht9 (by omega)).mp c50)).symm, rfl⟩)
