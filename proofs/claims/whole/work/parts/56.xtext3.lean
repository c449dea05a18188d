theorem inX5_takes_X5 : ∀ w ∈ u_ws RX5 TX5 20, w ∈ wsX5_takes := fun _ h => (List.mem_cons_of_mem _ (List.mem_append_right _ h))
theorem lkX5_takes_1 : Cond.fieldLink RX5 196 "StripInFiveStepsModel" "sort" "I" ∈ wsX5_takes := List.mem_of_getElem? (i := 1) rfl
theorem lkX5_takes_2 : Cond.fieldLink RX5 53 "StripInFiveStepsModel" "field" "[I" ∈ wsX5_takes := List.mem_of_getElem? (i := 2) rfl
theorem lkX5_takes_3 : Cond.fieldLink RX5 19 "StripInFiveStepsModel" "now" "[I" ∈ wsX5_takes := List.mem_of_getElem? (i := 3) rfl
theorem kX5_takes : Cal yX5_takes wsX5_takes cX5_takes 2 (some .boolean) 0 := ⟨⟨_, rfl⟩, by decide +kernel⟩
set_option maxHeartbeats 1000000 in
set_option maxRecDepth 100000 in
theorem c_X5_takes (l : Launch) (g : EE) (m0 : Nat) (m1 : Nat) (m2 : Nat) (m3 : Nat) (m4 : Nat) (m5 : Nat) (m6 : Nat) (m7 : Nat) (m8 : Nat) (m9 : Nat) (m10 : Nat) (m11 : Nat) (m12 : Nat) (m13 : Nat) (m14 : Nat) (kp : Nat) (rn : Nat) (tn_ : Nat) (ia : Nat) (wl : Nat) (si : Nat) (S : Nat → Nat) (O : Nat → Int32) (Y : Nat → Nat) (Z : Nat → Nat) (fd : Nat → Nat) (hO : okS S) (hFD : FDB si fd) : CI l yX5_takes wsX5_takes ({ frames := 6, cells := 0, slots := 0, locals := 137 }) g [.ref m0] [(m0, .inr (5, [.ref m1, .ref m2, .ref m3, .int (nI kp), .ref m4, .ref m5, .ref m6, .ref m7, .ref m8, .int (nI rn), .ref m9, .int (nI tn_), .int (nI ia), .int (nI wl), .ref m10, .ref m11, .ref m12, .int (nI si), .ref m13, .ref m14])), (m2, .inl (eI g, 49, .inl (fun j => nI (S j)))), (m4, .inl (eI g, 41, .inl O)), (m5, .inl (eI g, 9, .inl (fun j => nI (Y j)))), (m6, .inl (eI g, 9, .inl (fun j => nI (Z j)))), (m13, .inl (eI g, 3, .inl (fun j => nI (fd j))))] (fun (rz : Int32) (wz : va_W) => ∃ S9 : Nat → Nat, ∃ O9 : Nat → Int32, ∃ Y9 : Nat → Nat, ∃ Z9 : Nat → Nat, rz = (nI (if effB S si fd = true then 1 else 0)) ∧ wz = [(m0, .inr (5, [.ref m1, .ref m2, .ref m3, .int (nI kp), .ref m4, .ref m5, .ref m6, .ref m7, .ref m8, .int (nI rn), .ref m9, .int (nI tn_), .int (nI ia), .int (nI wl), .ref m10, .ref m11, .ref m12, .int (nI si), .ref m13, .ref m14])), (m2, .inl (eI g, 49, .inl (fun j => nI (S9 j)))), (m4, .inl (eI g, 41, .inl O9)), (m5, .inl (eI g, 9, .inl (fun j => nI (Y9 j)))), (m6, .inl (eI g, 9, .inl (fun j => nI (Z9 j)))), (m13, .inl (eI g, 3, .inl (fun j => nI (fd j))))] ∧ (effB S si fd = true → S9 = effS S si fd)) 0 0 := by
  refine ctI (cc := cX5_takes) (maxL := 2) (ret := (some .boolean)) (by decide) rfl (Nat.le_of_ble_eq_true rfl) ?_
  intro p_ e_ s_ m_ bl_ mt_ cd_ A ls F hnm hP hD hS hl
  obtain ⟨hx, hb, hml, hown, hts, hK, hX, hA, hrt_, hlocks⟩ := id F
  have hl : lv_has ls 2 [(0, .ref m0)] := hl
  obtain ⟨hw40, ⟨h41a, h41b⟩, ⟨h42a, h42b⟩, h43, h44, h45, h46, h47, h48⟩ := id hO
  obtain ⟨f5, ff0, ff1, ff2, ff3, ff4⟩ := id hFD
  refine lv_aload_n hx hb dX5_takes_0 rfl (lv_at hl 0 rfl) ?_
  refine xget F hP inX5_takes_X5 0 rfl rfl 17 (by decide) lkX5_takes_1 rfl dX5_takes_1 ?_
  rcases (show si = 0 ∨ si = 1 ∨ si = 2 ∨ si = 3 ∨ si = 4 ∨ 4 < si by omega) with c4 | c4 | c4 | c4 | c4 | c4
  · refine lv_tableIn (tgt := 40) hx hb dX5_takes_4 (by rw [c4]; decide) (by rw [c4]; decide) (by rw [c4]; rfl) (by decide) ?_
    have hri : si = 0 := by omega
    refine lv_aload_n hx hb dX5_takes_40 rfl (lv_at hl 0 rfl) ?_
    refine xget F hP inX5_takes_X5 0 rfl rfl 18 (by decide) lkX5_takes_2 rfl dX5_takes_41 ?_
    refine lv_iconst (v := (nI 0)) hx hb dX5_takes_44 (by decide) ?_
    refine xald F hP 5 (v := (nI (fd 0))) rfl (by omega) (by omega) rfl dX5_takes_45 ?_
    refine cSI (As := [.int (nI (fd 0))]) (rest := []) F (n_X5_isNoSecond l g (fd 0) (by omega)) kX5_isNoSecond gX5_takes_X5_isNoSecond rfl rfl ⟨Nat.le_of_ble_eq_true rfl, Nat.le_of_ble_eq_true rfl⟩ hP hD hS [] [0, 1, 2, 3, 4, 5] rfl rfl hl.1 rfl rfl (Nat.le_of_ble_eq_true rfl) dX5_takes_46 ⟨Nat.le_of_ble_eq_true rfl, Nat.le_of_ble_eq_true rfl⟩ (fun rz w1 H locs hpo hP hD hS => ?_)
    obtain ⟨rfl, rfl⟩ := hpo
    obtain ⟨hP, hD⟩ := nx (ws' := [(m0, .inr (5, [.ref m1, .ref m2, .ref m3, .int (nI kp), .ref m4, .ref m5, .ref m6, .ref m7, .ref m8, .int (nI rn), .ref m9, .int (nI tn_), .int (nI ia), .int (nI wl), .ref m10, .ref m11, .ref m12, .int (nI si), .ref m13, .ref m14])), (m2, .inl (eI g, 49, .inl (fun j => nI (S j)))), (m4, .inl (eI g, 41, .inl O)), (m5, .inl (eI g, 9, .inl (fun j => nI (Y j)))), (m6, .inl (eI g, 9, .inl (fun j => nI (Z j)))), (m13, .inl (eI g, 3, .inl (fun j => nI (fd j))))]) hP hD [0, 1, 2, 3, 4, 5] (ndB_ok _ rfl) rfl
    refine bqne (tgt := 79) hx hb dX5_takes_49 (by decide) (fun c49 => ?_) (fun c49 => ?_)
    · skip
      refine lv_iconst (v := (nI 0)) hx hb dX5_takes_79 (by decide) ?_
      exact rtZ F hP hD hS dX5_takes_80 (rfl) (⟨_, _, _, _, congrArg nI (if_neg (by rw [hri]; unfold effB; rw [if_pos rfl]; exact fun q => by have := of_decide_eq_true q; omega)).symm, rfl, fun q => absurd q (by rw [hri]; unfold effB; rw [if_pos rfl]; exact fun q => by have := of_decide_eq_true q; omega)⟩)
    · skip
      refine lv_aload_n hx hb dX5_takes_52 rfl (lv_at hl 0 rfl) ?_
      refine xget F hP inX5_takes_X5 0 rfl rfl 18 (by decide) lkX5_takes_2 rfl dX5_takes_53 ?_
      refine lv_iconst (v := (nI 1)) hx hb dX5_takes_56 (by decide) ?_
      refine xald F hP 5 (v := (nI (fd 1))) rfl (by omega) (by omega) rfl dX5_takes_57 ?_
      refine cSI (As := [.int (nI (fd 1))]) (rest := []) F (n_X5_isNoSecond l g (fd 1) (by omega)) kX5_isNoSecond gX5_takes_X5_isNoSecond rfl rfl ⟨Nat.le_of_ble_eq_true rfl, Nat.le_of_ble_eq_true rfl⟩ hP hD hS [] [0, 1, 2, 3, 4, 5] rfl rfl hl.1 rfl rfl (Nat.le_of_ble_eq_true rfl) dX5_takes_58 ⟨Nat.le_of_ble_eq_true rfl, Nat.le_of_ble_eq_true rfl⟩ (fun rz w1 H locs hpo hP hD hS => ?_)
      obtain ⟨rfl, rfl⟩ := hpo
      obtain ⟨hP, hD⟩ := nx (ws' := [(m0, .inr (5, [.ref m1, .ref m2, .ref m3, .int (nI kp), .ref m4, .ref m5, .ref m6, .ref m7, .ref m8, .int (nI rn), .ref m9, .int (nI tn_), .int (nI ia), .int (nI wl), .ref m10, .ref m11, .ref m12, .int (nI si), .ref m13, .ref m14])), (m2, .inl (eI g, 49, .inl (fun j => nI (S j)))), (m4, .inl (eI g, 41, .inl O)), (m5, .inl (eI g, 9, .inl (fun j => nI (Y j)))), (m6, .inl (eI g, 9, .inl (fun j => nI (Z j)))), (m13, .inl (eI g, 3, .inl (fun j => nI (fd j))))]) hP hD [0, 1, 2, 3, 4, 5] (ndB_ok _ rfl) rfl
      refine bqne (tgt := 79) hx hb dX5_takes_61 (by decide) (fun c61 => ?_) (fun c61 => ?_)
      · skip
        refine lv_iconst (v := (nI 0)) hx hb dX5_takes_79 (by decide) ?_
        exact rtZ F hP hD hS dX5_takes_80 (rfl) (⟨_, _, _, _, congrArg nI (if_neg (by rw [hri]; unfold effB; rw [if_pos rfl]; exact fun q => by have := of_decide_eq_true q; omega)).symm, rfl, fun q => absurd q (by rw [hri]; unfold effB; rw [if_pos rfl]; exact fun q => by have := of_decide_eq_true q; omega)⟩)
      · skip
        refine lv_aload_n hx hb dX5_takes_64 rfl (lv_at hl 0 rfl) ?_
        refine xget F hP inX5_takes_X5 0 rfl rfl 18 (by decide) lkX5_takes_2 rfl dX5_takes_65 ?_
        refine lv_iconst (v := (nI 0)) hx hb dX5_takes_68 (by decide) ?_
        refine xald F hP 5 (v := (nI (fd 0))) rfl (by omega) (by omega) rfl dX5_takes_69 ?_
        refine lv_aload_n hx hb dX5_takes_70 rfl (lv_at hl 0 rfl) ?_
        refine xget F hP inX5_takes_X5 0 rfl rfl 18 (by decide) lkX5_takes_2 rfl dX5_takes_71 ?_
        refine lv_iconst (v := (nI 1)) hx hb dX5_takes_74 (by decide) ?_
        refine xald F hP 5 (v := (nI (fd 1))) rfl (by omega) (by omega) rfl dX5_takes_75 ?_
        refine xle (tgt := 81) hx hb dX5_takes_76 (by decide) (by omega) (by omega) (fun c76 => ?_) (fun c76 => ?_)
        · skip
          refine lv_aload_n hx hb dX5_takes_81 rfl (lv_at hl 0 rfl) ?_
          refine xget F hP inX5_takes_X5 0 rfl rfl 18 (by decide) lkX5_takes_2 rfl dX5_takes_82 ?_
          refine lv_iconst (v := (nI 0)) hx hb dX5_takes_85 (by decide) ?_
          refine xald F hP 5 (v := (nI (fd 0))) rfl (by omega) (by omega) rfl dX5_takes_86 ?_
          refine lv_istore_n (lv' := [(1, .int (nI (fd 0))), (0, .ref m0)]) hx hb dX5_takes_87 rfl hl (by decide) rfl (fun ls hl => ?_)
          refine xlo (σ := Nat × (Nat → Nat)) 2 (fun xz_ => (fun (r : Nat) (V : Nat → Nat) => [(0, .ref m0), (1, .int (nI r))]) xz_.1 xz_.2) (fun xz_ => (fun (r : Nat) (V : Nat → Nat) => [(m0, .inr (5, [.ref m1, .ref m2, .ref m3, .int (nI kp), .ref m4, .ref m5, .ref m6, .ref m7, .ref m8, .int (nI rn), .ref m9, .int (nI tn_), .int (nI ia), .int (nI wl), .ref m10, .ref m11, .ref m12, .int (nI si), .ref m13, .ref m14])), (m2, .inl (eI g, 49, .inl (fun j => nI (V j)))), (m4, .inl (eI g, 41, .inl O)), (m5, .inl (eI g, 9, .inl (fun j => nI (Y j)))), (m6, .inl (eI g, 9, .inl (fun j => nI (Z j)))), (m13, .inl (eI g, 3, .inl (fun j => nI (fd j))))]) xz_.1 xz_.2) (fun xz_ => (fun (r : Nat) (V : Nat → Nat) => V = fillE S (fd 0) r (fd 2) ∧ fd 0 ≤ r ∧ r ≤ fd 1 + 1) xz_.1 xz_.2) (fun xz_ => (fun (r : Nat) (V : Nat → Nat) => fd 1 + 1 - r) xz_.1 xz_.2) (fun xz_ hI ih88 H locs ls hP hD hS hl => ?_) (fd 0, S) (show S = fillE S (fd 0) (fd 0) (fd 2) ∧ fd 0 ≤ (fd 0) ∧ (fd 0) ≤ fd 1 + 1 from (⟨(fillE_0 _ _ _).symm, by omega, by omega⟩)) hP hD hS (lv_sub hl [1, 0] rfl)
          obtain ⟨r, V⟩ := xz_
          have hP : va_P (eD g) vwCl [(m0, .inr (5, [.ref m1, .ref m2, .ref m3, .int (nI kp), .ref m4, .ref m5, .ref m6, .ref m7, .ref m8, .int (nI rn), .ref m9, .int (nI tn_), .int (nI ia), .int (nI wl), .ref m10, .ref m11, .ref m12, .int (nI si), .ref m13, .ref m14])), (m2, .inl (eI g, 49, .inl (fun j => nI (V j)))), (m4, .inl (eI g, 41, .inl O)), (m5, .inl (eI g, 9, .inl (fun j => nI (Y j)))), (m6, .inl (eI g, 9, .inl (fun j => nI (Z j)))), (m13, .inl (eI g, 3, .inl (fun j => nI (fd j))))] H := hP
          have hD : va_D A [(m0, .inr (5, [.ref m1, .ref m2, .ref m3, .int (nI kp), .ref m4, .ref m5, .ref m6, .ref m7, .ref m8, .int (nI rn), .ref m9, .int (nI tn_), .int (nI ia), .int (nI wl), .ref m10, .ref m11, .ref m12, .int (nI si), .ref m13, .ref m14])), (m2, .inl (eI g, 49, .inl (fun j => nI (V j)))), (m4, .inl (eI g, 41, .inl O)), (m5, .inl (eI g, 9, .inl (fun j => nI (Y j)))), (m6, .inl (eI g, 9, .inl (fun j => nI (Z j)))), (m13, .inl (eI g, 3, .inl (fun j => nI (fd j))))] := hD
          have hl : lv_has ls 2 [(0, .ref m0), (1, .int (nI r))] := hl
          have hI88 : V = fillE S (fd 0) r (fd 2) ∧ fd 0 ≤ r ∧ r ≤ fd 1 + 1 := hI
          clear hI
          obtain ⟨hV, hr1, hr2⟩ := id hI88
          refine lv_iload_n hx hb dX5_takes_88 rfl (lv_at hl 1 rfl) ?_
          refine lv_aload_n hx hb dX5_takes_89 rfl (lv_at hl 0 rfl) ?_
          refine xget F hP inX5_takes_X5 0 rfl rfl 18 (by decide) lkX5_takes_2 rfl dX5_takes_90 ?_
          refine lv_iconst (v := (nI 1)) hx hb dX5_takes_93 (by decide) ?_
          refine xald F hP 5 (v := (nI (fd 1))) rfl (by omega) (by omega) rfl dX5_takes_94 ?_
          refine xgt (tgt := 116) hx hb dX5_takes_95 (by decide) (by omega) (by omega) (fun c95 => ?_) (fun c95 => ?_)
          · skip
            refine lv_iconst (v := (nI 1)) hx hb dX5_takes_116 (by decide) ?_
            exact rtZ F hP hD hS dX5_takes_117 (rfl) (⟨_, _, _, _, congrArg nI (if_pos (by rw [hri]; unfold effB; rw [if_pos rfl]; exact decide_eq_true ⟨by omega, by omega, by omega⟩)).symm, rfl, fun _ => by rw [hV, show r = fd 1 + 1 by omega, hri]; unfold effS; rw [if_pos rfl]⟩)
          · skip
            refine lv_aload_n hx hb dX5_takes_98 rfl (lv_at hl 0 rfl) ?_
            refine xget F hP inX5_takes_X5 0 rfl rfl 1 (by decide) lkX5_takes_3 rfl dX5_takes_99 ?_
            refine lv_iload_n hx hb dX5_takes_102 rfl (lv_at hl 1 rfl) ?_
            refine lv_aload_n hx hb dX5_takes_103 rfl (lv_at hl 0 rfl) ?_
            refine xget F hP inX5_takes_X5 0 rfl rfl 18 (by decide) lkX5_takes_2 rfl dX5_takes_104 ?_
            refine lv_iconst (v := (nI 2)) hx hb dX5_takes_107 (by decide) ?_
            refine xald F hP 5 (v := (nI (fd 2))) rfl (by omega) (by omega) rfl dX5_takes_108 ?_
            refine xast F hP hD hS 1 (f' := fun j => nI ((updN V r (fd 2)) j)) rfl (by omega) (by omega) (upd_nI V r (fd 2)) dX5_takes_109 (fun H locs hP hD hS => ?_)
            have hP : va_P (eD g) vwCl [(m0, .inr (5, [.ref m1, .ref m2, .ref m3, .int (nI kp), .ref m4, .ref m5, .ref m6, .ref m7, .ref m8, .int (nI rn), .ref m9, .int (nI tn_), .int (nI ia), .int (nI wl), .ref m10, .ref m11, .ref m12, .int (nI si), .ref m13, .ref m14])), (m2, .inl (eI g, 49, .inl (fun j => nI ((updN V r (fd 2)) j)))), (m4, .inl (eI g, 41, .inl O)), (m5, .inl (eI g, 9, .inl (fun j => nI (Y j)))), (m6, .inl (eI g, 9, .inl (fun j => nI (Z j)))), (m13, .inl (eI g, 3, .inl (fun j => nI (fd j))))] H := hP
            have hD : va_D A [(m0, .inr (5, [.ref m1, .ref m2, .ref m3, .int (nI kp), .ref m4, .ref m5, .ref m6, .ref m7, .ref m8, .int (nI rn), .ref m9, .int (nI tn_), .int (nI ia), .int (nI wl), .ref m10, .ref m11, .ref m12, .int (nI si), .ref m13, .ref m14])), (m2, .inl (eI g, 49, .inl (fun j => nI ((updN V r (fd 2)) j)))), (m4, .inl (eI g, 41, .inl O)), (m5, .inl (eI g, 9, .inl (fun j => nI (Y j)))), (m6, .inl (eI g, 9, .inl (fun j => nI (Z j)))), (m13, .inl (eI g, 3, .inl (fun j => nI (fd j))))] := hD
            refine lv_iinc (v := (nI (r + 1))) (lv' := [(1, .int (nI (r + 1))), (0, .ref m0)]) hx hb dX5_takes_110 hl (k := 1) rfl (iincP r 1) (by decide) rfl (fun ls hl => ?_)
            refine lv_goto (tgt := 88) hx hb dX5_takes_113 (by decide) ?_
            exact ih88 (r + 1, (updN V r (fd 2))) (show (updN V r (fd 2)) = fillE S (fd 0) (r + 1) (fd 2) ∧ fd 0 ≤ (r + 1) ∧ (r + 1) ≤ fd 1 + 1 from (⟨by rw [hV]; exact fillE_step (by omega), by omega, by omega⟩)) (show fd 1 + 1 - (r + 1) < fd 1 + 1 - r from (by omega)) _ _ _ hP hD hS (lv_sub hl [1, 0] rfl)
        · skip
          refine lv_iconst (v := (nI 0)) hx hb dX5_takes_79 (by decide) ?_
          exact rtZ F hP hD hS dX5_takes_80 (rfl) (⟨_, _, _, _, congrArg nI (if_neg (by rw [hri]; unfold effB; rw [if_pos rfl]; exact fun q => by have := of_decide_eq_true q; omega)).symm, rfl, fun q => absurd q (by rw [hri]; unfold effB; rw [if_pos rfl]; exact fun q => by have := of_decide_eq_true q; omega)⟩)
  · refine lv_tableIn (tgt := 118) hx hb dX5_takes_4 (by rw [c4]; decide) (by rw [c4]; decide) (by rw [c4]; rfl) (by decide) ?_
    have hri : si = 1 := by omega
    refine lv_aload_n hx hb dX5_takes_118 rfl (lv_at hl 0 rfl) ?_
    refine xget F hP inX5_takes_X5 0 rfl rfl 1 (by decide) lkX5_takes_3 rfl dX5_takes_119 ?_
    refine lv_bipush (v := (nI 41)) hx hb dX5_takes_122 (by decide) ?_
    refine lv_aload_n hx hb dX5_takes_124 rfl (lv_at hl 0 rfl) ?_
    refine xget F hP inX5_takes_X5 0 rfl rfl 18 (by decide) lkX5_takes_2 rfl dX5_takes_125 ?_
    refine lv_iconst (v := (nI 0)) hx hb dX5_takes_128 (by decide) ?_
    refine xald F hP 5 (v := (nI (fd 0))) rfl (by omega) (by omega) rfl dX5_takes_129 ?_
    refine xast F hP hD hS 1 (f' := fun j => nI ((updN S 41 (fd 0)) j)) rfl (by omega) (by omega) (upd_nI S 41 (fd 0)) dX5_takes_130 (fun H locs hP hD hS => ?_)
    have hP : va_P (eD g) vwCl [(m0, .inr (5, [.ref m1, .ref m2, .ref m3, .int (nI kp), .ref m4, .ref m5, .ref m6, .ref m7, .ref m8, .int (nI rn), .ref m9, .int (nI tn_), .int (nI ia), .int (nI wl), .ref m10, .ref m11, .ref m12, .int (nI si), .ref m13, .ref m14])), (m2, .inl (eI g, 49, .inl (fun j => nI ((updN S 41 (fd 0)) j)))), (m4, .inl (eI g, 41, .inl O)), (m5, .inl (eI g, 9, .inl (fun j => nI (Y j)))), (m6, .inl (eI g, 9, .inl (fun j => nI (Z j)))), (m13, .inl (eI g, 3, .inl (fun j => nI (fd j))))] H := hP
    have hD : va_D A [(m0, .inr (5, [.ref m1, .ref m2, .ref m3, .int (nI kp), .ref m4, .ref m5, .ref m6, .ref m7, .ref m8, .int (nI rn), .ref m9, .int (nI tn_), .int (nI ia), .int (nI wl), .ref m10, .ref m11, .ref m12, .int (nI si), .ref m13, .ref m14])), (m2, .inl (eI g, 49, .inl (fun j => nI ((updN S 41 (fd 0)) j)))), (m4, .inl (eI g, 41, .inl O)), (m5, .inl (eI g, 9, .inl (fun j => nI (Y j)))), (m6, .inl (eI g, 9, .inl (fun j => nI (Z j)))), (m13, .inl (eI g, 3, .inl (fun j => nI (fd j))))] := hD
    refine lv_aload_n hx hb dX5_takes_131 rfl (lv_at hl 0 rfl) ?_
    refine xget F hP inX5_takes_X5 0 rfl rfl 18 (by decide) lkX5_takes_2 rfl dX5_takes_132 ?_
    refine lv_iconst (v := (nI 0)) hx hb dX5_takes_135 (by decide) ?_
    refine xald F hP 5 (v := (nI (fd 0))) rfl (by omega) (by omega) rfl dX5_takes_136 ?_
    refine lv_iconst (v := (nI 2)) hx hb dX5_takes_137 (by decide) ?_
    refine xlt (tgt := 156) hx hb dX5_takes_138 (by decide) (by omega) (by omega) (fun c138 => ?_) (fun c138 => ?_)
    · skip
      refine lv_iconst (v := (nI 0)) hx hb dX5_takes_156 (by decide) ?_
      exact rtZ F hP hD hS dX5_takes_157 (rfl) (⟨_, _, _, _, congrArg nI (if_neg (by rw [hri]; unfold effB; rw [if_neg (by decide), if_pos rfl]; exact fun q => by have := of_decide_eq_true q; omega)).symm, rfl, fun q => absurd q (by rw [hri]; unfold effB; rw [if_neg (by decide), if_pos rfl]; exact fun q => by have := of_decide_eq_true q; omega)⟩)
    · skip
      refine lv_aload_n hx hb dX5_takes_141 rfl (lv_at hl 0 rfl) ?_
      refine xget F hP inX5_takes_X5 0 rfl rfl 18 (by decide) lkX5_takes_2 rfl dX5_takes_142 ?_
      refine lv_iconst (v := (nI 0)) hx hb dX5_takes_145 (by decide) ?_
      refine xald F hP 5 (v := (nI (fd 0))) rfl (by omega) (by omega) rfl dX5_takes_146 ?_
      refine lv_bipush (v := (nI 7)) hx hb dX5_takes_147 (by decide) ?_
      refine xgt (tgt := 156) hx hb dX5_takes_149 (by decide) (by omega) (by omega) (fun c149 => ?_) (fun c149 => ?_)
      · skip
        refine lv_iconst (v := (nI 0)) hx hb dX5_takes_156 (by decide) ?_
        exact rtZ F hP hD hS dX5_takes_157 (rfl) (⟨_, _, _, _, congrArg nI (if_neg (by rw [hri]; unfold effB; rw [if_neg (by decide), if_pos rfl]; exact fun q => by have := of_decide_eq_true q; omega)).symm, rfl, fun q => absurd q (by rw [hri]; unfold effB; rw [if_neg (by decide), if_pos rfl]; exact fun q => by have := of_decide_eq_true q; omega)⟩)
      · skip
        refine lv_iconst (v := (nI 1)) hx hb dX5_takes_152 (by decide) ?_
        refine lv_goto (tgt := 157) hx hb dX5_takes_153 (by decide) ?_
        exact rtZ F hP hD hS dX5_takes_157 (rfl) (⟨_, _, _, _, congrArg nI (if_pos (by rw [hri]; unfold effB; rw [if_neg (by decide), if_pos rfl]; exact decide_eq_true ⟨by omega, by omega⟩)).symm, rfl, fun _ => by rw [hri]; unfold effS; rw [if_neg (by decide), if_pos rfl]⟩)
  · refine lv_tableIn (tgt := 158) hx hb dX5_takes_4 (by rw [c4]; decide) (by rw [c4]; decide) (by rw [c4]; rfl) (by decide) ?_
    have hri : si = 2 := by omega
    refine lv_aload_n hx hb dX5_takes_158 rfl (lv_at hl 0 rfl) ?_
    refine xget F hP inX5_takes_X5 0 rfl rfl 1 (by decide) lkX5_takes_3 rfl dX5_takes_159 ?_
    refine lv_bipush (v := (nI 46)) hx hb dX5_takes_162 (by decide) ?_
    refine lv_aload_n hx hb dX5_takes_164 rfl (lv_at hl 0 rfl) ?_
    refine xget F hP inX5_takes_X5 0 rfl rfl 18 (by decide) lkX5_takes_2 rfl dX5_takes_165 ?_
    refine lv_iconst (v := (nI 0)) hx hb dX5_takes_168 (by decide) ?_
    refine xald F hP 5 (v := (nI (fd 0))) rfl (by omega) (by omega) rfl dX5_takes_169 ?_
    refine xast F hP hD hS 1 (f' := fun j => nI ((updN S 46 (fd 0)) j)) rfl (by omega) (by omega) (upd_nI S 46 (fd 0)) dX5_takes_170 (fun H locs hP hD hS => ?_)
    have hP : va_P (eD g) vwCl [(m0, .inr (5, [.ref m1, .ref m2, .ref m3, .int (nI kp), .ref m4, .ref m5, .ref m6, .ref m7, .ref m8, .int (nI rn), .ref m9, .int (nI tn_), .int (nI ia), .int (nI wl), .ref m10, .ref m11, .ref m12, .int (nI si), .ref m13, .ref m14])), (m2, .inl (eI g, 49, .inl (fun j => nI ((updN S 46 (fd 0)) j)))), (m4, .inl (eI g, 41, .inl O)), (m5, .inl (eI g, 9, .inl (fun j => nI (Y j)))), (m6, .inl (eI g, 9, .inl (fun j => nI (Z j)))), (m13, .inl (eI g, 3, .inl (fun j => nI (fd j))))] H := hP
    have hD : va_D A [(m0, .inr (5, [.ref m1, .ref m2, .ref m3, .int (nI kp), .ref m4, .ref m5, .ref m6, .ref m7, .ref m8, .int (nI rn), .ref m9, .int (nI tn_), .int (nI ia), .int (nI wl), .ref m10, .ref m11, .ref m12, .int (nI si), .ref m13, .ref m14])), (m2, .inl (eI g, 49, .inl (fun j => nI ((updN S 46 (fd 0)) j)))), (m4, .inl (eI g, 41, .inl O)), (m5, .inl (eI g, 9, .inl (fun j => nI (Y j)))), (m6, .inl (eI g, 9, .inl (fun j => nI (Z j)))), (m13, .inl (eI g, 3, .inl (fun j => nI (fd j))))] := hD
    refine lv_aload_n hx hb dX5_takes_171 rfl (lv_at hl 0 rfl) ?_
    refine xget F hP inX5_takes_X5 0 rfl rfl 1 (by decide) lkX5_takes_3 rfl dX5_takes_172 ?_
    refine lv_bipush (v := (nI 42)) hx hb dX5_takes_175 (by decide) ?_
    refine lv_aload_n hx hb dX5_takes_177 rfl (lv_at hl 0 rfl) ?_
    refine xget F hP inX5_takes_X5 0 rfl rfl 18 (by decide) lkX5_takes_2 rfl dX5_takes_178 ?_
    refine lv_iconst (v := (nI 1)) hx hb dX5_takes_181 (by decide) ?_
    refine xald F hP 5 (v := (nI (fd 1))) rfl (by omega) (by omega) rfl dX5_takes_182 ?_
    refine xast F hP hD hS 1 (f' := fun j => nI ((updN (updN S 46 (fd 0)) 42 (fd 1)) j)) rfl (by omega) (by omega) (upd_nI (updN S 46 (fd 0)) 42 (fd 1)) dX5_takes_183 (fun H locs hP hD hS => ?_)
    have hP : va_P (eD g) vwCl [(m0, .inr (5, [.ref m1, .ref m2, .ref m3, .int (nI kp), .ref m4, .ref m5, .ref m6, .ref m7, .ref m8, .int (nI rn), .ref m9, .int (nI tn_), .int (nI ia), .int (nI wl), .ref m10, .ref m11, .ref m12, .int (nI si), .ref m13, .ref m14])), (m2, .inl (eI g, 49, .inl (fun j => nI ((updN (updN S 46 (fd 0)) 42 (fd 1)) j)))), (m4, .inl (eI g, 41, .inl O)), (m5, .inl (eI g, 9, .inl (fun j => nI (Y j)))), (m6, .inl (eI g, 9, .inl (fun j => nI (Z j)))), (m13, .inl (eI g, 3, .inl (fun j => nI (fd j))))] H := hP
    have hD : va_D A [(m0, .inr (5, [.ref m1, .ref m2, .ref m3, .int (nI kp), .ref m4, .ref m5, .ref m6, .ref m7, .ref m8, .int (nI rn), .ref m9, .int (nI tn_), .int (nI ia), .int (nI wl), .ref m10, .ref m11, .ref m12, .int (nI si), .ref m13, .ref m14])), (m2, .inl (eI g, 49, .inl (fun j => nI ((updN (updN S 46 (fd 0)) 42 (fd 1)) j)))), (m4, .inl (eI g, 41, .inl O)), (m5, .inl (eI g, 9, .inl (fun j => nI (Y j)))), (m6, .inl (eI g, 9, .inl (fun j => nI (Z j)))), (m13, .inl (eI g, 3, .inl (fun j => nI (fd j))))] := hD
    refine lv_aload_n hx hb dX5_takes_184 rfl (lv_at hl 0 rfl) ?_
    refine xget F hP inX5_takes_X5 0 rfl rfl 18 (by decide) lkX5_takes_2 rfl dX5_takes_185 ?_
    refine lv_iconst (v := (nI 1)) hx hb dX5_takes_188 (by decide) ?_
    refine xald F hP 5 (v := (nI (fd 1))) rfl (by omega) (by omega) rfl dX5_takes_189 ?_
    refine zle (tgt := 197) hx hb dX5_takes_190 (by decide) (by omega) (fun c190 => ?_) (fun c190 => ?_)
    · skip
      refine lv_iconst (v := (nI 0)) hx hb dX5_takes_197 (by decide) ?_
      exact rtZ F hP hD hS dX5_takes_198 (rfl) (⟨_, _, _, _, congrArg nI (if_neg (by rw [hri]; unfold effB; rw [if_neg (by decide), if_neg (by decide), if_pos rfl]; exact fun q => by have := of_decide_eq_true q; omega)).symm, rfl, fun q => absurd q (by rw [hri]; unfold effB; rw [if_neg (by decide), if_neg (by decide), if_pos rfl]; exact fun q => by have := of_decide_eq_true q; omega)⟩)
    · skip
      refine lv_iconst (v := (nI 1)) hx hb dX5_takes_193 (by decide) ?_
      refine lv_goto (tgt := 198) hx hb dX5_takes_194 (by decide) ?_
      exact rtZ F hP hD hS dX5_takes_198 (rfl) (⟨_, _, _, _, congrArg nI (if_pos (by rw [hri]; unfold effB; rw [if_neg (by decide), if_neg (by decide), if_pos rfl]; exact decide_eq_true (by omega))).symm, rfl, fun _ => by rw [hri]; unfold effS; rw [if_neg (by decide), if_neg (by decide), if_pos rfl]⟩)
  · refine lv_tableIn (tgt := 199) hx hb dX5_takes_4 (by rw [c4]; decide) (by rw [c4]; decide) (by rw [c4]; rfl) (by decide) ?_
    have hri : si = 3 := by omega
    refine lv_aload_n hx hb dX5_takes_199 rfl (lv_at hl 0 rfl) ?_
    refine xget F hP inX5_takes_X5 0 rfl rfl 1 (by decide) lkX5_takes_3 rfl dX5_takes_200 ?_
    refine lv_bipush (v := (nI 47)) hx hb dX5_takes_203 (by decide) ?_
    refine lv_aload_n hx hb dX5_takes_205 rfl (lv_at hl 0 rfl) ?_
    refine xget F hP inX5_takes_X5 0 rfl rfl 18 (by decide) lkX5_takes_2 rfl dX5_takes_206 ?_
    refine lv_iconst (v := (nI 0)) hx hb dX5_takes_209 (by decide) ?_
    refine xald F hP 5 (v := (nI (fd 0))) rfl (by omega) (by omega) rfl dX5_takes_210 ?_
    refine xast F hP hD hS 1 (f' := fun j => nI ((updN S 47 (fd 0)) j)) rfl (by omega) (by omega) (upd_nI S 47 (fd 0)) dX5_takes_211 (fun H locs hP hD hS => ?_)
    have hP : va_P (eD g) vwCl [(m0, .inr (5, [.ref m1, .ref m2, .ref m3, .int (nI kp), .ref m4, .ref m5, .ref m6, .ref m7, .ref m8, .int (nI rn), .ref m9, .int (nI tn_), .int (nI ia), .int (nI wl), .ref m10, .ref m11, .ref m12, .int (nI si), .ref m13, .ref m14])), (m2, .inl (eI g, 49, .inl (fun j => nI ((updN S 47 (fd 0)) j)))), (m4, .inl (eI g, 41, .inl O)), (m5, .inl (eI g, 9, .inl (fun j => nI (Y j)))), (m6, .inl (eI g, 9, .inl (fun j => nI (Z j)))), (m13, .inl (eI g, 3, .inl (fun j => nI (fd j))))] H := hP
    have hD : va_D A [(m0, .inr (5, [.ref m1, .ref m2, .ref m3, .int (nI kp), .ref m4, .ref m5, .ref m6, .ref m7, .ref m8, .int (nI rn), .ref m9, .int (nI tn_), .int (nI ia), .int (nI wl), .ref m10, .ref m11, .ref m12, .int (nI si), .ref m13, .ref m14])), (m2, .inl (eI g, 49, .inl (fun j => nI ((updN S 47 (fd 0)) j)))), (m4, .inl (eI g, 41, .inl O)), (m5, .inl (eI g, 9, .inl (fun j => nI (Y j)))), (m6, .inl (eI g, 9, .inl (fun j => nI (Z j)))), (m13, .inl (eI g, 3, .inl (fun j => nI (fd j))))] := hD
    refine lv_aload_n hx hb dX5_takes_212 rfl (lv_at hl 0 rfl) ?_
    refine xget F hP inX5_takes_X5 0 rfl rfl 1 (by decide) lkX5_takes_3 rfl dX5_takes_213 ?_
    refine lv_bipush (v := (nI 43)) hx hb dX5_takes_216 (by decide) ?_
    refine lv_aload_n hx hb dX5_takes_218 rfl (lv_at hl 0 rfl) ?_
    refine xget F hP inX5_takes_X5 0 rfl rfl 18 (by decide) lkX5_takes_2 rfl dX5_takes_219 ?_
    refine lv_iconst (v := (nI 1)) hx hb dX5_takes_222 (by decide) ?_
    refine xald F hP 5 (v := (nI (fd 1))) rfl (by omega) (by omega) rfl dX5_takes_223 ?_
    refine xast F hP hD hS 1 (f' := fun j => nI ((updN (updN S 47 (fd 0)) 43 (fd 1)) j)) rfl (by omega) (by omega) (upd_nI (updN S 47 (fd 0)) 43 (fd 1)) dX5_takes_224 (fun H locs hP hD hS => ?_)
    have hP : va_P (eD g) vwCl [(m0, .inr (5, [.ref m1, .ref m2, .ref m3, .int (nI kp), .ref m4, .ref m5, .ref m6, .ref m7, .ref m8, .int (nI rn), .ref m9, .int (nI tn_), .int (nI ia), .int (nI wl), .ref m10, .ref m11, .ref m12, .int (nI si), .ref m13, .ref m14])), (m2, .inl (eI g, 49, .inl (fun j => nI ((updN (updN S 47 (fd 0)) 43 (fd 1)) j)))), (m4, .inl (eI g, 41, .inl O)), (m5, .inl (eI g, 9, .inl (fun j => nI (Y j)))), (m6, .inl (eI g, 9, .inl (fun j => nI (Z j)))), (m13, .inl (eI g, 3, .inl (fun j => nI (fd j))))] H := hP
    have hD : va_D A [(m0, .inr (5, [.ref m1, .ref m2, .ref m3, .int (nI kp), .ref m4, .ref m5, .ref m6, .ref m7, .ref m8, .int (nI rn), .ref m9, .int (nI tn_), .int (nI ia), .int (nI wl), .ref m10, .ref m11, .ref m12, .int (nI si), .ref m13, .ref m14])), (m2, .inl (eI g, 49, .inl (fun j => nI ((updN (updN S 47 (fd 0)) 43 (fd 1)) j)))), (m4, .inl (eI g, 41, .inl O)), (m5, .inl (eI g, 9, .inl (fun j => nI (Y j)))), (m6, .inl (eI g, 9, .inl (fun j => nI (Z j)))), (m13, .inl (eI g, 3, .inl (fun j => nI (fd j))))] := hD
    refine lv_iconst (v := (nI 1)) hx hb dX5_takes_225 (by decide) ?_
    exact rtZ F hP hD hS dX5_takes_226 (rfl) (⟨_, _, _, _, congrArg nI (if_pos (by rw [hri]; unfold effB; rw [if_neg (by decide), if_neg (by decide), if_neg (by decide), if_pos rfl])).symm, rfl, fun _ => by rw [hri]; unfold effS; rw [if_neg (by decide), if_neg (by decide), if_neg (by decide), if_pos rfl]⟩)
  · refine lv_tableIn (tgt := 227) hx hb dX5_takes_4 (by rw [c4]; decide) (by rw [c4]; decide) (by rw [c4]; rfl) (by decide) ?_
    have hri : si = 4 := by omega
    refine lv_aload_n hx hb dX5_takes_227 rfl (lv_at hl 0 rfl) ?_
    refine xget F hP inX5_takes_X5 0 rfl rfl 1 (by decide) lkX5_takes_3 rfl dX5_takes_228 ?_
    refine lv_bipush (v := (nI 44)) hx hb dX5_takes_231 (by decide) ?_
    refine lv_aload_n hx hb dX5_takes_233 rfl (lv_at hl 0 rfl) ?_
    refine xget F hP inX5_takes_X5 0 rfl rfl 18 (by decide) lkX5_takes_2 rfl dX5_takes_234 ?_
    refine lv_iconst (v := (nI 0)) hx hb dX5_takes_237 (by decide) ?_
    refine xald F hP 5 (v := (nI (fd 0))) rfl (by omega) (by omega) rfl dX5_takes_238 ?_
    refine xast F hP hD hS 1 (f' := fun j => nI ((updN S 44 (fd 0)) j)) rfl (by omega) (by omega) (upd_nI S 44 (fd 0)) dX5_takes_239 (fun H locs hP hD hS => ?_)
    have hP : va_P (eD g) vwCl [(m0, .inr (5, [.ref m1, .ref m2, .ref m3, .int (nI kp), .ref m4, .ref m5, .ref m6, .ref m7, .ref m8, .int (nI rn), .ref m9, .int (nI tn_), .int (nI ia), .int (nI wl), .ref m10, .ref m11, .ref m12, .int (nI si), .ref m13, .ref m14])), (m2, .inl (eI g, 49, .inl (fun j => nI ((updN S 44 (fd 0)) j)))), (m4, .inl (eI g, 41, .inl O)), (m5, .inl (eI g, 9, .inl (fun j => nI (Y j)))), (m6, .inl (eI g, 9, .inl (fun j => nI (Z j)))), (m13, .inl (eI g, 3, .inl (fun j => nI (fd j))))] H := hP
    have hD : va_D A [(m0, .inr (5, [.ref m1, .ref m2, .ref m3, .int (nI kp), .ref m4, .ref m5, .ref m6, .ref m7, .ref m8, .int (nI rn), .ref m9, .int (nI tn_), .int (nI ia), .int (nI wl), .ref m10, .ref m11, .ref m12, .int (nI si), .ref m13, .ref m14])), (m2, .inl (eI g, 49, .inl (fun j => nI ((updN S 44 (fd 0)) j)))), (m4, .inl (eI g, 41, .inl O)), (m5, .inl (eI g, 9, .inl (fun j => nI (Y j)))), (m6, .inl (eI g, 9, .inl (fun j => nI (Z j)))), (m13, .inl (eI g, 3, .inl (fun j => nI (fd j))))] := hD
    refine lv_aload_n hx hb dX5_takes_240 rfl (lv_at hl 0 rfl) ?_
    refine xget F hP inX5_takes_X5 0 rfl rfl 1 (by decide) lkX5_takes_3 rfl dX5_takes_241 ?_
    refine lv_bipush (v := (nI 45)) hx hb dX5_takes_244 (by decide) ?_
    refine lv_aload_n hx hb dX5_takes_246 rfl (lv_at hl 0 rfl) ?_
    refine xget F hP inX5_takes_X5 0 rfl rfl 18 (by decide) lkX5_takes_2 rfl dX5_takes_247 ?_
    refine lv_iconst (v := (nI 1)) hx hb dX5_takes_250 (by decide) ?_
    refine xald F hP 5 (v := (nI (fd 1))) rfl (by omega) (by omega) rfl dX5_takes_251 ?_
    refine xast F hP hD hS 1 (f' := fun j => nI ((updN (updN S 44 (fd 0)) 45 (fd 1)) j)) rfl (by omega) (by omega) (upd_nI (updN S 44 (fd 0)) 45 (fd 1)) dX5_takes_252 (fun H locs hP hD hS => ?_)
    have hP : va_P (eD g) vwCl [(m0, .inr (5, [.ref m1, .ref m2, .ref m3, .int (nI kp), .ref m4, .ref m5, .ref m6, .ref m7, .ref m8, .int (nI rn), .ref m9, .int (nI tn_), .int (nI ia), .int (nI wl), .ref m10, .ref m11, .ref m12, .int (nI si), .ref m13, .ref m14])), (m2, .inl (eI g, 49, .inl (fun j => nI ((updN (updN S 44 (fd 0)) 45 (fd 1)) j)))), (m4, .inl (eI g, 41, .inl O)), (m5, .inl (eI g, 9, .inl (fun j => nI (Y j)))), (m6, .inl (eI g, 9, .inl (fun j => nI (Z j)))), (m13, .inl (eI g, 3, .inl (fun j => nI (fd j))))] H := hP
    have hD : va_D A [(m0, .inr (5, [.ref m1, .ref m2, .ref m3, .int (nI kp), .ref m4, .ref m5, .ref m6, .ref m7, .ref m8, .int (nI rn), .ref m9, .int (nI tn_), .int (nI ia), .int (nI wl), .ref m10, .ref m11, .ref m12, .int (nI si), .ref m13, .ref m14])), (m2, .inl (eI g, 49, .inl (fun j => nI ((updN (updN S 44 (fd 0)) 45 (fd 1)) j)))), (m4, .inl (eI g, 41, .inl O)), (m5, .inl (eI g, 9, .inl (fun j => nI (Y j)))), (m6, .inl (eI g, 9, .inl (fun j => nI (Z j)))), (m13, .inl (eI g, 3, .inl (fun j => nI (fd j))))] := hD
    refine lv_iconst (v := (nI 1)) hx hb dX5_takes_253 (by decide) ?_
    exact rtZ F hP hD hS dX5_takes_254 (rfl) (⟨_, _, _, _, congrArg nI (if_pos (by rw [hri]; unfold effB; rw [if_neg (by decide), if_neg (by decide), if_neg (by decide), if_neg (by decide), if_pos rfl])).symm, rfl, fun _ => by rw [hri]; unfold effS; rw [if_neg (by decide), if_neg (by decide), if_neg (by decide), if_neg (by decide), if_pos rfl]⟩)
  · refine lv_tableOut (tgt := 255) hx hb dX5_takes_4 (Or.inr (by rw [nI_toInt (by omega)]; omega)) (by decide) ?_
    have hri : si = 5 := by omega
    refine lv_aload_n hx hb dX5_takes_255 rfl (lv_at hl 0 rfl) ?_
    refine xget F hP inX5_takes_X5 0 rfl rfl 18 (by decide) lkX5_takes_2 rfl dX5_takes_256 ?_
    refine lv_iconst (v := (nI 0)) hx hb dX5_takes_259 (by decide) ?_
    refine xald F hP 5 (v := (nI (fd 0))) rfl (by omega) (by omega) rfl dX5_takes_260 ?_
    refine cSI (As := [.int (nI (fd 0))]) (rest := []) F (n_X5_isNoSecond l g (fd 0) (by omega)) kX5_isNoSecond gX5_takes_X5_isNoSecond rfl rfl ⟨Nat.le_of_ble_eq_true rfl, Nat.le_of_ble_eq_true rfl⟩ hP hD hS [] [0, 1, 2, 3, 4, 5] rfl rfl hl.1 rfl rfl (Nat.le_of_ble_eq_true rfl) dX5_takes_261 ⟨Nat.le_of_ble_eq_true rfl, Nat.le_of_ble_eq_true rfl⟩ (fun rz w1 H locs hpo hP hD hS => ?_)
    obtain ⟨rfl, rfl⟩ := hpo
    obtain ⟨hP, hD⟩ := nx (ws' := [(m0, .inr (5, [.ref m1, .ref m2, .ref m3, .int (nI kp), .ref m4, .ref m5, .ref m6, .ref m7, .ref m8, .int (nI rn), .ref m9, .int (nI tn_), .int (nI ia), .int (nI wl), .ref m10, .ref m11, .ref m12, .int (nI si), .ref m13, .ref m14])), (m2, .inl (eI g, 49, .inl (fun j => nI (S j)))), (m4, .inl (eI g, 41, .inl O)), (m5, .inl (eI g, 9, .inl (fun j => nI (Y j)))), (m6, .inl (eI g, 9, .inl (fun j => nI (Z j)))), (m13, .inl (eI g, 3, .inl (fun j => nI (fd j))))]) hP hD [0, 1, 2, 3, 4, 5] (ndB_ok _ rfl) rfl
    refine bqne (tgt := 315) hx hb dX5_takes_264 (by decide) (fun c264 => ?_) (fun c264 => ?_)
    · skip
      refine lv_iconst (v := (nI 0)) hx hb dX5_takes_315 (by decide) ?_
      exact rtZ F hP hD hS dX5_takes_316 (rfl) (⟨_, _, _, _, congrArg nI (if_neg (by rw [hri]; unfold effB; rw [if_neg (by decide), if_neg (by decide), if_neg (by decide), if_neg (by decide), if_neg (by decide)]; exact fun q => by have z := of_decide_eq_true q; omega)).symm, rfl, fun q => absurd q (by rw [hri]; unfold effB; rw [if_neg (by decide), if_neg (by decide), if_neg (by decide), if_neg (by decide), if_neg (by decide)]; exact fun q => by have z := of_decide_eq_true q; omega)⟩)
    · skip
      refine lv_aload_n hx hb dX5_takes_267 rfl (lv_at hl 0 rfl) ?_
      refine lv_aload_n hx hb dX5_takes_268 rfl (lv_at hl 0 rfl) ?_
      refine xget F hP inX5_takes_X5 0 rfl rfl 18 (by decide) lkX5_takes_2 rfl dX5_takes_269 ?_
      refine lv_iconst (v := (nI 1)) hx hb dX5_takes_272 (by decide) ?_
      refine xald F hP 5 (v := (nI (fd 1))) rfl (by omega) (by omega) rfl dX5_takes_273 ?_
      refine cVI (As := [.int (nI (fd 1))]) (rest := []) F (n_X5_isNoBand l g m0 m1 m2 m3 m4 m5 m6 m7 m8 m9 m10 m11 m12 m13 m14 kp rn tn_ ia wl si S (fd 1) (hO) (by omega)) kX5_isNoBand rfl gX5_takes_X5_isNoBand rfl rfl ⟨Nat.le_of_ble_eq_true rfl, Nat.le_of_ble_eq_true rfl⟩ hP hD hS [0, 1] [2, 3, 4, 5] rfl rfl 0 rfl rfl hl.1 rfl rfl (Nat.le_of_ble_eq_true rfl) dX5_takes_274 ⟨Nat.le_of_ble_eq_true rfl, Nat.le_of_ble_eq_true rfl⟩ (fun rz w1 H locs hpo hP hD hS => ?_)
      obtain ⟨rfl, rfl⟩ := hpo
      obtain ⟨hP, hD⟩ := nx (ws' := [(m0, .inr (5, [.ref m1, .ref m2, .ref m3, .int (nI kp), .ref m4, .ref m5, .ref m6, .ref m7, .ref m8, .int (nI rn), .ref m9, .int (nI tn_), .int (nI ia), .int (nI wl), .ref m10, .ref m11, .ref m12, .int (nI si), .ref m13, .ref m14])), (m2, .inl (eI g, 49, .inl (fun j => nI (S j)))), (m4, .inl (eI g, 41, .inl O)), (m5, .inl (eI g, 9, .inl (fun j => nI (Y j)))), (m6, .inl (eI g, 9, .inl (fun j => nI (Z j)))), (m13, .inl (eI g, 3, .inl (fun j => nI (fd j))))]) hP hD [4, 5, 0, 1, 2, 3] (ndB_ok _ rfl) rfl
      refine bqne (tgt := 315) hx hb dX5_takes_277 (by decide) (fun c277 => ?_) (fun c277 => ?_)
      · skip
        refine lv_iconst (v := (nI 0)) hx hb dX5_takes_315 (by decide) ?_
        exact rtZ F hP hD hS dX5_takes_316 (rfl) (⟨_, _, _, _, congrArg nI (if_neg (by rw [hri]; unfold effB; rw [if_neg (by decide), if_neg (by decide), if_neg (by decide), if_neg (by decide), if_neg (by decide)]; exact fun q => by have z := of_decide_eq_true q; exact z.2.2 (nb0 (by omega) c277))).symm, rfl, fun q => absurd q (by rw [hri]; unfold effB; rw [if_neg (by decide), if_neg (by decide), if_neg (by decide), if_neg (by decide), if_neg (by decide)]; exact fun q => by have z := of_decide_eq_true q; exact z.2.2 (nb0 (by omega) c277))⟩)
      · skip
        refine lv_aload_n hx hb dX5_takes_280 rfl (lv_at hl 0 rfl) ?_
        refine xget F hP inX5_takes_X5 0 rfl rfl 1 (by decide) lkX5_takes_3 rfl dX5_takes_281 ?_
        refine lv_bipush (v := (nI 48)) hx hb dX5_takes_284 (by decide) ?_
        refine xald F hP 1 (v := (nI (S 48))) rfl (by omega) (by omega) rfl dX5_takes_286 ?_
        refine lv_bipush (v := (nI 99)) hx hb dX5_takes_287 (by decide) ?_
        refine xeq (tgt := 315) hx hb dX5_takes_289 (by decide) (by omega) (by omega) (fun c289 => ?_) (fun c289 => ?_)
        · skip
          refine lv_iconst (v := (nI 0)) hx hb dX5_takes_315 (by decide) ?_
          exact rtZ F hP hD hS dX5_takes_316 (rfl) (⟨_, _, _, _, congrArg nI (if_neg (by rw [hri]; unfold effB; rw [if_neg (by decide), if_neg (by decide), if_neg (by decide), if_neg (by decide), if_neg (by decide)]; exact fun q => by have z := of_decide_eq_true q; omega)).symm, rfl, fun q => absurd q (by rw [hri]; unfold effB; rw [if_neg (by decide), if_neg (by decide), if_neg (by decide), if_neg (by decide), if_neg (by decide)]; exact fun q => by have z := of_decide_eq_true q; omega)⟩)
        · skip
          refine lv_aload_n hx hb dX5_takes_292 rfl (lv_at hl 0 rfl) ?_
          refine lv_aload_n hx hb dX5_takes_293 rfl (lv_at hl 0 rfl) ?_
          refine xget F hP inX5_takes_X5 0 rfl rfl 1 (by decide) lkX5_takes_3 rfl dX5_takes_294 ?_
          refine lv_aload_n hx hb dX5_takes_297 rfl (lv_at hl 0 rfl) ?_
          refine xget F hP inX5_takes_X5 0 rfl rfl 18 (by decide) lkX5_takes_2 rfl dX5_takes_298 ?_
          refine lv_iconst (v := (nI 0)) hx hb dX5_takes_301 (by decide) ?_
          refine xald F hP 5 (v := (nI (fd 0))) rfl (by omega) (by omega) rfl dX5_takes_302 ?_
          refine lv_aload_n hx hb dX5_takes_303 rfl (lv_at hl 0 rfl) ?_
          refine xget F hP inX5_takes_X5 0 rfl rfl 18 (by decide) lkX5_takes_2 rfl dX5_takes_304 ?_
          refine lv_iconst (v := (nI 1)) hx hb dX5_takes_307 (by decide) ?_
          refine xald F hP 5 (v := (nI (fd 1))) rfl (by omega) (by omega) rfl dX5_takes_308 ?_
          refine cVI (As := [.ref m2, .int (nI (fd 0)), .int (nI (fd 1))]) (rest := []) F (nc_X5_tries l g m0 m1 m2 m3 m4 m5 m6 m7 m8 m9 m10 m11 m12 m13 m14 kp rn tn_ ia wl si S O Y Z (fd 0) (fd 1) (hO) (by omega) (by omega)) kX5_tries rfl gX5_takes_X5_tries rfl rfl ⟨Nat.le_of_ble_eq_true rfl, Nat.le_of_ble_eq_true rfl⟩ hP hD hS [0, 1, 2, 3, 4] [5] rfl rfl 0 rfl rfl hl.1 rfl rfl (Nat.le_of_ble_eq_true rfl) dX5_takes_309 ⟨Nat.le_of_ble_eq_true rfl, Nat.le_of_ble_eq_true rfl⟩ (fun rz w1 H locs hpo hP hD hS => ?_)
          obtain ⟨O9_5, Y9_5, Z9_5, rfl, rfl⟩ := hpo
          obtain ⟨hP, hD⟩ := nx (ws' := [(m0, .inr (5, [.ref m1, .ref m2, .ref m3, .int (nI kp), .ref m4, .ref m5, .ref m6, .ref m7, .ref m8, .int (nI rn), .ref m9, .int (nI tn_), .int (nI ia), .int (nI wl), .ref m10, .ref m11, .ref m12, .int (nI si), .ref m13, .ref m14])), (m2, .inl (eI g, 49, .inl (fun j => nI ((if cnS (prt (tlS S) (lpB S) (fd 0) (fd 1)) ≠ 0 then cutN S (prt (tlS S) (lpB S) (fd 0) (fd 1)) 40 else S) j)))), (m4, .inl (eI g, 41, .inl O9_5)), (m5, .inl (eI g, 9, .inl (fun j => nI (Y9_5 j)))), (m6, .inl (eI g, 9, .inl (fun j => nI (Z9_5 j)))), (m13, .inl (eI g, 3, .inl (fun j => nI (fd j))))]) hP hD [1, 2, 3, 4, 5, 0] (ndB_ok _ rfl) rfl
          refine bqne (tgt := 317) hx hb dX5_takes_312 (by decide) (fun c312 => ?_) (fun c312 => ?_)
          · skip
            rw [if_pos c312] at hP hD
            have hP : va_P (eD g) vwCl [(m0, .inr (5, [.ref m1, .ref m2, .ref m3, .int (nI kp), .ref m4, .ref m5, .ref m6, .ref m7, .ref m8, .int (nI rn), .ref m9, .int (nI tn_), .int (nI ia), .int (nI wl), .ref m10, .ref m11, .ref m12, .int (nI si), .ref m13, .ref m14])), (m2, .inl (eI g, 49, .inl (fun j => nI ((cutN S (prt (tlS S) (lpB S) (fd 0) (fd 1)) 40) j)))), (m4, .inl (eI g, 41, .inl O9_5)), (m5, .inl (eI g, 9, .inl (fun j => nI (Y9_5 j)))), (m6, .inl (eI g, 9, .inl (fun j => nI (Z9_5 j)))), (m13, .inl (eI g, 3, .inl (fun j => nI (fd j))))] H := hP
            have hD : va_D A [(m0, .inr (5, [.ref m1, .ref m2, .ref m3, .int (nI kp), .ref m4, .ref m5, .ref m6, .ref m7, .ref m8, .int (nI rn), .ref m9, .int (nI tn_), .int (nI ia), .int (nI wl), .ref m10, .ref m11, .ref m12, .int (nI si), .ref m13, .ref m14])), (m2, .inl (eI g, 49, .inl (fun j => nI ((cutN S (prt (tlS S) (lpB S) (fd 0) (fd 1)) 40) j)))), (m4, .inl (eI g, 41, .inl O9_5)), (m5, .inl (eI g, 9, .inl (fun j => nI (Y9_5 j)))), (m6, .inl (eI g, 9, .inl (fun j => nI (Z9_5 j)))), (m13, .inl (eI g, 3, .inl (fun j => nI (fd j))))] := hD
            refine lv_aload_n hx hb dX5_takes_317 rfl (lv_at hl 0 rfl) ?_
            refine xget F hP inX5_takes_X5 0 rfl rfl 1 (by decide) lkX5_takes_3 rfl dX5_takes_318 ?_
            refine lv_bipush (v := (nI 48)) hx hb dX5_takes_321 (by decide) ?_
            refine lv_dup2_11 hx hb dX5_takes_323 rfl rfl ?_
            refine xald F hP 1 (v := (nI ((cutN S (prt (tlS S) (lpB S) (fd 0) (fd 1)) 40) 48))) rfl (by omega) (by omega) rfl dX5_takes_324 ?_
            refine lv_iconst (v := (nI 1)) hx hb dX5_takes_325 (by decide) ?_
            refine xadd hx hb dX5_takes_326 ?_
            refine xast F hP hD hS 1 (f' := fun j => nI ((updN (cutN S (prt (tlS S) (lpB S) (fd 0) (fd 1)) 40) 48 (((cutN S (prt (tlS S) (lpB S) (fd 0) (fd 1)) 40) 48) + 1)) j)) rfl (by omega) (by omega) (upd_nI (cutN S (prt (tlS S) (lpB S) (fd 0) (fd 1)) 40) 48 (((cutN S (prt (tlS S) (lpB S) (fd 0) (fd 1)) 40) 48) + 1)) dX5_takes_327 (fun H locs hP hD hS => ?_)
            have hP : va_P (eD g) vwCl [(m0, .inr (5, [.ref m1, .ref m2, .ref m3, .int (nI kp), .ref m4, .ref m5, .ref m6, .ref m7, .ref m8, .int (nI rn), .ref m9, .int (nI tn_), .int (nI ia), .int (nI wl), .ref m10, .ref m11, .ref m12, .int (nI si), .ref m13, .ref m14])), (m2, .inl (eI g, 49, .inl (fun j => nI ((updN (cutN S (prt (tlS S) (lpB S) (fd 0) (fd 1)) 40) 48 (((cutN S (prt (tlS S) (lpB S) (fd 0) (fd 1)) 40) 48) + 1)) j)))), (m4, .inl (eI g, 41, .inl O9_5)), (m5, .inl (eI g, 9, .inl (fun j => nI (Y9_5 j)))), (m6, .inl (eI g, 9, .inl (fun j => nI (Z9_5 j)))), (m13, .inl (eI g, 3, .inl (fun j => nI (fd j))))] H := hP
            have hD : va_D A [(m0, .inr (5, [.ref m1, .ref m2, .ref m3, .int (nI kp), .ref m4, .ref m5, .ref m6, .ref m7, .ref m8, .int (nI rn), .ref m9, .int (nI tn_), .int (nI ia), .int (nI wl), .ref m10, .ref m11, .ref m12, .int (nI si), .ref m13, .ref m14])), (m2, .inl (eI g, 49, .inl (fun j => nI ((updN (cutN S (prt (tlS S) (lpB S) (fd 0) (fd 1)) 40) 48 (((cutN S (prt (tlS S) (lpB S) (fd 0) (fd 1)) 40) 48) + 1)) j)))), (m4, .inl (eI g, 41, .inl O9_5)), (m5, .inl (eI g, 9, .inl (fun j => nI (Y9_5 j)))), (m6, .inl (eI g, 9, .inl (fun j => nI (Z9_5 j)))), (m13, .inl (eI g, 3, .inl (fun j => nI (fd j))))] := hD
            rw [show cutN S (prt (tlS S) (lpB S) (fd 0) (fd 1)) 40 48 = S 48 from cut48] at hP hD
            have hP : va_P (eD g) vwCl [(m0, .inr (5, [.ref m1, .ref m2, .ref m3, .int (nI kp), .ref m4, .ref m5, .ref m6, .ref m7, .ref m8, .int (nI rn), .ref m9, .int (nI tn_), .int (nI ia), .int (nI wl), .ref m10, .ref m11, .ref m12, .int (nI si), .ref m13, .ref m14])), (m2, .inl (eI g, 49, .inl (fun j => nI ((updN (cutN S (prt (tlS S) (lpB S) (fd 0) (fd 1)) 40) 48 (S 48 + 1)) j)))), (m4, .inl (eI g, 41, .inl O9_5)), (m5, .inl (eI g, 9, .inl (fun j => nI (Y9_5 j)))), (m6, .inl (eI g, 9, .inl (fun j => nI (Z9_5 j)))), (m13, .inl (eI g, 3, .inl (fun j => nI (fd j))))] H := hP
            have hD : va_D A [(m0, .inr (5, [.ref m1, .ref m2, .ref m3, .int (nI kp), .ref m4, .ref m5, .ref m6, .ref m7, .ref m8, .int (nI rn), .ref m9, .int (nI tn_), .int (nI ia), .int (nI wl), .ref m10, .ref m11, .ref m12, .int (nI si), .ref m13, .ref m14])), (m2, .inl (eI g, 49, .inl (fun j => nI ((updN (cutN S (prt (tlS S) (lpB S) (fd 0) (fd 1)) 40) 48 (S 48 + 1)) j)))), (m4, .inl (eI g, 41, .inl O9_5)), (m5, .inl (eI g, 9, .inl (fun j => nI (Y9_5 j)))), (m6, .inl (eI g, 9, .inl (fun j => nI (Z9_5 j)))), (m13, .inl (eI g, 3, .inl (fun j => nI (fd j))))] := hD
            refine lv_iconst (v := (nI 1)) hx hb dX5_takes_328 (by decide) ?_
            exact rtZ F hP hD hS dX5_takes_329 (rfl) (⟨_, _, _, _, congrArg nI (if_pos (by rw [hri]; unfold effB; rw [if_neg (by decide), if_neg (by decide), if_neg (by decide), if_neg (by decide), if_neg (by decide)]; exact decide_eq_true ⟨by omega, by omega, c312⟩)).symm, rfl, fun _ => by rw [hri]; unfold effS; rw [if_neg (by decide), if_neg (by decide), if_neg (by decide), if_neg (by decide), if_neg (by decide)]⟩)
          · skip
            refine lv_iconst (v := (nI 0)) hx hb dX5_takes_315 (by decide) ?_
            exact rtZ F hP hD hS dX5_takes_316 (rfl) (⟨_, _, _, _, congrArg nI (if_neg (by rw [hri]; unfold effB; rw [if_neg (by decide), if_neg (by decide), if_neg (by decide), if_neg (by decide), if_neg (by decide)]; exact fun q => by have z := of_decide_eq_true q; exact c312 z.2.2)).symm, rfl, fun q => absurd q (by rw [hri]; unfold effB; rw [if_neg (by decide), if_neg (by decide), if_neg (by decide), if_neg (by decide), if_neg (by decide)]; exact fun q => by have z := of_decide_eq_true q; exact c312 z.2.2)⟩)
