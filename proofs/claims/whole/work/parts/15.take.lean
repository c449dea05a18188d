theorem inX2_layFrom_X2 : ∀ w ∈ u_ws RX2 TX2 5, w ∈ wsX2_layFrom := fun _ h => (List.mem_cons_of_mem _ (List.mem_append_left _ (List.mem_append_left _ (List.mem_append_right _ h))))
theorem lkX2_layFrom_1 : Cond.fieldLink RX2 26 "StripInFiveSteps$Strips" "kindAt" "I" ∈ wsX2_layFrom := List.mem_of_getElem? (i := 1) rfl
theorem lkX2_layFrom_3 : Cond.fieldLink RX2 22 "StripInFiveSteps$Strips" "strip" "LStripInFiveSteps$Strip;" ∈ wsX2_layFrom := List.mem_of_getElem? (i := 3) rfl
theorem inX2_layFrom_X0 : ∀ w ∈ u_ws RX0 TX0 5, w ∈ wsX2_layFrom := fun _ h => (List.mem_cons_of_mem _ (List.mem_append_left _ (List.mem_append_right _ h)))
theorem lkX2_layFrom_4 : Cond.fieldLink RX2 37 "StripInFiveSteps$Shed" "eyeKind" "I" ∈ wsX2_layFrom := List.mem_of_getElem? (i := 4) rfl
theorem lkX2_layFrom_5 : Cond.fieldLink RX2 42 "StripInFiveSteps$Shed" "numbers" "[I" ∈ wsX2_layFrom := List.mem_of_getElem? (i := 5) rfl
theorem lkX2_layFrom_2 : Cond.fieldLink RX2 11 "StripInFiveSteps$Strips" "told" "[J" ∈ wsX2_layFrom := List.mem_of_getElem? (i := 2) rfl
theorem kX2_layFrom : Cal yX2_layFrom wsX2_layFrom cX2_layFrom 7 none 3 := ⟨⟨_, rfl⟩, by decide +kernel⟩
set_option maxHeartbeats 4000000 in
set_option maxRecDepth 100000 in
theorem c_X2_layFrom (l : Launch) (g : EE) (a0 : Nat) (a1 : Nat) (a2 : Nat) (a3 : Nat) (a4 : Nat) (a5 : Nat) (T : Nat → Int64) (ka : Nat) (q : Nat → Nat) (n : Nat) (h0 : Nat) (h1 : Nat) (h2 : Nat) (W : Nat → Nat) (B : Nat → Nat) (sk : Nat) (ek : Nat) (tr : Nat) (kd : Nat) (v : Nat) (hB : okB B) (hek : ek ≤ 4) (hkd : kd ≤ 3) (hka : ka ≤ 1107) (hv1 : 1 ≤ v) (hv : v ≤ 40) : CV l yX2_layFrom wsX2_layFrom ({ frames := 3, cells := 0, slots := 0, locals := 72 }) g [.ref a0, .ref h0, .int (nI kd), .int (nI v)] [(a0, .inr (2, [.ref a1, .ref a2, .ref a3, .int (nI ka), .ref a5])), (a1, .inl (eJ g, 1476, .inr (.inl T))), (a3, .inr (1, [.ref a4, .int (nI n)])), (a4, .inl (eI g, 7, .inl (fun j => nI (q j)))), (h0, .inr (0, [.ref h1, .ref h2, .int (nI sk), .int (nI ek), .int (nI tr)])), (h1, .inl (eI g, 41, .inl (fun j => nI (W j)))), (h2, .inl (eI g, 5, .inl (fun j => nI (B j))))] (fun (wz : va_W) => wz = [(a0, .inr (2, [.ref a1, .ref a2, .ref a3, .int (nI ka), .ref a5])), (a1, .inl (eJ g, 1476, .inr (.inl (lyT T (ka + v * 9) (fun v r => tl (B 0) (B 1) (B 2) kd ek v r) v 40)))), (a3, .inr (1, [.ref a4, .int (nI (B 0))])), (a4, .inl (eI g, 7, .inl (fun j => nI ((layQ kd (B 0) (B 1) v q (B 0)) j)))), (h0, .inr (0, [.ref h1, .ref h2, .int (nI sk), .int (nI ek), .int (nI tr)])), (h1, .inl (eI g, 41, .inl (fun j => nI (W j)))), (h2, .inl (eI g, 5, .inl (fun j => nI (B j))))]) 0 0 := by
  refine ctV (cc := cX2_layFrom) (maxL := 7) (ret := none) (by decide) rfl (Nat.le_of_ble_eq_true rfl) ?_
  intro p_ e_ s_ m_ bl_ mt_ cd_ A ls F hnm hP hD hS hl
  obtain ⟨hx, hb, hml, hown, hts, hK, hX, hA, hrt_, hlocks⟩ := id F
  have hl : lv_has ls 7 [(0, .ref a0), (1, .ref h0), (2, .int (nI kd)), (3, .int (nI v))] := hl
  obtain ⟨hb0, hb1, hb2, hb3, hb4, hb5⟩ := okB_b hB
  refine lv_aload_n hx hb dX2_layFrom_0 rfl (lv_at hl 0 rfl) ?_
  refine xget F hP inX2_layFrom_X2 0 rfl rfl 3 (by decide) lkX2_layFrom_1 rfl dX2_layFrom_1 ?_
  refine lv_iload_n hx hb dX2_layFrom_4 rfl (lv_at hl 3 rfl) ?_
  refine lv_bipush (v := (nI 9)) hx hb dX2_layFrom_5 (by decide) ?_
  refine xmul hx hb dX2_layFrom_7 ?_
  refine xadd hx hb dX2_layFrom_8 ?_
  refine lv_istore (lv' := [(4, .int (nI (ka + (v * 9)))), (0, .ref a0), (1, .ref h0), (2, .int (nI kd)), (3, .int (nI v))]) hx hb dX2_layFrom_9 hl (by decide) rfl (fun ls hl => ?_)
  refine lv_iconst (v := (nI 0)) hx hb dX2_layFrom_11 (by decide) ?_
  refine lv_istore (lv' := [(5, .int (nI 0)), (4, .int (nI (ka + (v * 9)))), (0, .ref a0), (1, .ref h0), (2, .int (nI kd)), (3, .int (nI v))]) hx hb dX2_layFrom_12 hl (by decide) rfl (fun ls hl => ?_)
  refine xlo (σ := Nat × (Nat → Int64)) 7 (fun xz_ => (fun (k : Nat) (T1 : Nat → Int64) => [(0, .ref a0), (1, .ref h0), (2, .int (nI kd)), (3, .int (nI v)), (4, .int (nI (ka + v * 9))), (5, .int (nI k))]) xz_.1 xz_.2) (fun xz_ => (fun (k : Nat) (T1 : Nat → Int64) => [(a0, .inr (2, [.ref a1, .ref a2, .ref a3, .int (nI ka), .ref a5])), (a1, .inl (eJ g, 1476, .inr (.inl T1))), (a3, .inr (1, [.ref a4, .int (nI n)])), (a4, .inl (eI g, 7, .inl (fun j => nI (q j)))), (h0, .inr (0, [.ref h1, .ref h2, .int (nI sk), .int (nI ek), .int (nI tr)])), (h1, .inl (eI g, 41, .inl (fun j => nI (W j)))), (h2, .inl (eI g, 5, .inl (fun j => nI (B j))))]) xz_.1 xz_.2) (fun xz_ => (fun (k : Nat) (T1 : Nat → Int64) => T1 = zrT T (ka + v * 9) k ∧ k ≤ 9) xz_.1 xz_.2) (fun xz_ => (fun (k : Nat) (T1 : Nat → Int64) => 9 - k) xz_.1 xz_.2) (fun xz_ hI ih14 H locs ls hP hD hS hl => ?_) (0, T) (show T = zrT T (ka + v * 9) 0 ∧ 0 ≤ 9 from (⟨zrT_0.symm, by omega⟩)) hP hD hS (lv_sub hl [2, 3, 4, 5, 1, 0] rfl)
  obtain ⟨k, T1⟩ := xz_
  have hP : va_P (eD g) vwCl [(a0, .inr (2, [.ref a1, .ref a2, .ref a3, .int (nI ka), .ref a5])), (a1, .inl (eJ g, 1476, .inr (.inl T1))), (a3, .inr (1, [.ref a4, .int (nI n)])), (a4, .inl (eI g, 7, .inl (fun j => nI (q j)))), (h0, .inr (0, [.ref h1, .ref h2, .int (nI sk), .int (nI ek), .int (nI tr)])), (h1, .inl (eI g, 41, .inl (fun j => nI (W j)))), (h2, .inl (eI g, 5, .inl (fun j => nI (B j))))] H := hP
  have hD : va_D A [(a0, .inr (2, [.ref a1, .ref a2, .ref a3, .int (nI ka), .ref a5])), (a1, .inl (eJ g, 1476, .inr (.inl T1))), (a3, .inr (1, [.ref a4, .int (nI n)])), (a4, .inl (eI g, 7, .inl (fun j => nI (q j)))), (h0, .inr (0, [.ref h1, .ref h2, .int (nI sk), .int (nI ek), .int (nI tr)])), (h1, .inl (eI g, 41, .inl (fun j => nI (W j)))), (h2, .inl (eI g, 5, .inl (fun j => nI (B j))))] := hD
  have hl : lv_has ls 7 [(0, .ref a0), (1, .ref h0), (2, .int (nI kd)), (3, .int (nI v)), (4, .int (nI (ka + v * 9))), (5, .int (nI k))] := hl
  have hI14 : T1 = zrT T (ka + v * 9) k ∧ k ≤ 9 := hI
  clear hI
  obtain ⟨hT1, hk⟩ := id hI14
  refine lv_iload hx hb dX2_layFrom_14 (lv_at hl 5 rfl) ?_
  refine lv_bipush (v := (nI 9)) hx hb dX2_layFrom_16 (by decide) ?_
  refine xge (tgt := 38) hx hb dX2_layFrom_18 (by decide) (by omega) (by omega) (fun c18 => ?_) (fun c18 => ?_)
  · skip
    refine lv_aload_n hx hb dX2_layFrom_38 rfl (lv_at hl 0 rfl) ?_
    refine xget F hP inX2_layFrom_X2 0 rfl rfl 2 (by decide) lkX2_layFrom_3 rfl dX2_layFrom_39 ?_
    refine lv_aload_n hx hb dX2_layFrom_42 rfl (lv_at hl 1 rfl) ?_
    refine lv_iload_n hx hb dX2_layFrom_43 rfl (lv_at hl 2 rfl) ?_
    refine lv_iload_n hx hb dX2_layFrom_44 rfl (lv_at hl 3 rfl) ?_
    refine cVV (As := [.ref h0, .int (nI kd), .int (nI v)]) (rest := []) F (c_X1_lay l g a3 a4 h0 h1 h2 q n B sk ek tr kd v (hkd) (hv) (by omega) (by omega) (by omega)) kX1_lay rfl gX2_layFrom_X1_lay rfl rfl ⟨Nat.le_of_ble_eq_true rfl, Nat.le_of_ble_eq_true rfl⟩ hP hD hS [2, 3, 4, 6] [0, 1, 5] rfl rfl 0 rfl rfl hl.1 rfl rfl (Nat.le_of_ble_eq_true rfl) dX2_layFrom_45 ⟨Nat.le_of_ble_eq_true rfl, Nat.le_of_ble_eq_true rfl⟩ (fun w1 H locs hpo hP hD hS => ?_)
    subst hpo
    obtain ⟨hP, hD⟩ := nx (ws' := [(a0, .inr (2, [.ref a1, .ref a2, .ref a3, .int (nI ka), .ref a5])), (a1, .inl (eJ g, 1476, .inr (.inl T1))), (a3, .inr (1, [.ref a4, .int (nI (B 0))])), (a4, .inl (eI g, 7, .inl (fun j => nI ((layQ kd (B 0) (B 1) v q (B 0)) j)))), (h0, .inr (0, [.ref h1, .ref h2, .int (nI sk), .int (nI ek), .int (nI tr)])), (h1, .inl (eI g, 41, .inl (fun j => nI (W j)))), (h2, .inl (eI g, 5, .inl (fun j => nI (B j))))]) hP hD [0, 1, 3, 4, 5, 2, 6] (ndB_ok _ rfl) rfl
    refine lv_iconst (v := (nI 1)) hx hb dX2_layFrom_48 (by decide) ?_
    refine lv_istore (lv' := [(5, .int (nI 1)), (0, .ref a0), (1, .ref h0), (2, .int (nI kd)), (3, .int (nI v)), (4, .int (nI (ka + v * 9)))]) hx hb dX2_layFrom_49 hl (by decide) rfl (fun ls hl => ?_)
    refine xlo (σ := Nat × (Nat → Int64)) 7 (fun xz_ => (fun (i : Nat) (T2 : Nat → Int64) => [(0, .ref a0), (1, .ref h0), (2, .int (nI kd)), (3, .int (nI v)), (4, .int (nI (ka + v * 9))), (5, .int (nI i))]) xz_.1 xz_.2) (fun xz_ => (fun (i : Nat) (T2 : Nat → Int64) => [(a0, .inr (2, [.ref a1, .ref a2, .ref a3, .int (nI ka), .ref a5])), (a1, .inl (eJ g, 1476, .inr (.inl T2))), (a3, .inr (1, [.ref a4, .int (nI (B 0))])), (a4, .inl (eI g, 7, .inl (fun j => nI ((layQ kd (B 0) (B 1) v q (B 0)) j)))), (h0, .inr (0, [.ref h1, .ref h2, .int (nI sk), .int (nI ek), .int (nI tr)])), (h1, .inl (eI g, 41, .inl (fun j => nI (W j)))), (h2, .inl (eI g, 5, .inl (fun j => nI (B j))))]) xz_.1 xz_.2) (fun xz_ => (fun (i : Nat) (T2 : Nat → Int64) => T2 = lyT T (ka + v * 9) (fun v r => tl (B 0) (B 1) (B 2) kd ek v r) v (i - 1) ∧ 1 ≤ i ∧ i ≤ 41) xz_.1 xz_.2) (fun xz_ => (fun (i : Nat) (T2 : Nat → Int64) => 41 - i) xz_.1 xz_.2) (fun xz_ hI ih51 H locs ls hP hD hS hl => ?_) (1, T1) (show T1 = lyT T (ka + v * 9) (fun v r => tl (B 0) (B 1) (B 2) kd ek v r) v (1 - 1) ∧ 1 ≤ 1 ∧ 1 ≤ 41 from (⟨by rw [hT1, show k = 9 by omega]; exact lyT_0, by omega, by omega⟩)) hP hD hS (lv_sub hl [1, 2, 3, 4, 5, 0] rfl)
    obtain ⟨i, T2⟩ := xz_
    have hP : va_P (eD g) vwCl [(a0, .inr (2, [.ref a1, .ref a2, .ref a3, .int (nI ka), .ref a5])), (a1, .inl (eJ g, 1476, .inr (.inl T2))), (a3, .inr (1, [.ref a4, .int (nI (B 0))])), (a4, .inl (eI g, 7, .inl (fun j => nI ((layQ kd (B 0) (B 1) v q (B 0)) j)))), (h0, .inr (0, [.ref h1, .ref h2, .int (nI sk), .int (nI ek), .int (nI tr)])), (h1, .inl (eI g, 41, .inl (fun j => nI (W j)))), (h2, .inl (eI g, 5, .inl (fun j => nI (B j))))] H := hP
    have hD : va_D A [(a0, .inr (2, [.ref a1, .ref a2, .ref a3, .int (nI ka), .ref a5])), (a1, .inl (eJ g, 1476, .inr (.inl T2))), (a3, .inr (1, [.ref a4, .int (nI (B 0))])), (a4, .inl (eI g, 7, .inl (fun j => nI ((layQ kd (B 0) (B 1) v q (B 0)) j)))), (h0, .inr (0, [.ref h1, .ref h2, .int (nI sk), .int (nI ek), .int (nI tr)])), (h1, .inl (eI g, 41, .inl (fun j => nI (W j)))), (h2, .inl (eI g, 5, .inl (fun j => nI (B j))))] := hD
    have hl : lv_has ls 7 [(0, .ref a0), (1, .ref h0), (2, .int (nI kd)), (3, .int (nI v)), (4, .int (nI (ka + v * 9))), (5, .int (nI i))] := hl
    have hI51 : T2 = lyT T (ka + v * 9) (fun v r => tl (B 0) (B 1) (B 2) kd ek v r) v (i - 1) ∧ 1 ≤ i ∧ i ≤ 41 := hI
    clear hI
    obtain ⟨hT2, hi1, hi2⟩ := id hI51
    refine lv_iload hx hb dX2_layFrom_51 (lv_at hl 5 rfl) ?_
    refine lv_bipush (v := (nI 40)) hx hb dX2_layFrom_53 (by decide) ?_
    refine xgt (tgt := 114) hx hb dX2_layFrom_55 (by decide) (by omega) (by omega) (fun c55 => ?_) (fun c55 => ?_)
    · skip
      exact rtV F hP hD hS dX2_layFrom_114 (by rw [hT2, show i - 1 = 40 by omega])
    · skip
      refine lv_aload_n hx hb dX2_layFrom_58 rfl (lv_at hl 0 rfl) ?_
      refine xget F hP inX2_layFrom_X2 0 rfl rfl 2 (by decide) lkX2_layFrom_3 rfl dX2_layFrom_59 ?_
      refine lv_aload_n hx hb dX2_layFrom_62 rfl (lv_at hl 1 rfl) ?_
      refine xget F hP inX2_layFrom_X0 4 rfl rfl 3 (by decide) lkX2_layFrom_4 rfl dX2_layFrom_63 ?_
      refine lv_aload_n hx hb dX2_layFrom_66 rfl (lv_at hl 1 rfl) ?_
      refine xget F hP inX2_layFrom_X0 4 rfl rfl 1 (by decide) lkX2_layFrom_5 rfl dX2_layFrom_67 ?_
      refine lv_iconst (v := (nI 2)) hx hb dX2_layFrom_70 (by decide) ?_
      refine xald F hP 6 (v := (nI (B 2))) rfl (by omega) (by omega) rfl dX2_layFrom_71 ?_
      refine lv_iload hx hb dX2_layFrom_72 (lv_at hl 5 rfl) ?_
      refine cVI (As := [.int (nI ek), .int (nI (B 2)), .int (nI i)]) (rest := []) F (c_X1_tell l g a3 a4 (layQ kd (B 0) (B 1) v q (B 0)) (B 0) ek (B 2) i (by omega) (by omega) (layQ_b) (hek) (by omega) (by omega)) kX1_tell rfl gX2_layFrom_X1_tell rfl rfl ⟨Nat.le_of_ble_eq_true rfl, Nat.le_of_ble_eq_true rfl⟩ hP hD hS [2, 3] [0, 1, 4, 5, 6] rfl rfl 0 rfl rfl hl.1 rfl rfl (Nat.le_of_ble_eq_true rfl) dX2_layFrom_74 ⟨Nat.le_of_ble_eq_true rfl, Nat.le_of_ble_eq_true rfl⟩ (fun rz w1 H locs hpo hP hD hS => ?_)
      obtain ⟨rfl, rfl⟩ := hpo
      obtain ⟨hP, hD⟩ := nx (ws' := [(a0, .inr (2, [.ref a1, .ref a2, .ref a3, .int (nI ka), .ref a5])), (a1, .inl (eJ g, 1476, .inr (.inl T2))), (a3, .inr (1, [.ref a4, .int (nI (B 0))])), (a4, .inl (eI g, 7, .inl (fun j => nI ((layQ kd (B 0) (B 1) v q (B 0)) j)))), (h0, .inr (0, [.ref h1, .ref h2, .int (nI sk), .int (nI ek), .int (nI tr)])), (h1, .inl (eI g, 41, .inl (fun j => nI (W j)))), (h2, .inl (eI g, 5, .inl (fun j => nI (B j))))]) hP hD [0, 1, 5, 6, 2, 3, 4] (ndB_ok _ rfl) rfl
      refine sti (congrArg nI (show tellQ (layQ kd (B 0) (B 1) v q (B 0)) (B 0) ek (B 2) i = tl (B 0) (B 1) (B 2) kd ek v i from tell_lay (by omega))) ?_
      have htb := tl9 (nb := B 0) (st := B 1) (fg := B 2) (sk := kd) (ek := ek) (v := v) (r := i) (by omega) (by omega)
      refine lv_istore (lv' := [(6, .int (nI (tl (B 0) (B 1) (B 2) kd ek v i))), (0, .ref a0), (1, .ref h0), (2, .int (nI kd)), (3, .int (nI v)), (4, .int (nI (ka + v * 9))), (5, .int (nI i))]) hx hb dX2_layFrom_77 hl (by decide) rfl (fun ls hl => ?_)
      refine lv_iload hx hb dX2_layFrom_79 (lv_at hl 0 rfl) ?_
      refine zlt (tgt := 108) hx hb dX2_layFrom_81 (by decide) (by omega) ?_
      refine lv_iload hx hb dX2_layFrom_84 (lv_at hl 0 rfl) ?_
      refine lv_bipush (v := (nI 9)) hx hb dX2_layFrom_86 (by decide) ?_
      refine xge (tgt := 108) hx hb dX2_layFrom_88 (by decide) (by omega) (by omega) (fun c88 => ?_) (fun c88 => ?_)
      · skip
        refine lv_iinc (v := (nI (i + 1))) (lv' := [(5, .int (nI (i + 1))), (6, .int (nI (tl (B 0) (B 1) (B 2) kd ek v i))), (0, .ref a0), (1, .ref h0), (2, .int (nI kd)), (3, .int (nI v)), (4, .int (nI (ka + v * 9)))]) hx hb dX2_layFrom_108 hl (k := 6) rfl (iincP i 1) (by decide) rfl (fun ls hl => ?_)
        refine lv_goto (tgt := 51) hx hb dX2_layFrom_111 (by decide) ?_
        exact ih51 (i + 1, T2) (show T2 = lyT T (ka + v * 9) (fun v r => tl (B 0) (B 1) (B 2) kd ek v r) v ((i + 1) - 1) ∧ 1 ≤ (i + 1) ∧ (i + 1) ≤ 41 from ((by exfalso; omega))) (show 41 - (i + 1) < 41 - i from (by omega)) _ _ _ hP hD hS (lv_sub hl [2, 3, 4, 5, 6, 0] rfl)
      · skip
        refine lv_aload_n hx hb dX2_layFrom_91 rfl (lv_at hl 1 rfl) ?_
        refine xget F hP inX2_layFrom_X2 0 rfl rfl 0 (by decide) lkX2_layFrom_2 rfl dX2_layFrom_92 ?_
        refine lv_iload hx hb dX2_layFrom_95 (lv_at hl 5 rfl) ?_
        refine lv_iload hx hb dX2_layFrom_97 (lv_at hl 0 rfl) ?_
        refine xadd hx hb dX2_layFrom_99 ?_
        refine lv_dup2_11 hx hb dX2_layFrom_100 rfl rfl ?_
        refine xlald F hP 1 (v := (T2 ((ka + v * 9) + (tl (B 0) (B 1) (B 2) kd ek v i)))) rfl (by omega) (by omega) rfl dX2_layFrom_101 ?_
        refine lv_lconst (v := lN 1) hx hb dX2_layFrom_102 rfl ?_
        refine lv_iload hx hb dX2_layFrom_103 (lv_at hl 6 rfl) ?_
        refine lv_lshl hx hb dX2_layFrom_105 rfl ?_
        refine lv_lor hx hb dX2_layFrom_106 ?_
        refine xlast F hP hD hS 1 (f' := (vp_updL T2 ((ka + v * 9) + (tl (B 0) (B 1) (B 2) kd ek v i)) ((T2 ((ka + v * 9) + (tl (B 0) (B 1) (B 2) kd ek v i))) ||| ((lN 1) <<< (((nI i)).toInt64 &&& 63))))) rfl (by omega) (by omega) rfl dX2_layFrom_107 (fun H locs hP hD hS => ?_)
        have hP : va_P (eD g) vwCl [(a0, .inr (2, [.ref a1, .ref a2, .ref a3, .int (nI ka), .ref a5])), (a1, .inl (eJ g, 1476, .inr (.inl (vp_updL T2 ((ka + v * 9) + (tl (B 0) (B 1) (B 2) kd ek v i)) ((T2 ((ka + v * 9) + (tl (B 0) (B 1) (B 2) kd ek v i))) ||| ((lN 1) <<< (((nI i)).toInt64 &&& 63))))))), (a3, .inr (1, [.ref a4, .int (nI (B 0))])), (a4, .inl (eI g, 7, .inl (fun j => nI ((layQ kd (B 0) (B 1) v q (B 0)) j)))), (h0, .inr (0, [.ref h1, .ref h2, .int (nI sk), .int (nI ek), .int (nI tr)])), (h1, .inl (eI g, 41, .inl (fun j => nI (W j)))), (h2, .inl (eI g, 5, .inl (fun j => nI (B j))))] H := hP
        have hD : va_D A [(a0, .inr (2, [.ref a1, .ref a2, .ref a3, .int (nI ka), .ref a5])), (a1, .inl (eJ g, 1476, .inr (.inl (vp_updL T2 ((ka + v * 9) + (tl (B 0) (B 1) (B 2) kd ek v i)) ((T2 ((ka + v * 9) + (tl (B 0) (B 1) (B 2) kd ek v i))) ||| ((lN 1) <<< (((nI i)).toInt64 &&& 63))))))), (a3, .inr (1, [.ref a4, .int (nI (B 0))])), (a4, .inl (eI g, 7, .inl (fun j => nI ((layQ kd (B 0) (B 1) v q (B 0)) j)))), (h0, .inr (0, [.ref h1, .ref h2, .int (nI sk), .int (nI ek), .int (nI tr)])), (h1, .inl (eI g, 41, .inl (fun j => nI (W j)))), (h2, .inl (eI g, 5, .inl (fun j => nI (B j))))] := hD
        refine lv_iinc (v := (nI (i + 1))) (lv' := [(5, .int (nI (i + 1))), (6, .int (nI (tl (B 0) (B 1) (B 2) kd ek v i))), (0, .ref a0), (1, .ref h0), (2, .int (nI kd)), (3, .int (nI v)), (4, .int (nI (ka + v * 9)))]) hx hb dX2_layFrom_108 hl (k := 6) rfl (iincP i 1) (by decide) rfl (fun ls hl => ?_)
        refine lv_goto (tgt := 51) hx hb dX2_layFrom_111 (by decide) ?_
        exact ih51 (i + 1, (vp_updL T2 ((ka + v * 9) + (tl (B 0) (B 1) (B 2) kd ek v i)) ((T2 ((ka + v * 9) + (tl (B 0) (B 1) (B 2) kd ek v i))) ||| ((lN 1) <<< (((nI i)).toInt64 &&& 63))))) (show (vp_updL T2 ((ka + v * 9) + (tl (B 0) (B 1) (B 2) kd ek v i)) ((T2 ((ka + v * 9) + (tl (B 0) (B 1) (B 2) kd ek v i))) ||| ((lN 1) <<< (((nI i)).toInt64 &&& 63)))) = lyT T (ka + v * 9) (fun v r => tl (B 0) (B 1) (B 2) kd ek v r) v ((i + 1) - 1) ∧ 1 ≤ (i + 1) ∧ (i + 1) ≤ 41 from (⟨by rw [hT2]; exact lyT_step (t := (fun v r => tl (B 0) (B 1) (B 2) kd ek v r)) (by omega) htb, by omega, by omega⟩)) (show 41 - (i + 1) < 41 - i from (by omega)) _ _ _ hP hD hS (lv_sub hl [2, 3, 4, 5, 6, 0] rfl)
  · skip
    refine lv_aload_n hx hb dX2_layFrom_21 rfl (lv_at hl 0 rfl) ?_
    refine xget F hP inX2_layFrom_X2 0 rfl rfl 0 (by decide) lkX2_layFrom_2 rfl dX2_layFrom_22 ?_
    refine lv_iload hx hb dX2_layFrom_25 (lv_at hl 4 rfl) ?_
    refine lv_iload hx hb dX2_layFrom_27 (lv_at hl 5 rfl) ?_
    refine xadd hx hb dX2_layFrom_29 ?_
    refine lv_lconst (v := lN 0) hx hb dX2_layFrom_30 rfl ?_
    refine xlast F hP hD hS 1 (f' := (vp_updL T1 ((ka + v * 9) + k) (lN 0))) rfl (by omega) (by omega) rfl dX2_layFrom_31 (fun H locs hP hD hS => ?_)
    have hP : va_P (eD g) vwCl [(a0, .inr (2, [.ref a1, .ref a2, .ref a3, .int (nI ka), .ref a5])), (a1, .inl (eJ g, 1476, .inr (.inl (vp_updL T1 ((ka + v * 9) + k) (lN 0))))), (a3, .inr (1, [.ref a4, .int (nI n)])), (a4, .inl (eI g, 7, .inl (fun j => nI (q j)))), (h0, .inr (0, [.ref h1, .ref h2, .int (nI sk), .int (nI ek), .int (nI tr)])), (h1, .inl (eI g, 41, .inl (fun j => nI (W j)))), (h2, .inl (eI g, 5, .inl (fun j => nI (B j))))] H := hP
    have hD : va_D A [(a0, .inr (2, [.ref a1, .ref a2, .ref a3, .int (nI ka), .ref a5])), (a1, .inl (eJ g, 1476, .inr (.inl (vp_updL T1 ((ka + v * 9) + k) (lN 0))))), (a3, .inr (1, [.ref a4, .int (nI n)])), (a4, .inl (eI g, 7, .inl (fun j => nI (q j)))), (h0, .inr (0, [.ref h1, .ref h2, .int (nI sk), .int (nI ek), .int (nI tr)])), (h1, .inl (eI g, 41, .inl (fun j => nI (W j)))), (h2, .inl (eI g, 5, .inl (fun j => nI (B j))))] := hD
    refine lv_iinc (v := (nI (k + 1))) (lv' := [(5, .int (nI (k + 1))), (0, .ref a0), (1, .ref h0), (2, .int (nI kd)), (3, .int (nI v)), (4, .int (nI (ka + v * 9)))]) hx hb dX2_layFrom_32 hl (k := 5) rfl (iincP k 1) (by decide) rfl (fun ls hl => ?_)
    refine lv_goto (tgt := 14) hx hb dX2_layFrom_35 (by decide) ?_
    exact ih14 (k + 1, (vp_updL T1 ((ka + v * 9) + k) (lN 0))) (show (vp_updL T1 ((ka + v * 9) + k) (lN 0)) = zrT T (ka + v * 9) (k + 1) ∧ (k + 1) ≤ 9 from (⟨by rw [hT1]; exact zrT_step, by omega⟩)) (show 9 - (k + 1) < 9 - k from (by omega)) _ _ _ hP hD hS (lv_sub hl [1, 2, 3, 4, 5, 0] rfl)

theorem lkX2_take_6 : Cond.initialized RX4 ∈ wsX2_take := List.mem_of_getElem? (i := 6) rfl
theorem lkX2_take_5 : Cond.static yX4_isStripKind ∈ wsX2_take := List.mem_of_getElem? (i := 5) rfl
theorem inX2_take_X2 : ∀ w ∈ u_ws RX2 TX2 5, w ∈ wsX2_take := fun _ h => (List.mem_cons_of_mem _ (List.mem_append_left _ (List.mem_append_left _ (List.mem_append_right _ h))))
theorem lkX2_take_1 : Cond.fieldLink RX2 26 "StripInFiveSteps$Strips" "kindAt" "I" ∈ wsX2_take := List.mem_of_getElem? (i := 1) rfl
theorem inX2_take_X0 : ∀ w ∈ u_ws RX0 TX0 5, w ∈ wsX2_take := fun _ h => (List.mem_cons_of_mem _ (List.mem_append_left _ (List.mem_append_right _ h)))
theorem lkX2_take_2 : Cond.fieldLink RX2 37 "StripInFiveSteps$Shed" "eyeKind" "I" ∈ wsX2_take := List.mem_of_getElem? (i := 2) rfl
theorem lkX2_take_3 : Cond.fieldLink RX2 42 "StripInFiveSteps$Shed" "numbers" "[I" ∈ wsX2_take := List.mem_of_getElem? (i := 3) rfl
theorem lkX2_take_4 : Cond.fieldLink RX2 15 "StripInFiveSteps$Strips" "laidBy" "[I" ∈ wsX2_take := List.mem_of_getElem? (i := 4) rfl
theorem kX2_take : Cal yX2_take wsX2_take cX2_take 5 none 2 := ⟨⟨_, rfl⟩, by decide +kernel⟩
set_option maxHeartbeats 4000000 in
set_option maxRecDepth 100000 in
theorem c_X2_take (l : Launch) (g : EE) (a0 : Nat) (a1 : Nat) (a2 : Nat) (a3 : Nat) (a4 : Nat) (a5 : Nat) (T : Nat → Int64) (ka : Nat) (Lb : Nat → Nat) (q : Nat → Nat) (n : Nat) (h0 : Nat) (h1 : Nat) (h2 : Nat) (W : Nat → Nat) (B : Nat → Nat) (sk : Nat) (ek : Nat) (tr : Nat) (kd : Nat) (hC : Cch T Lb) (hB : okB B) (hek : ek ≤ 4) (hkd : kd ≤ 3) : CV l yX2_take wsX2_take ({ frames := 4, cells := 0, slots := 0, locals := 98 }) g [.ref a0, .ref h0, .int (nI kd)] [(a0, .inr (2, [.ref a1, .ref a2, .ref a3, .int (nI ka), .ref a5])), (a1, .inl (eJ g, 1476, .inr (.inl T))), (a2, .inl (eI g, 4, .inl (fun j => nI (Lb j)))), (a3, .inr (1, [.ref a4, .int (nI n)])), (a4, .inl (eI g, 7, .inl (fun j => nI (q j)))), (h0, .inr (0, [.ref h1, .ref h2, .int (nI sk), .int (nI ek), .int (nI tr)])), (h1, .inl (eI g, 41, .inl (fun j => nI (W j)))), (h2, .inl (eI g, 5, .inl (fun j => nI (B j))))] (fun (wz : va_W) => ∃ T9 : Nat → Int64, ∃ Lb9 : Nat → Nat, ∃ q9 : Nat → Nat, ∃ n9 : Nat, wz = [(a0, .inr (2, [.ref a1, .ref a2, .ref a3, .int (nI (kd * 369)), .ref a5])), (a1, .inl (eJ g, 1476, .inr (.inl T9))), (a2, .inl (eI g, 4, .inl (fun j => nI (Lb9 j)))), (a3, .inr (1, [.ref a4, .int (nI n9)])), (a4, .inl (eI g, 7, .inl (fun j => nI (q9 j)))), (h0, .inr (0, [.ref h1, .ref h2, .int (nI sk), .int (nI ek), .int (nI tr)])), (h1, .inl (eI g, 41, .inl (fun j => nI (W j)))), (h2, .inl (eI g, 5, .inl (fun j => nI (B j))))] ∧ Cch T9 Lb9 ∧ Rdy T9 (kd * 369) (fun v r => tl (B 0) (B 1) (B 2) kd ek v r)) 0 0 := by
  refine ctV (cc := cX2_take) (maxL := 5) (ret := none) (by decide) rfl (Nat.le_of_ble_eq_true rfl) ?_
  intro p_ e_ s_ m_ bl_ mt_ cd_ A ls F hnm hP hD hS hl
  obtain ⟨hx, hb, hml, hown, hts, hK, hX, hA, hrt_, hlocks⟩ := id F
  have hl : lv_has ls 5 [(0, .ref a0), (1, .ref h0), (2, .int (nI kd))] := hl
  obtain ⟨hb0, hb1, hb2, hb3, hb4, hb5⟩ := okB_b hB
  have hLb := (hC kd (by omega)).1
  have henc : encS ek (B 2) (B 1) (B 0) ≤ 5000 := by unfold encS; omega
  refine lv_iload_n hx hb dX2_take_0 rfl (lv_at hl 2 rfl) ?_
  refine cTI (As := [.int (nI kd)]) (rest := []) F (n_X4_isStripKind l g kd (by omega)) kX4_isStripKind ggX2_take_X4_isStripKind 7 rfl lkX2_take_6 lkX2_take_5 rfl rfl ⟨Nat.le_of_ble_eq_true rfl, Nat.le_of_ble_eq_true rfl⟩ hP hD hS [] [0, 1, 2, 3, 4, 5, 6, 7] rfl rfl hl.1 rfl rfl (Nat.le_of_ble_eq_true rfl) dX2_take_1 ⟨Nat.le_of_ble_eq_true rfl, Nat.le_of_ble_eq_true rfl⟩ (fun rz w1 H locs hpo hP hD hS => ?_)
  obtain ⟨rfl, rfl⟩ := hpo
  obtain ⟨hP, hD⟩ := nx (ws' := [(a0, .inr (2, [.ref a1, .ref a2, .ref a3, .int (nI ka), .ref a5])), (a1, .inl (eJ g, 1476, .inr (.inl T))), (a2, .inl (eI g, 4, .inl (fun j => nI (Lb j)))), (a3, .inr (1, [.ref a4, .int (nI n)])), (a4, .inl (eI g, 7, .inl (fun j => nI (q j)))), (h0, .inr (0, [.ref h1, .ref h2, .int (nI sk), .int (nI ek), .int (nI tr)])), (h1, .inl (eI g, 41, .inl (fun j => nI (W j)))), (h2, .inl (eI g, 5, .inl (fun j => nI (B j))))]) hP hD [0, 1, 2, 3, 4, 5, 6, 7] (ndB_ok _ rfl) rfl
  refine bqne (tgt := 8) hx hb dX2_take_4 (by decide) (fun c4 => ?_) (fun c4 => ?_)
  · skip
    refine lv_aload_n hx hb dX2_take_8 rfl (lv_at hl 0 rfl) ?_
    refine lv_iload_n hx hb dX2_take_9 rfl (lv_at hl 2 rfl) ?_
    refine lv_sipush (v := (nI 369)) hx hb dX2_take_10 (by decide) ?_
    refine xmul hx hb dX2_take_13 ?_
    refine xput F hP hD hS inX2_take_X2 tyX2 tyX2_ok nmX2 0 rfl rfl 3 (by decide) lkX2_take_1 rfl rfl rfl (Nat.le_of_ble_eq_true rfl) dX2_take_14 (fun H locs hP hD hS => ?_)
    have hP : va_P (eD g) vwCl [(a0, .inr (2, [.ref a1, .ref a2, .ref a3, .int (nI (kd * 369)), .ref a5])), (a1, .inl (eJ g, 1476, .inr (.inl T))), (a2, .inl (eI g, 4, .inl (fun j => nI (Lb j)))), (a3, .inr (1, [.ref a4, .int (nI n)])), (a4, .inl (eI g, 7, .inl (fun j => nI (q j)))), (h0, .inr (0, [.ref h1, .ref h2, .int (nI sk), .int (nI ek), .int (nI tr)])), (h1, .inl (eI g, 41, .inl (fun j => nI (W j)))), (h2, .inl (eI g, 5, .inl (fun j => nI (B j))))] H := hP
    have hD : va_D A [(a0, .inr (2, [.ref a1, .ref a2, .ref a3, .int (nI (kd * 369)), .ref a5])), (a1, .inl (eJ g, 1476, .inr (.inl T))), (a2, .inl (eI g, 4, .inl (fun j => nI (Lb j)))), (a3, .inr (1, [.ref a4, .int (nI n)])), (a4, .inl (eI g, 7, .inl (fun j => nI (q j)))), (h0, .inr (0, [.ref h1, .ref h2, .int (nI sk), .int (nI ek), .int (nI tr)])), (h1, .inl (eI g, 41, .inl (fun j => nI (W j)))), (h2, .inl (eI g, 5, .inl (fun j => nI (B j))))] := hD
    refine lv_aload_n hx hb dX2_take_17 rfl (lv_at hl 1 rfl) ?_
    refine xget F hP inX2_take_X0 5 rfl rfl 3 (by decide) lkX2_take_2 rfl dX2_take_18 ?_
    refine lv_istore_n (lv' := [(3, .int (nI ek)), (0, .ref a0), (1, .ref h0), (2, .int (nI kd))]) hx hb dX2_take_21 rfl hl (by decide) rfl (fun ls hl => ?_)
    refine lv_iload_n hx hb dX2_take_22 rfl (lv_at hl 0 rfl) ?_
    refine lv_bipush (v := (nI 10)) hx hb dX2_take_23 (by decide) ?_
    refine xmul hx hb dX2_take_25 ?_
    refine lv_aload_n hx hb dX2_take_26 rfl (lv_at hl 2 rfl) ?_
    refine xget F hP inX2_take_X0 5 rfl rfl 1 (by decide) lkX2_take_3 rfl dX2_take_27 ?_
    refine lv_iconst (v := (nI 2)) hx hb dX2_take_30 (by decide) ?_
    refine xald F hP 7 (v := (nI (B 2))) rfl (by omega) (by omega) rfl dX2_take_31 ?_
    refine xadd hx hb dX2_take_32 ?_
    refine lv_istore_n (lv' := [(3, .int (nI ((ek * 10) + (B 2)))), (0, .ref a0), (1, .ref h0), (2, .int (nI kd))]) hx hb dX2_take_33 rfl hl (by decide) rfl (fun ls hl => ?_)
    refine lv_iload_n hx hb dX2_take_34 rfl (lv_at hl 0 rfl) ?_
    refine lv_bipush (v := (nI 10)) hx hb dX2_take_35 (by decide) ?_
    refine xmul hx hb dX2_take_37 ?_
    refine lv_aload_n hx hb dX2_take_38 rfl (lv_at hl 2 rfl) ?_
    refine xget F hP inX2_take_X0 5 rfl rfl 1 (by decide) lkX2_take_3 rfl dX2_take_39 ?_
    refine lv_iconst (v := (nI 1)) hx hb dX2_take_42 (by decide) ?_
    refine xald F hP 7 (v := (nI (B 1))) rfl (by omega) (by omega) rfl dX2_take_43 ?_
    refine xadd hx hb dX2_take_44 ?_
    refine lv_istore_n (lv' := [(3, .int (nI ((((ek * 10) + (B 2)) * 10) + (B 1)))), (0, .ref a0), (1, .ref h0), (2, .int (nI kd))]) hx hb dX2_take_45 rfl hl (by decide) rfl (fun ls hl => ?_)
    refine lv_iload_n hx hb dX2_take_46 rfl (lv_at hl 0 rfl) ?_
    refine lv_bipush (v := (nI 10)) hx hb dX2_take_47 (by decide) ?_
    refine xmul hx hb dX2_take_49 ?_
    refine lv_aload_n hx hb dX2_take_50 rfl (lv_at hl 2 rfl) ?_
    refine xget F hP inX2_take_X0 5 rfl rfl 1 (by decide) lkX2_take_3 rfl dX2_take_51 ?_
    refine lv_iconst (v := (nI 0)) hx hb dX2_take_54 (by decide) ?_
    refine xald F hP 7 (v := (nI (B 0))) rfl (by omega) (by omega) rfl dX2_take_55 ?_
    refine xadd hx hb dX2_take_56 ?_
    refine sti (congrArg nI (show (((((ek * 10) + (B 2)) * 10) + (B 1)) * 10) + (B 0) = encS ek (B 2) (B 1) (B 0) from rfl)) ?_
    refine lv_istore_n (lv' := [(3, .int (nI (encS ek (B 2) (B 1) (B 0)))), (0, .ref a0), (1, .ref h0), (2, .int (nI kd))]) hx hb dX2_take_57 rfl hl (by decide) rfl (fun ls hl => ?_)
    refine lv_aload_n hx hb dX2_take_58 rfl (lv_at hl 1 rfl) ?_
    refine xget F hP inX2_take_X2 0 rfl rfl 1 (by decide) lkX2_take_4 rfl dX2_take_59 ?_
    refine lv_iload_n hx hb dX2_take_62 rfl (lv_at hl 3 rfl) ?_
    refine xald F hP 2 (v := (nI (Lb kd))) rfl (by omega) (by omega) rfl dX2_take_63 ?_
    refine lv_iload_n hx hb dX2_take_64 rfl (lv_at hl 0 rfl) ?_
    refine xne (tgt := 69) hx hb dX2_take_65 (by decide) (by omega) (by omega) (fun c65 => ?_) (fun c65 => ?_)
    · skip
      refine lv_aload_n hx hb dX2_take_69 rfl (lv_at hl 1 rfl) ?_
      refine xget F hP inX2_take_X2 0 rfl rfl 1 (by decide) lkX2_take_4 rfl dX2_take_70 ?_
      refine lv_iload_n hx hb dX2_take_73 rfl (lv_at hl 3 rfl) ?_
      refine lv_iload_n hx hb dX2_take_74 rfl (lv_at hl 0 rfl) ?_
      refine xast F hP hD hS 2 (f' := fun j => nI ((updN Lb kd (encS ek (B 2) (B 1) (B 0))) j)) rfl (by omega) (by omega) (upd_nI Lb kd (encS ek (B 2) (B 1) (B 0))) dX2_take_75 (fun H locs hP hD hS => ?_)
      have hP : va_P (eD g) vwCl [(a0, .inr (2, [.ref a1, .ref a2, .ref a3, .int (nI (kd * 369)), .ref a5])), (a1, .inl (eJ g, 1476, .inr (.inl T))), (a2, .inl (eI g, 4, .inl (fun j => nI ((updN Lb kd (encS ek (B 2) (B 1) (B 0))) j)))), (a3, .inr (1, [.ref a4, .int (nI n)])), (a4, .inl (eI g, 7, .inl (fun j => nI (q j)))), (h0, .inr (0, [.ref h1, .ref h2, .int (nI sk), .int (nI ek), .int (nI tr)])), (h1, .inl (eI g, 41, .inl (fun j => nI (W j)))), (h2, .inl (eI g, 5, .inl (fun j => nI (B j))))] H := hP
      have hD : va_D A [(a0, .inr (2, [.ref a1, .ref a2, .ref a3, .int (nI (kd * 369)), .ref a5])), (a1, .inl (eJ g, 1476, .inr (.inl T))), (a2, .inl (eI g, 4, .inl (fun j => nI ((updN Lb kd (encS ek (B 2) (B 1) (B 0))) j)))), (a3, .inr (1, [.ref a4, .int (nI n)])), (a4, .inl (eI g, 7, .inl (fun j => nI (q j)))), (h0, .inr (0, [.ref h1, .ref h2, .int (nI sk), .int (nI ek), .int (nI tr)])), (h1, .inl (eI g, 41, .inl (fun j => nI (W j)))), (h2, .inl (eI g, 5, .inl (fun j => nI (B j))))] := hD
      refine lv_iconst (v := (nI 1)) hx hb dX2_take_76 (by decide) ?_
      refine lv_istore (lv' := [(4, .int (nI 1)), (3, .int (nI (encS ek (B 2) (B 1) (B 0)))), (0, .ref a0), (1, .ref h0), (2, .int (nI kd))]) hx hb dX2_take_77 hl (by decide) rfl (fun ls hl => ?_)
      refine xlo (σ := Nat × (Nat → Int64) × (Nat → Nat) × Nat) 5 (fun xz_ => (fun (v : Nat) (T1 : Nat → Int64) (q1 : Nat → Nat) (n1 : Nat) => [(0, .ref a0), (1, .ref h0), (2, .int (nI kd)), (4, .int (nI v))]) xz_.1 xz_.2.1 xz_.2.2.1 xz_.2.2.2) (fun xz_ => (fun (v : Nat) (T1 : Nat → Int64) (q1 : Nat → Nat) (n1 : Nat) => [(a0, .inr (2, [.ref a1, .ref a2, .ref a3, .int (nI (kd * 369)), .ref a5])), (a1, .inl (eJ g, 1476, .inr (.inl T1))), (a2, .inl (eI g, 4, .inl (fun j => nI ((updN Lb kd (encS ek (B 2) (B 1) (B 0))) j)))), (a3, .inr (1, [.ref a4, .int (nI n1)])), (a4, .inl (eI g, 7, .inl (fun j => nI (q1 j)))), (h0, .inr (0, [.ref h1, .ref h2, .int (nI sk), .int (nI ek), .int (nI tr)])), (h1, .inl (eI g, 41, .inl (fun j => nI (W j)))), (h2, .inl (eI g, 5, .inl (fun j => nI (B j))))]) xz_.1 xz_.2.1 xz_.2.2.1 xz_.2.2.2) (fun xz_ => (fun (v : Nat) (T1 : Nat → Int64) (q1 : Nat → Nat) (n1 : Nat) => tkI T T1 kd (fun v_ r => tl (B 0) (B 1) (B 2) kd ek v_ r) v ∧ 1 ≤ v ∧ v ≤ 41) xz_.1 xz_.2.1 xz_.2.2.1 xz_.2.2.2) (fun xz_ => (fun (v : Nat) (T1 : Nat → Int64) (q1 : Nat → Nat) (n1 : Nat) => 41 - v) xz_.1 xz_.2.1 xz_.2.2.1 xz_.2.2.2) (fun xz_ hI ih79 H locs ls hP hD hS hl => ?_) (1, T, q, n) (show tkI T T kd (fun v_ r => tl (B 0) (B 1) (B 2) kd ek v_ r) 1 ∧ 1 ≤ 1 ∧ 1 ≤ 41 from (⟨⟨fun u k h1 h2 => by omega, fun _ _ => rfl⟩, by omega, by omega⟩)) hP hD hS (lv_sub hl [2, 3, 4, 0] rfl)
      obtain ⟨v, T1, q1, n1⟩ := xz_
      have hP : va_P (eD g) vwCl [(a0, .inr (2, [.ref a1, .ref a2, .ref a3, .int (nI (kd * 369)), .ref a5])), (a1, .inl (eJ g, 1476, .inr (.inl T1))), (a2, .inl (eI g, 4, .inl (fun j => nI ((updN Lb kd (encS ek (B 2) (B 1) (B 0))) j)))), (a3, .inr (1, [.ref a4, .int (nI n1)])), (a4, .inl (eI g, 7, .inl (fun j => nI (q1 j)))), (h0, .inr (0, [.ref h1, .ref h2, .int (nI sk), .int (nI ek), .int (nI tr)])), (h1, .inl (eI g, 41, .inl (fun j => nI (W j)))), (h2, .inl (eI g, 5, .inl (fun j => nI (B j))))] H := hP
      have hD : va_D A [(a0, .inr (2, [.ref a1, .ref a2, .ref a3, .int (nI (kd * 369)), .ref a5])), (a1, .inl (eJ g, 1476, .inr (.inl T1))), (a2, .inl (eI g, 4, .inl (fun j => nI ((updN Lb kd (encS ek (B 2) (B 1) (B 0))) j)))), (a3, .inr (1, [.ref a4, .int (nI n1)])), (a4, .inl (eI g, 7, .inl (fun j => nI (q1 j)))), (h0, .inr (0, [.ref h1, .ref h2, .int (nI sk), .int (nI ek), .int (nI tr)])), (h1, .inl (eI g, 41, .inl (fun j => nI (W j)))), (h2, .inl (eI g, 5, .inl (fun j => nI (B j))))] := hD
      have hl : lv_has ls 5 [(0, .ref a0), (1, .ref h0), (2, .int (nI kd)), (4, .int (nI v))] := hl
      have hI79 : tkI T T1 kd (fun v_ r => tl (B 0) (B 1) (B 2) kd ek v_ r) v ∧ 1 ≤ v ∧ v ≤ 41 := hI
      clear hI
      obtain ⟨hT1, hi1, hi2⟩ := id hI79
      refine lv_iload hx hb dX2_take_79 (lv_at hl 3 rfl) ?_
      refine lv_bipush (v := (nI 40)) hx hb dX2_take_81 (by decide) ?_
      refine xgt (tgt := 100) hx hb dX2_take_83 (by decide) (by omega) (by omega) (fun c83 => ?_) (fun c83 => ?_)
      · skip
        exact rtV F hP hD hS dX2_take_100 (⟨_, _, _, _, rfl, tkI_end hC (by omega) (by omega) (show v = 41 by omega ▸ hT1)⟩)
      · skip
        refine lv_aload_n hx hb dX2_take_86 rfl (lv_at hl 0 rfl) ?_
        refine lv_aload_n hx hb dX2_take_87 rfl (lv_at hl 1 rfl) ?_
        refine lv_iload_n hx hb dX2_take_88 rfl (lv_at hl 2 rfl) ?_
        refine lv_iload hx hb dX2_take_89 (lv_at hl 3 rfl) ?_
        refine cVV (As := [.ref h0, .int (nI kd), .int (nI v)]) (rest := []) F (c_X2_layFrom l g a0 a1 a2 a3 a4 a5 T1 (kd * 369) q1 n1 h0 h1 h2 W B sk ek tr kd v (hB) (hek) (hkd) (by omega) (by omega) (by omega)) kX2_layFrom rfl gX2_take_X2_layFrom rfl rfl ⟨Nat.le_of_ble_eq_true rfl, Nat.le_of_ble_eq_true rfl⟩ hP hD hS [0, 1, 3, 4, 5, 6, 7] [2] rfl rfl 0 rfl rfl hl.1 rfl rfl (Nat.le_of_ble_eq_true rfl) dX2_take_91 ⟨Nat.le_of_ble_eq_true rfl, Nat.le_of_ble_eq_true rfl⟩ (fun w1 H locs hpo hP hD hS => ?_)
        subst hpo
        obtain ⟨hP, hD⟩ := nx (ws' := [(a0, .inr (2, [.ref a1, .ref a2, .ref a3, .int (nI (kd * 369)), .ref a5])), (a1, .inl (eJ g, 1476, .inr (.inl (lyT T1 ((kd * 369) + v * 9) (fun v r => tl (B 0) (B 1) (B 2) kd ek v r) v 40)))), (a2, .inl (eI g, 4, .inl (fun j => nI ((updN Lb kd (encS ek (B 2) (B 1) (B 0))) j)))), (a3, .inr (1, [.ref a4, .int (nI (B 0))])), (a4, .inl (eI g, 7, .inl (fun j => nI ((layQ kd (B 0) (B 1) v q1 (B 0)) j)))), (h0, .inr (0, [.ref h1, .ref h2, .int (nI sk), .int (nI ek), .int (nI tr)])), (h1, .inl (eI g, 41, .inl (fun j => nI (W j)))), (h2, .inl (eI g, 5, .inl (fun j => nI (B j))))]) hP hD [1, 2, 0, 3, 4, 5, 6, 7] (ndB_ok _ rfl) rfl
        refine lv_iinc (v := (nI (v + 1))) (lv' := [(4, .int (nI (v + 1))), (0, .ref a0), (1, .ref h0), (2, .int (nI kd))]) hx hb dX2_take_94 hl (k := 3) rfl (iincP v 1) (by decide) rfl (fun ls hl => ?_)
        refine lv_goto (tgt := 79) hx hb dX2_take_97 (by decide) ?_
        exact ih79 (v + 1, (lyT T1 ((kd * 369) + v * 9) (fun v r => tl (B 0) (B 1) (B 2) kd ek v r) v 40), (layQ kd (B 0) (B 1) v q1 (B 0)), (B 0)) (show tkI T (lyT T1 ((kd * 369) + v * 9) (fun v r => tl (B 0) (B 1) (B 2) kd ek v r) v 40) kd (fun v_ r => tl (B 0) (B 1) (B 2) kd ek v_ r) (v + 1) ∧ 1 ≤ (v + 1) ∧ (v + 1) ≤ 41 from (⟨tkI_step (by omega) (by omega) hT1, by omega, by omega⟩)) (show 41 - (v + 1) < 41 - v from (by omega)) _ _ _ hP hD hS (lv_sub hl [1, 2, 3, 0] rfl)
    · skip
      exact rtV F hP hD hS dX2_take_68 (⟨T, Lb, q, n, rfl, hC, cch_hit hC (by omega) (by omega) (by omega) (by omega) (by omega) c65⟩)
  · skip
    exfalso; omega
