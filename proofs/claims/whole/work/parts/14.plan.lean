theorem lkX2_noteEnough_3 : Cond.initialized RX4 ∈ wsX2_noteEnough := List.mem_of_getElem? (i := 3) rfl
theorem lkX2_noteEnough_2 : Cond.static yX4_holds ∈ wsX2_noteEnough := List.mem_of_getElem? (i := 2) rfl
theorem inX2_noteEnough_X2 : ∀ w ∈ u_ws RX2 TX2 5, w ∈ wsX2_noteEnough := fun _ h => (List.mem_cons_of_mem _ (List.mem_append_right _ h))
theorem lkX2_noteEnough_1 : Cond.fieldLink RX2 30 "StripInFiveSteps$Strips" "enoughFor" "[I" ∈ wsX2_noteEnough := List.mem_of_getElem? (i := 1) rfl
theorem kX2_noteEnough : Cal yX2_noteEnough wsX2_noteEnough cX2_noteEnough 5 none 2 := ⟨⟨_, rfl⟩, by decide +kernel⟩
set_option maxHeartbeats 4000000 in
set_option maxRecDepth 100000 in
theorem c_X2_noteEnough (l : Launch) (g : EE) (a0 : Nat) (a1 : Nat) (a2 : Nat) (a3 : Nat) (a5 : Nat) (ka : Nat) (E : Nat → Int32) (x : Int64) (w : Int32)  : CV l yX2_noteEnough wsX2_noteEnough ({ frames := 1, cells := 0, slots := 0, locals := 22 }) g [.ref a0, .long x, .int w] [(a0, .inr (2, [.ref a1, .ref a2, .ref a3, .int (nI ka), .ref a5])), (a5, .inl (eI g, 41, .inl E))] (fun (wz : va_W) => wz = [(a0, .inr (2, [.ref a1, .ref a2, .ref a3, .int (nI ka), .ref a5])), (a5, .inl (eI g, 41, .inl (noteF E (bitL x) (fun _ => w) 40)))]) 0 0 := by
  refine ctV (cc := cX2_noteEnough) (maxL := 5) (ret := none) (by decide) rfl (Nat.le_of_ble_eq_true rfl) ?_
  intro p_ e_ s_ m_ bl_ mt_ cd_ A ls F hnm hP hD hS hl
  obtain ⟨hx, hb, hml, hown, hts, hK, hX, hA, hrt_, hlocks⟩ := id F
  have hl : lv_has ls 5 [(0, .ref a0), (1, .long x), (3, .int w)] := hl
  refine lv_iconst (v := (nI 1)) hx hb dX2_noteEnough_0 (by decide) ?_
  refine lv_istore (lv' := [(4, .int (nI 1)), (0, .ref a0), (1, .long x), (3, .int w)]) hx hb dX2_noteEnough_1 hl (by decide) rfl (fun ls hl => ?_)
  refine xlo (σ := Nat × (Nat → Int32)) 5 (fun xz_ => (fun (i : Nat) (D : Nat → Int32) => [(0, .ref a0), (1, .long x), (3, .int w), (4, .int (nI i))]) xz_.1 xz_.2) (fun xz_ => (fun (i : Nat) (D : Nat → Int32) => [(a0, .inr (2, [.ref a1, .ref a2, .ref a3, .int (nI ka), .ref a5])), (a5, .inl (eI g, 41, .inl D))]) xz_.1 xz_.2) (fun xz_ => (fun (i : Nat) (D : Nat → Int32) => D = noteF E (bitL x) (fun _ => w) (i - 1) ∧ 1 ≤ i ∧ i ≤ 41) xz_.1 xz_.2) (fun xz_ => (fun (i : Nat) (D : Nat → Int32) => 41 - i) xz_.1 xz_.2) (fun xz_ hI ih3 H locs ls hP hD hS hl => ?_) (1, E) (show E = noteF E (bitL x) (fun _ => w) (1 - 1) ∧ 1 ≤ 1 ∧ 1 ≤ 41 from (⟨note_0.symm, by omega, by omega⟩)) hP hD hS (lv_sub hl [1, 2, 3, 0] rfl)
  obtain ⟨i, D⟩ := xz_
  have hP : va_P (eD g) vwCl [(a0, .inr (2, [.ref a1, .ref a2, .ref a3, .int (nI ka), .ref a5])), (a5, .inl (eI g, 41, .inl D))] H := hP
  have hD : va_D A [(a0, .inr (2, [.ref a1, .ref a2, .ref a3, .int (nI ka), .ref a5])), (a5, .inl (eI g, 41, .inl D))] := hD
  have hl : lv_has ls 5 [(0, .ref a0), (1, .long x), (3, .int w), (4, .int (nI i))] := hl
  have hI3 : D = noteF E (bitL x) (fun _ => w) (i - 1) ∧ 1 ≤ i ∧ i ≤ 41 := hI
  clear hI
  obtain ⟨hD0, hi1, hi2⟩ := id hI3
  refine lv_iload hx hb dX2_noteEnough_3 (lv_at hl 3 rfl) ?_
  refine lv_bipush (v := (nI 40)) hx hb dX2_noteEnough_5 (by decide) ?_
  refine xgt (tgt := 33) hx hb dX2_noteEnough_7 (by decide) (by omega) (by omega) (fun c7 => ?_) (fun c7 => ?_)
  · skip
    exact rtV F hP hD hS dX2_noteEnough_33 (by rw [hD0, show i - 1 = 40 by omega])
  · skip
    refine lv_lload_n hx hb dX2_noteEnough_10 rfl (lv_at hl 1 rfl) ?_
    refine lv_iload hx hb dX2_noteEnough_11 (lv_at hl 3 rfl) ?_
    refine cTI (As := [.long x, .int (nI i)]) (rest := []) F (c_X4_holds l g x i (by omega)) kX4_holds ggX2_noteEnough_X4_holds 5 rfl lkX2_noteEnough_3 lkX2_noteEnough_2 rfl rfl ⟨Nat.le_of_ble_eq_true rfl, Nat.le_of_ble_eq_true rfl⟩ hP hD hS [] [0, 1] rfl rfl hl.1 rfl rfl (Nat.le_of_ble_eq_true rfl) dX2_noteEnough_13 ⟨Nat.le_of_ble_eq_true rfl, Nat.le_of_ble_eq_true rfl⟩ (fun rz w1 H locs hpo hP hD hS => ?_)
    obtain ⟨rfl, rfl⟩ := hpo
    obtain ⟨hP, hD⟩ := nx (ws' := [(a0, .inr (2, [.ref a1, .ref a2, .ref a3, .int (nI ka), .ref a5])), (a5, .inl (eI g, 41, .inl D))]) hP hD [0, 1] (ndB_ok _ rfl) rfl
    refine bqeq (tgt := 27) hx hb dX2_noteEnough_16 (by decide) (fun c16 => ?_) (fun c16 => ?_)
    · skip
      refine lv_iinc (v := (nI (i + 1))) (lv' := [(4, .int (nI (i + 1))), (0, .ref a0), (1, .long x), (3, .int w)]) hx hb dX2_noteEnough_27 hl (k := 3) rfl (iincP i 1) (by decide) rfl (fun ls hl => ?_)
      refine lv_goto (tgt := 3) hx hb dX2_noteEnough_30 (by decide) ?_
      exact ih3 (i + 1, D) (show D = noteF E (bitL x) (fun _ => w) ((i + 1) - 1) ∧ 1 ≤ (i + 1) ∧ (i + 1) ≤ 41 from (⟨by rw [hD0]; exact note_off (by omega) (by simpa using c16), by omega, by omega⟩)) (show 41 - (i + 1) < 41 - i from (by omega)) _ _ _ hP hD hS (lv_sub hl [1, 2, 3, 0] rfl)
    · skip
      refine lv_aload_n hx hb dX2_noteEnough_19 rfl (lv_at hl 0 rfl) ?_
      refine xget F hP inX2_noteEnough_X2 0 rfl rfl 4 (by decide) lkX2_noteEnough_1 rfl dX2_noteEnough_20 ?_
      refine lv_iload hx hb dX2_noteEnough_23 (lv_at hl 3 rfl) ?_
      refine lv_iload_n hx hb dX2_noteEnough_25 rfl (lv_at hl 2 rfl) ?_
      refine xast F hP hD hS 1 (f' := (upd D i w)) rfl (by omega) (by omega) (rfl) dX2_noteEnough_26 (fun H locs hP hD hS => ?_)
      have hP : va_P (eD g) vwCl [(a0, .inr (2, [.ref a1, .ref a2, .ref a3, .int (nI ka), .ref a5])), (a5, .inl (eI g, 41, .inl (upd D i w)))] H := hP
      have hD : va_D A [(a0, .inr (2, [.ref a1, .ref a2, .ref a3, .int (nI ka), .ref a5])), (a5, .inl (eI g, 41, .inl (upd D i w)))] := hD
      refine lv_iinc (v := (nI (i + 1))) (lv' := [(4, .int (nI (i + 1))), (0, .ref a0), (1, .long x), (3, .int w)]) hx hb dX2_noteEnough_27 hl (k := 3) rfl (iincP i 1) (by decide) rfl (fun ls hl => ?_)
      refine lv_goto (tgt := 3) hx hb dX2_noteEnough_30 (by decide) ?_
      exact ih3 (i + 1, (upd D i w)) (show (upd D i w) = noteF E (bitL x) (fun _ => w) ((i + 1) - 1) ∧ 1 ≤ (i + 1) ∧ (i + 1) ≤ 41 from (⟨by rw [hD0]; exact note_on (by omega) c16 rfl, by omega, by omega⟩)) (show 41 - (i + 1) < 41 - i from (by omega)) _ _ _ hP hD hS (lv_sub hl [1, 2, 3, 0] rfl)

theorem lkX2_plan_2 : Cond.initialized RX4 ∈ wsX2_plan := List.mem_of_getElem? (i := 2) rfl
theorem lkX2_plan_1 : Cond.static yX4_size ∈ wsX2_plan := List.mem_of_getElem? (i := 1) rfl
theorem kX2_plan : Cal yX2_plan wsX2_plan cX2_plan 10 none 3 := ⟨⟨_, rfl⟩, by decide +kernel⟩
set_option maxHeartbeats 4000000 in
set_option maxRecDepth 100000 in
theorem c_X2_plan (l : Launch) (g : EE) : ∀ (d : Nat) (a0 : Nat) (a1 : Nat) (a2 : Nat) (a3 : Nat) (a5 : Nat) (T : Nat → Int64) (ka : Nat) (h0 : Nat) (h1 : Nat) (h2 : Nat) (W : Nat → Nat) (B : Nat → Nat) (sk : Nat) (ek : Nat) (tr : Nat) (t : Nat → Nat → Nat) (E : Nat → Int32) (x : Int64) (n : Nat) (hR : Rdy T ka t) (hka : ka ≤ 1107) (hin : inS x) (hW : ∀ j, W j ≤ 9) (ht9 : ∀ v r, t v r < 9) (hnd : n + d = 12), CV l yX2_plan wsX2_plan ({ frames := 5 + d, cells := 0, slots := 0, locals := 130 + 29 * d }) g [.ref a0, .ref h0, .long x, .int (nI n)] [(a0, .inr (2, [.ref a1, .ref a2, .ref a3, .int (nI ka), .ref a5])), (a1, .inl (eJ g, 1476, .inr (.inl T))), (a5, .inl (eI g, 41, .inl E)), (h0, .inr (0, [.ref h1, .ref h2, .int (nI sk), .int (nI ek), .int (nI tr)])), (h1, .inl (eI g, 41, .inl (fun j => nI (W j)))), (h2, .inl (eI g, 5, .inl (fun j => nI (B j))))] (fun (wz : va_W) => wz = [(a0, .inr (2, [.ref a1, .ref a2, .ref a3, .int (nI ka), .ref a5])), (a1, .inl (eJ g, 1476, .inr (.inl T))), (a5, .inl (eI g, 41, .inl (noteF E (bitL x) (enS t d (bitL x) n) 40))), (h0, .inr (0, [.ref h1, .ref h2, .int (nI sk), .int (nI ek), .int (nI tr)])), (h1, .inl (eI g, 41, .inl (fun j => nI (W j)))), (h2, .inl (eI g, 5, .inl (fun j => nI (B j))))]) 0 0 := by
  intro d
  induction d with
  | zero =>
    intro a0 a1 a2 a3 a5 T ka h0 h1 h2 W B sk ek tr t E x n hR hka hin hW ht9 hnd
    refine ctV (cc := cX2_plan) (maxL := 10) (ret := none) (by decide) rfl (Nat.le_of_ble_eq_true rfl) ?_
    intro p_ e_ s_ m_ bl_ mt_ cd_ A ls F hnm hP hD hS hl
    obtain ⟨hx, hb, hml, hown, hts, hK, hX, hA, hrt_, hlocks⟩ := id F
    have hl : lv_has ls 10 [(0, .ref a0), (1, .ref h0), (2, .long x), (4, .int (nI n))] := hl
    have hcb := cnS_le (bitL x)
    have hvin := bv_in t (bitL x)
    have hwb := woS_b t (bitL x) (bv t (bitL x))
    refine lv_lload_n hx hb dX2_plan_0 rfl (lv_at hl 2 rfl) ?_
    refine cTI (As := [.long x]) (rest := []) F (c_X4_size l g x (hin)) kX4_size ggX2_plan_X4_size 9 rfl lkX2_plan_2 lkX2_plan_1 rfl rfl ⟨Nat.le_of_ble_eq_true rfl, Nat.le_of_ble_eq_true rfl⟩ hP hD hS [] [0, 1, 2, 3, 4, 5] rfl rfl hl.1 rfl rfl (Nat.le_of_ble_eq_true rfl) dX2_plan_1 ⟨Nat.le_of_ble_eq_true rfl, Nat.le_of_ble_eq_true rfl⟩ (fun rz w1 H locs hpo hP hD hS => ?_)
    obtain ⟨rfl, rfl⟩ := hpo
    obtain ⟨hP, hD⟩ := nx (ws' := [(a0, .inr (2, [.ref a1, .ref a2, .ref a3, .int (nI ka), .ref a5])), (a1, .inl (eJ g, 1476, .inr (.inl T))), (a5, .inl (eI g, 41, .inl E)), (h0, .inr (0, [.ref h1, .ref h2, .int (nI sk), .int (nI ek), .int (nI tr)])), (h1, .inl (eI g, 41, .inl (fun j => nI (W j)))), (h2, .inl (eI g, 5, .inl (fun j => nI (B j))))]) hP hD [0, 1, 2, 3, 4, 5] (ndB_ok _ rfl) rfl
    refine lv_istore (lv' := [(5, .int (nI (cnS (bitL x)))), (0, .ref a0), (1, .ref h0), (2, .long x), (4, .int (nI n))]) hx hb dX2_plan_4 hl (by decide) rfl (fun ls hl => ?_)
    refine lv_iload hx hb dX2_plan_6 (lv_at hl 0 rfl) ?_
    refine lv_iconst (v := (nI 1)) hx hb dX2_plan_8 (by decide) ?_
    refine xle (tgt := 19) hx hb dX2_plan_9 (by decide) (by omega) (by omega) (fun c9 => ?_) (fun c9 => ?_)
    · skip
      refine lv_aload_n hx hb dX2_plan_19 rfl (lv_at hl 1 rfl) ?_
      refine lv_lload_n hx hb dX2_plan_20 rfl (lv_at hl 3 rfl) ?_
      refine lv_iload hx hb dX2_plan_21 (lv_at hl 0 rfl) ?_
      refine lv_iconst (v := (nI 1)) hx hb dX2_plan_23 (by decide) ?_
      refine xne (tgt := 32) hx hb dX2_plan_24 (by decide) (by omega) (by omega) (fun c24 => ?_) (fun c24 => ?_)
      · skip
        refine lv_bipush (v := (-9)) hx hb dX2_plan_32 (by decide) ?_
        refine cVV (As := [.long x, .int (-9)]) (rest := []) F (c_X2_noteEnough l g a0 a1 a2 a3 a5 ka E x (-9) ) kX2_noteEnough rfl gX2_plan_X2_noteEnough rfl rfl ⟨Nat.le_of_ble_eq_true rfl, Nat.le_of_ble_eq_true rfl⟩ hP hD hS [0, 2] [1, 3, 4, 5] rfl rfl 0 rfl rfl hl.1 rfl rfl (Nat.le_of_ble_eq_true rfl) dX2_plan_34 ⟨Nat.le_of_ble_eq_true rfl, Nat.le_of_ble_eq_true rfl⟩ (fun w1 H locs hpo hP hD hS => ?_)
        subst hpo
        obtain ⟨hP, hD⟩ := nx (ws' := [(a0, .inr (2, [.ref a1, .ref a2, .ref a3, .int (nI ka), .ref a5])), (a1, .inl (eJ g, 1476, .inr (.inl T))), (a5, .inl (eI g, 41, .inl (noteF E (bitL x) (fun _ => (-9)) 40))), (h0, .inr (0, [.ref h1, .ref h2, .int (nI sk), .int (nI ek), .int (nI tr)])), (h1, .inl (eI g, 41, .inl (fun j => nI (W j)))), (h2, .inl (eI g, 5, .inl (fun j => nI (B j))))]) hP hD [4, 0, 5, 1, 2, 3] (ndB_ok _ rfl) rfl
        exact rtV F hP hD hS dX2_plan_37 (by rw [note_congr (f' := enS t 0 (bitL x) n) (fun r _ _ _ => by rw [enS_z _ (by omega), if_neg (by omega)])])
      · skip
        refine lv_iload hx hb dX2_plan_27 (lv_at hl 4 rfl) ?_
        refine lv_goto (tgt := 34) hx hb dX2_plan_29 (by decide) ?_
        refine cVV (As := [.long x, .int (nI n)]) (rest := []) F (c_X2_noteEnough l g a0 a1 a2 a3 a5 ka E x (nI n) ) kX2_noteEnough rfl gX2_plan_X2_noteEnough rfl rfl ⟨Nat.le_of_ble_eq_true rfl, Nat.le_of_ble_eq_true rfl⟩ hP hD hS [0, 2] [1, 3, 4, 5] rfl rfl 0 rfl rfl hl.1 rfl rfl (Nat.le_of_ble_eq_true rfl) dX2_plan_34 ⟨Nat.le_of_ble_eq_true rfl, Nat.le_of_ble_eq_true rfl⟩ (fun w1 H locs hpo hP hD hS => ?_)
        subst hpo
        obtain ⟨hP, hD⟩ := nx (ws' := [(a0, .inr (2, [.ref a1, .ref a2, .ref a3, .int (nI ka), .ref a5])), (a1, .inl (eJ g, 1476, .inr (.inl T))), (a5, .inl (eI g, 41, .inl (noteF E (bitL x) (fun _ => (nI n)) 40))), (h0, .inr (0, [.ref h1, .ref h2, .int (nI sk), .int (nI ek), .int (nI tr)])), (h1, .inl (eI g, 41, .inl (fun j => nI (W j)))), (h2, .inl (eI g, 5, .inl (fun j => nI (B j))))]) hP hD [4, 0, 5, 1, 2, 3] (ndB_ok _ rfl) rfl
        exact rtV F hP hD hS dX2_plan_37 (by rw [note_congr (f' := enS t 0 (bitL x) n) (fun r _ _ _ => by rw [enS_z _ (by omega), if_pos c24])])
    · skip
      refine lv_iload hx hb dX2_plan_12 (lv_at hl 4 rfl) ?_
      refine lv_bipush (v := (nI 12)) hx hb dX2_plan_14 (by decide) ?_
      refine xlt (tgt := 38) hx hb dX2_plan_16 (by decide) (by omega) (by omega) (fun c16 => ?_) (fun c16 => ?_)
      · skip
        exfalso; omega
      · skip
        refine lv_aload_n hx hb dX2_plan_19 rfl (lv_at hl 1 rfl) ?_
        refine lv_lload_n hx hb dX2_plan_20 rfl (lv_at hl 3 rfl) ?_
        refine lv_iload hx hb dX2_plan_21 (lv_at hl 0 rfl) ?_
        refine lv_iconst (v := (nI 1)) hx hb dX2_plan_23 (by decide) ?_
        refine xne (tgt := 32) hx hb dX2_plan_24 (by decide) (by omega) (by omega) (fun c24 => ?_) (fun c24 => ?_)
        · skip
          refine lv_bipush (v := (-9)) hx hb dX2_plan_32 (by decide) ?_
          refine cVV (As := [.long x, .int (-9)]) (rest := []) F (c_X2_noteEnough l g a0 a1 a2 a3 a5 ka E x (-9) ) kX2_noteEnough rfl gX2_plan_X2_noteEnough rfl rfl ⟨Nat.le_of_ble_eq_true rfl, Nat.le_of_ble_eq_true rfl⟩ hP hD hS [0, 2] [1, 3, 4, 5] rfl rfl 0 rfl rfl hl.1 rfl rfl (Nat.le_of_ble_eq_true rfl) dX2_plan_34 ⟨Nat.le_of_ble_eq_true rfl, Nat.le_of_ble_eq_true rfl⟩ (fun w1 H locs hpo hP hD hS => ?_)
          subst hpo
          obtain ⟨hP, hD⟩ := nx (ws' := [(a0, .inr (2, [.ref a1, .ref a2, .ref a3, .int (nI ka), .ref a5])), (a1, .inl (eJ g, 1476, .inr (.inl T))), (a5, .inl (eI g, 41, .inl (noteF E (bitL x) (fun _ => (-9)) 40))), (h0, .inr (0, [.ref h1, .ref h2, .int (nI sk), .int (nI ek), .int (nI tr)])), (h1, .inl (eI g, 41, .inl (fun j => nI (W j)))), (h2, .inl (eI g, 5, .inl (fun j => nI (B j))))]) hP hD [4, 0, 5, 1, 2, 3] (ndB_ok _ rfl) rfl
          exact rtV F hP hD hS dX2_plan_37 (by rw [note_congr (f' := enS t 0 (bitL x) n) (fun r _ _ _ => by rw [enS_z _ (by omega), if_neg (by omega)])])
        · skip
          refine lv_iload hx hb dX2_plan_27 (lv_at hl 4 rfl) ?_
          refine lv_goto (tgt := 34) hx hb dX2_plan_29 (by decide) ?_
          refine cVV (As := [.long x, .int (nI n)]) (rest := []) F (c_X2_noteEnough l g a0 a1 a2 a3 a5 ka E x (nI n) ) kX2_noteEnough rfl gX2_plan_X2_noteEnough rfl rfl ⟨Nat.le_of_ble_eq_true rfl, Nat.le_of_ble_eq_true rfl⟩ hP hD hS [0, 2] [1, 3, 4, 5] rfl rfl 0 rfl rfl hl.1 rfl rfl (Nat.le_of_ble_eq_true rfl) dX2_plan_34 ⟨Nat.le_of_ble_eq_true rfl, Nat.le_of_ble_eq_true rfl⟩ (fun w1 H locs hpo hP hD hS => ?_)
          subst hpo
          obtain ⟨hP, hD⟩ := nx (ws' := [(a0, .inr (2, [.ref a1, .ref a2, .ref a3, .int (nI ka), .ref a5])), (a1, .inl (eJ g, 1476, .inr (.inl T))), (a5, .inl (eI g, 41, .inl (noteF E (bitL x) (fun _ => (nI n)) 40))), (h0, .inr (0, [.ref h1, .ref h2, .int (nI sk), .int (nI ek), .int (nI tr)])), (h1, .inl (eI g, 41, .inl (fun j => nI (W j)))), (h2, .inl (eI g, 5, .inl (fun j => nI (B j))))]) hP hD [4, 0, 5, 1, 2, 3] (ndB_ok _ rfl) rfl
          exact rtV F hP hD hS dX2_plan_37 (by rw [note_congr (f' := enS t 0 (bitL x) n) (fun r _ _ _ => by rw [enS_z _ (by omega), if_pos c24])])
  | succ d ih =>
    intro a0 a1 a2 a3 a5 T ka h0 h1 h2 W B sk ek tr t E x n hR hka hin hW ht9 hnd
    refine ctV (cc := cX2_plan) (maxL := 10) (ret := none) (by decide) rfl (Nat.le_of_ble_eq_true rfl) ?_
    intro p_ e_ s_ m_ bl_ mt_ cd_ A ls F hnm hP hD hS hl
    obtain ⟨hx, hb, hml, hown, hts, hK, hX, hA, hrt_, hlocks⟩ := id F
    have hl : lv_has ls 10 [(0, .ref a0), (1, .ref h0), (2, .long x), (4, .int (nI n))] := hl
    have hcb := cnS_le (bitL x)
    have hvin := bv_in t (bitL x)
    have hwb := woS_b t (bitL x) (bv t (bitL x))
    refine lv_lload_n hx hb dX2_plan_0 rfl (lv_at hl 2 rfl) ?_
    refine cTI (As := [.long x]) (rest := []) F (c_X4_size l g x (hin)) kX4_size ggX2_plan_X4_size 9 rfl lkX2_plan_2 lkX2_plan_1 rfl rfl ⟨by dsimp only; omega, by dsimp only; omega⟩ hP hD hS [] [0, 1, 2, 3, 4, 5] rfl rfl hl.1 rfl rfl (Nat.le_of_ble_eq_true rfl) dX2_plan_1 ⟨Nat.le_of_ble_eq_true rfl, Nat.le_of_ble_eq_true rfl⟩ (fun rz w1 H locs hpo hP hD hS => ?_)
    obtain ⟨rfl, rfl⟩ := hpo
    obtain ⟨hP, hD⟩ := nx (ws' := [(a0, .inr (2, [.ref a1, .ref a2, .ref a3, .int (nI ka), .ref a5])), (a1, .inl (eJ g, 1476, .inr (.inl T))), (a5, .inl (eI g, 41, .inl E)), (h0, .inr (0, [.ref h1, .ref h2, .int (nI sk), .int (nI ek), .int (nI tr)])), (h1, .inl (eI g, 41, .inl (fun j => nI (W j)))), (h2, .inl (eI g, 5, .inl (fun j => nI (B j))))]) hP hD [0, 1, 2, 3, 4, 5] (ndB_ok _ rfl) rfl
    refine lv_istore (lv' := [(5, .int (nI (cnS (bitL x)))), (0, .ref a0), (1, .ref h0), (2, .long x), (4, .int (nI n))]) hx hb dX2_plan_4 hl (by decide) rfl (fun ls hl => ?_)
    refine lv_iload hx hb dX2_plan_6 (lv_at hl 0 rfl) ?_
    refine lv_iconst (v := (nI 1)) hx hb dX2_plan_8 (by decide) ?_
    refine xle (tgt := 19) hx hb dX2_plan_9 (by decide) (by omega) (by omega) (fun c9 => ?_) (fun c9 => ?_)
    · skip
      refine lv_aload_n hx hb dX2_plan_19 rfl (lv_at hl 1 rfl) ?_
      refine lv_lload_n hx hb dX2_plan_20 rfl (lv_at hl 3 rfl) ?_
      refine lv_iload hx hb dX2_plan_21 (lv_at hl 0 rfl) ?_
      refine lv_iconst (v := (nI 1)) hx hb dX2_plan_23 (by decide) ?_
      refine xne (tgt := 32) hx hb dX2_plan_24 (by decide) (by omega) (by omega) (fun c24 => ?_) (fun c24 => ?_)
      · skip
        refine lv_bipush (v := (-9)) hx hb dX2_plan_32 (by decide) ?_
        refine cVV (As := [.long x, .int (-9)]) (rest := []) F (c_X2_noteEnough l g a0 a1 a2 a3 a5 ka E x (-9) ) kX2_noteEnough rfl gX2_plan_X2_noteEnough rfl rfl ⟨by dsimp only; omega, by dsimp only; omega⟩ hP hD hS [0, 2] [1, 3, 4, 5] rfl rfl 0 rfl rfl hl.1 rfl rfl (Nat.le_of_ble_eq_true rfl) dX2_plan_34 ⟨Nat.le_of_ble_eq_true rfl, Nat.le_of_ble_eq_true rfl⟩ (fun w1 H locs hpo hP hD hS => ?_)
        subst hpo
        obtain ⟨hP, hD⟩ := nx (ws' := [(a0, .inr (2, [.ref a1, .ref a2, .ref a3, .int (nI ka), .ref a5])), (a1, .inl (eJ g, 1476, .inr (.inl T))), (a5, .inl (eI g, 41, .inl (noteF E (bitL x) (fun _ => (-9)) 40))), (h0, .inr (0, [.ref h1, .ref h2, .int (nI sk), .int (nI ek), .int (nI tr)])), (h1, .inl (eI g, 41, .inl (fun j => nI (W j)))), (h2, .inl (eI g, 5, .inl (fun j => nI (B j))))]) hP hD [4, 0, 5, 1, 2, 3] (ndB_ok _ rfl) rfl
        exact rtV F hP hD hS dX2_plan_37 (by rw [note_congr (f' := enS t (d + 1) (bitL x) n) (fun r _ _ _ => by rw [enS_z _ (by omega), if_neg (by omega)])])
      · skip
        refine lv_iload hx hb dX2_plan_27 (lv_at hl 4 rfl) ?_
        refine lv_goto (tgt := 34) hx hb dX2_plan_29 (by decide) ?_
        refine cVV (As := [.long x, .int (nI n)]) (rest := []) F (c_X2_noteEnough l g a0 a1 a2 a3 a5 ka E x (nI n) ) kX2_noteEnough rfl gX2_plan_X2_noteEnough rfl rfl ⟨by dsimp only; omega, by dsimp only; omega⟩ hP hD hS [0, 2] [1, 3, 4, 5] rfl rfl 0 rfl rfl hl.1 rfl rfl (Nat.le_of_ble_eq_true rfl) dX2_plan_34 ⟨Nat.le_of_ble_eq_true rfl, Nat.le_of_ble_eq_true rfl⟩ (fun w1 H locs hpo hP hD hS => ?_)
        subst hpo
        obtain ⟨hP, hD⟩ := nx (ws' := [(a0, .inr (2, [.ref a1, .ref a2, .ref a3, .int (nI ka), .ref a5])), (a1, .inl (eJ g, 1476, .inr (.inl T))), (a5, .inl (eI g, 41, .inl (noteF E (bitL x) (fun _ => (nI n)) 40))), (h0, .inr (0, [.ref h1, .ref h2, .int (nI sk), .int (nI ek), .int (nI tr)])), (h1, .inl (eI g, 41, .inl (fun j => nI (W j)))), (h2, .inl (eI g, 5, .inl (fun j => nI (B j))))]) hP hD [4, 0, 5, 1, 2, 3] (ndB_ok _ rfl) rfl
        exact rtV F hP hD hS dX2_plan_37 (by rw [note_congr (f' := enS t (d + 1) (bitL x) n) (fun r _ _ _ => by rw [enS_z _ (by omega), if_pos c24])])
    · skip
      refine lv_iload hx hb dX2_plan_12 (lv_at hl 4 rfl) ?_
      refine lv_bipush (v := (nI 12)) hx hb dX2_plan_14 (by decide) ?_
      refine xlt (tgt := 38) hx hb dX2_plan_16 (by decide) (by omega) (by omega) (fun c16 => ?_) (fun c16 => ?_)
      · skip
        refine lv_aload_n hx hb dX2_plan_38 rfl (lv_at hl 1 rfl) ?_
        refine lv_iconst (v := (nI 0)) hx hb dX2_plan_39 (by decide) ?_
        refine lv_aload_n hx hb dX2_plan_40 rfl (lv_at hl 2 rfl) ?_
        refine lv_lload_n hx hb dX2_plan_41 rfl (lv_at hl 3 rfl) ?_
        refine cVI (As := [.int (nI 0), .ref h0, .long x]) (rest := []) F (c_X2_bestBy l g a0 a1 a2 a3 a5 T ka h0 h1 h2 W B sk ek tr t 0 x (by omega) (hR) (hka) (hin) (hW)) kX2_bestBy rfl gX2_plan_X2_bestBy rfl rfl ⟨by dsimp only; omega, by dsimp only; omega⟩ hP hD hS [0, 1, 3, 4, 5] [2] rfl rfl 0 rfl rfl hl.1 rfl rfl (Nat.le_of_ble_eq_true rfl) dX2_plan_42 ⟨Nat.le_of_ble_eq_true rfl, Nat.le_of_ble_eq_true rfl⟩ (fun rz w1 H locs hpo hP hD hS => ?_)
        obtain ⟨rfl, rfl⟩ := hpo
        obtain ⟨hP, hD⟩ := nx (ws' := [(a0, .inr (2, [.ref a1, .ref a2, .ref a3, .int (nI ka), .ref a5])), (a1, .inl (eJ g, 1476, .inr (.inl T))), (a5, .inl (eI g, 41, .inl E)), (h0, .inr (0, [.ref h1, .ref h2, .int (nI sk), .int (nI ek), .int (nI tr)])), (h1, .inl (eI g, 41, .inl (fun j => nI (W j)))), (h2, .inl (eI g, 5, .inl (fun j => nI (B j))))]) hP hD [1, 2, 0, 3, 4, 5] (ndB_ok _ rfl) rfl
        refine sti (congrArg nI (show bsI t W (bitL x) 0 = bv t (bitL x) from bsI_0 _ _ _)) ?_
        refine lv_istore (lv' := [(6, .int (nI (bv t (bitL x)))), (5, .int (nI (cnS (bitL x)))), (0, .ref a0), (1, .ref h0), (2, .long x), (4, .int (nI n))]) hx hb dX2_plan_45 hl (by decide) rfl (fun ls hl => ?_)
        refine lv_aload_n hx hb dX2_plan_47 rfl (lv_at hl 2 rfl) ?_
        refine lv_iload hx hb dX2_plan_48 (lv_at hl 0 rfl) ?_
        refine lv_lload_n hx hb dX2_plan_50 rfl (lv_at hl 4 rfl) ?_
        refine cVI (As := [.int (nI (bv t (bitL x))), .long x]) (rest := []) F (c_X2_worstOf l g a0 a1 a2 a3 a5 T ka t (bv t (bitL x)) x (hR) (hka) (hvin.1) (hvin.2) (hin)) kX2_worstOf rfl gX2_plan_X2_worstOf rfl rfl ⟨by dsimp only; omega, by dsimp only; omega⟩ hP hD hS [0, 1] [2, 3, 4, 5] rfl rfl 0 rfl rfl hl.1 rfl rfl (Nat.le_of_ble_eq_true rfl) dX2_plan_51 ⟨Nat.le_of_ble_eq_true rfl, Nat.le_of_ble_eq_true rfl⟩ (fun rz w1 H locs hpo hP hD hS => ?_)
        obtain ⟨rfl, rfl⟩ := hpo
        obtain ⟨hP, hD⟩ := nx (ws' := [(a0, .inr (2, [.ref a1, .ref a2, .ref a3, .int (nI ka), .ref a5])), (a1, .inl (eJ g, 1476, .inr (.inl T))), (a5, .inl (eI g, 41, .inl E)), (h0, .inr (0, [.ref h1, .ref h2, .int (nI sk), .int (nI ek), .int (nI tr)])), (h1, .inl (eI g, 41, .inl (fun j => nI (W j)))), (h2, .inl (eI g, 5, .inl (fun j => nI (B j))))]) hP hD [4, 5, 0, 1, 2, 3] (ndB_ok _ rfl) rfl
        refine lv_iload hx hb dX2_plan_54 (lv_at hl 1 rfl) ?_
        refine xlt (tgt := 67) hx hb dX2_plan_56 (by decide) (by omega) (by omega) (fun c56 => ?_) (fun c56 => ?_)
        · skip
          refine lv_iconst (v := (nI 0)) hx hb dX2_plan_67 (by decide) ?_
          refine lv_istore (lv' := [(7, .int (nI 0)), (6, .int (nI (bv t (bitL x)))), (5, .int (nI (cnS (bitL x)))), (0, .ref a0), (1, .ref h0), (2, .long x), (4, .int (nI n))]) hx hb dX2_plan_68 hl (by decide) rfl (fun ls hl => ?_)
          refine xlo (σ := Nat × (Nat → Int32)) 10 (fun xz_ => (fun (k : Nat) (D : Nat → Int32) => [(0, .ref a0), (1, .ref h0), (2, .long x), (4, .int (nI n)), (6, .int (nI (bv t (bitL x)))), (7, .int (nI k))]) xz_.1 xz_.2) (fun xz_ => (fun (k : Nat) (D : Nat → Int32) => [(a0, .inr (2, [.ref a1, .ref a2, .ref a3, .int (nI ka), .ref a5])), (a1, .inl (eJ g, 1476, .inr (.inl T))), (a5, .inl (eI g, 41, .inl D)), (h0, .inr (0, [.ref h1, .ref h2, .int (nI sk), .int (nI ek), .int (nI tr)])), (h1, .inl (eI g, 41, .inl (fun j => nI (W j)))), (h2, .inl (eI g, 5, .inl (fun j => nI (B j))))]) xz_.1 xz_.2) (fun xz_ => (fun (k : Nat) (D : Nat → Int32) => D = noteF E (fun r => bitL x r && decide (t (bv t (bitL x)) r < k)) (fun r => enS t d (prt t (bitL x) (bv t (bitL x)) (t (bv t (bitL x)) r)) (n + 1) r) 40 ∧ k ≤ 9) xz_.1 xz_.2) (fun xz_ => (fun (k : Nat) (D : Nat → Int32) => 9 - k) xz_.1 xz_.2) (fun xz_ hI ih70 H locs ls hP hD hS hl => ?_) (0, E) (show E = noteF E (fun r => bitL x r && decide (t (bv t (bitL x)) r < 0)) (fun r => enS t d (prt t (bitL x) (bv t (bitL x)) (t (bv t (bitL x)) r)) (n + 1) r) 40 ∧ 0 ≤ 9 from (⟨plan_0.symm, by omega⟩)) hP hD hS (lv_sub hl [3, 4, 5, 6, 1, 0] rfl)
          obtain ⟨k, D⟩ := xz_
          have hP : va_P (eD g) vwCl [(a0, .inr (2, [.ref a1, .ref a2, .ref a3, .int (nI ka), .ref a5])), (a1, .inl (eJ g, 1476, .inr (.inl T))), (a5, .inl (eI g, 41, .inl D)), (h0, .inr (0, [.ref h1, .ref h2, .int (nI sk), .int (nI ek), .int (nI tr)])), (h1, .inl (eI g, 41, .inl (fun j => nI (W j)))), (h2, .inl (eI g, 5, .inl (fun j => nI (B j))))] H := hP
          have hD : va_D A [(a0, .inr (2, [.ref a1, .ref a2, .ref a3, .int (nI ka), .ref a5])), (a1, .inl (eJ g, 1476, .inr (.inl T))), (a5, .inl (eI g, 41, .inl D)), (h0, .inr (0, [.ref h1, .ref h2, .int (nI sk), .int (nI ek), .int (nI tr)])), (h1, .inl (eI g, 41, .inl (fun j => nI (W j)))), (h2, .inl (eI g, 5, .inl (fun j => nI (B j))))] := hD
          have hl : lv_has ls 10 [(0, .ref a0), (1, .ref h0), (2, .long x), (4, .int (nI n)), (6, .int (nI (bv t (bitL x)))), (7, .int (nI k))] := hl
          have hI70 : D = noteF E (fun r => bitL x r && decide (t (bv t (bitL x)) r < k)) (fun r => enS t d (prt t (bitL x) (bv t (bitL x)) (t (bv t (bitL x)) r)) (n + 1) r) 40 ∧ k ≤ 9 := hI
          clear hI
          obtain ⟨hD0, hk⟩ := id hI70
          refine lv_iload hx hb dX2_plan_70 (lv_at hl 5 rfl) ?_
          refine lv_bipush (v := (nI 9)) hx hb dX2_plan_72 (by decide) ?_
          refine xge (tgt := 113) hx hb dX2_plan_74 (by decide) (by omega) (by omega) (fun c74 => ?_) (fun c74 => ?_)
          · skip
            exact rtV F hP hD hS dX2_plan_113 (by rw [hD0, show k = 9 by omega, plan_9 ht9 (by omega) (by omega)])
          · skip
            refine lv_aload_n hx hb dX2_plan_77 rfl (lv_at hl 0 rfl) ?_
            refine lv_iload hx hb dX2_plan_78 (lv_at hl 4 rfl) ?_
            refine lv_iload hx hb dX2_plan_80 (lv_at hl 5 rfl) ?_
            refine cVL (As := [.int (nI (bv t (bitL x))), .int (nI k)]) (rest := []) F (c_X2_toldOf l g a0 a1 a2 a3 a5 T ka t (bv t (bitL x)) k (hR) (hka) (hvin.1) (hvin.2) (by omega)) kX2_toldOf rfl gX2_plan_X2_toldOf rfl rfl ⟨by dsimp only; omega, by dsimp only; omega⟩ hP hD hS [0, 1] [2, 3, 4, 5] rfl rfl 0 rfl rfl hl.1 rfl rfl (Nat.le_of_ble_eq_true rfl) dX2_plan_82 ⟨Nat.le_of_ble_eq_true rfl, Nat.le_of_ble_eq_true rfl⟩ (fun rz w1 H locs hpo hP hD hS => ?_)
            obtain ⟨rfl, rfl⟩ := hpo
            obtain ⟨hP, hD⟩ := nx (ws' := [(a0, .inr (2, [.ref a1, .ref a2, .ref a3, .int (nI ka), .ref a5])), (a1, .inl (eJ g, 1476, .inr (.inl T))), (a5, .inl (eI g, 41, .inl D)), (h0, .inr (0, [.ref h1, .ref h2, .int (nI sk), .int (nI ek), .int (nI tr)])), (h1, .inl (eI g, 41, .inl (fun j => nI (W j)))), (h2, .inl (eI g, 5, .inl (fun j => nI (B j))))]) hP hD [4, 5, 0, 1, 2, 3] (ndB_ok _ rfl) rfl
            refine lv_lload_n hx hb dX2_plan_85 rfl (lv_at hl 2 rfl) ?_
            refine lv_land hx hb dX2_plan_86 ?_
            refine lv_lstore (lv' := [(8, .long ((tmk t (bv t (bitL x)) k) &&& x)), (0, .ref a0), (1, .ref h0), (2, .long x), (4, .int (nI n)), (6, .int (nI (bv t (bitL x)))), (7, .int (nI k))]) hx hb dX2_plan_87 hl (by decide) rfl (fun ls hl => ?_)
            refine lv_lload hx hb dX2_plan_89 (lv_at hl 0 rfl) ?_
            refine lv_lconst (v := lN 0) hx hb dX2_plan_91 rfl ?_
            refine jeq (tgt := 107) hx hb dX2_plan_92 dX2_plan_93 (by decide) (fun c93 => ?_) (fun c93 => ?_)
            · skip
              refine lv_iinc (v := (nI (k + 1))) (lv' := [(7, .int (nI (k + 1))), (8, .long ((tmk t (bv t (bitL x)) k) &&& x)), (0, .ref a0), (1, .ref h0), (2, .long x), (4, .int (nI n)), (6, .int (nI (bv t (bitL x))))]) hx hb dX2_plan_107 hl (k := 6) rfl (iincP k 1) (by decide) rfl (fun ls hl => ?_)
              refine lv_goto (tgt := 70) hx hb dX2_plan_110 (by decide) ?_
              exact ih70 (k + 1, D) (show D = noteF E (fun r => bitL x r && decide (t (bv t (bitL x)) r < (k + 1))) (fun r => enS t d (prt t (bitL x) (bv t (bitL x)) (t (bv t (bitL x)) r)) (n + 1) r) 40 ∧ (k + 1) ≤ 9 from (⟨by rw [hD0]; exact plan_none ((part0 hin).mp c93), by omega⟩)) (show 9 - (k + 1) < 9 - k from (by omega)) _ _ _ hP hD hS (lv_sub hl [2, 3, 4, 5, 6, 0] rfl)
            · skip
              refine lv_aload_n hx hb dX2_plan_96 rfl (lv_at hl 1 rfl) ?_
              refine lv_aload_n hx hb dX2_plan_97 rfl (lv_at hl 2 rfl) ?_
              refine lv_lload hx hb dX2_plan_98 (lv_at hl 0 rfl) ?_
              refine lv_iload hx hb dX2_plan_100 (lv_at hl 4 rfl) ?_
              refine lv_iconst (v := (nI 1)) hx hb dX2_plan_102 (by decide) ?_
              refine xadd hx hb dX2_plan_103 ?_
              refine cVV (As := [.ref h0, .long ((tmk t (bv t (bitL x)) k) &&& x), .int (nI (n + 1))]) (rest := []) F (ih  a0 a1 a2 a3 a5 T ka h0 h1 h2 W B sk ek tr t D ((tmk t (bv t (bitL x)) k) &&& x) (n + 1) (hR) (hka) (inS_and hin) (hW) (ht9) (by omega)) kX2_plan rfl gX2_plan_X2_plan rfl rfl ⟨by dsimp only; omega, by dsimp only; omega⟩ hP hD hS [0, 1, 2, 3, 4, 5] [] rfl rfl 0 rfl rfl hl.1 rfl rfl (Nat.le_of_ble_eq_true rfl) dX2_plan_104 ⟨Nat.le_of_ble_eq_true rfl, Nat.le_of_ble_eq_true rfl⟩ (fun w1 H locs hpo hP hD hS => ?_)
              subst hpo
              obtain ⟨hP, hD⟩ := nx (ws' := [(a0, .inr (2, [.ref a1, .ref a2, .ref a3, .int (nI ka), .ref a5])), (a1, .inl (eJ g, 1476, .inr (.inl T))), (a5, .inl (eI g, 41, .inl (noteF D (bitL ((tmk t (bv t (bitL x)) k) &&& x)) (enS t d (bitL ((tmk t (bv t (bitL x)) k) &&& x)) (n + 1)) 40))), (h0, .inr (0, [.ref h1, .ref h2, .int (nI sk), .int (nI ek), .int (nI tr)])), (h1, .inl (eI g, 41, .inl (fun j => nI (W j)))), (h2, .inl (eI g, 5, .inl (fun j => nI (B j))))]) hP hD [0, 1, 2, 3, 4, 5] (ndB_ok _ rfl) rfl
              refine lv_iinc (v := (nI (k + 1))) (lv' := [(7, .int (nI (k + 1))), (8, .long ((tmk t (bv t (bitL x)) k) &&& x)), (0, .ref a0), (1, .ref h0), (2, .long x), (4, .int (nI n)), (6, .int (nI (bv t (bitL x))))]) hx hb dX2_plan_107 hl (k := 6) rfl (iincP k 1) (by decide) rfl (fun ls hl => ?_)
              refine lv_goto (tgt := 70) hx hb dX2_plan_110 (by decide) ?_
              exact ih70 (k + 1, (noteF D (bitL ((tmk t (bv t (bitL x)) k) &&& x)) (enS t d (bitL ((tmk t (bv t (bitL x)) k) &&& x)) (n + 1)) 40)) (show (noteF D (bitL ((tmk t (bv t (bitL x)) k) &&& x)) (enS t d (bitL ((tmk t (bv t (bitL x)) k) &&& x)) (n + 1)) 40) = noteF E (fun r => bitL x r && decide (t (bv t (bitL x)) r < (k + 1))) (fun r => enS t d (prt t (bitL x) (bv t (bitL x)) (t (bv t (bitL x)) r)) (n + 1) r) 40 ∧ (k + 1) ≤ 9 from (⟨by rw [hD0, bitL_prt hin]; exact plan_part (fun r _ hr => by rw [hr]), by omega⟩)) (show 9 - (k + 1) < 9 - k from (by omega)) _ _ _ hP hD hS (lv_sub hl [2, 3, 4, 5, 6, 0] rfl)
        · skip
          refine lv_aload_n hx hb dX2_plan_59 rfl (lv_at hl 2 rfl) ?_
          refine lv_lload_n hx hb dX2_plan_60 rfl (lv_at hl 4 rfl) ?_
          refine lv_bipush (v := (-9)) hx hb dX2_plan_61 (by decide) ?_
          refine cVV (As := [.long x, .int (-9)]) (rest := []) F (c_X2_noteEnough l g a0 a1 a2 a3 a5 ka E x (-9) ) kX2_noteEnough rfl gX2_plan_X2_noteEnough rfl rfl ⟨by dsimp only; omega, by dsimp only; omega⟩ hP hD hS [0, 2] [1, 3, 4, 5] rfl rfl 0 rfl rfl hl.1 rfl rfl (Nat.le_of_ble_eq_true rfl) dX2_plan_63 ⟨Nat.le_of_ble_eq_true rfl, Nat.le_of_ble_eq_true rfl⟩ (fun w1 H locs hpo hP hD hS => ?_)
          subst hpo
          obtain ⟨hP, hD⟩ := nx (ws' := [(a0, .inr (2, [.ref a1, .ref a2, .ref a3, .int (nI ka), .ref a5])), (a1, .inl (eJ g, 1476, .inr (.inl T))), (a5, .inl (eI g, 41, .inl (noteF E (bitL x) (fun _ => (-9)) 40))), (h0, .inr (0, [.ref h1, .ref h2, .int (nI sk), .int (nI ek), .int (nI tr)])), (h1, .inl (eI g, 41, .inl (fun j => nI (W j)))), (h2, .inl (eI g, 5, .inl (fun j => nI (B j))))]) hP hD [4, 0, 5, 1, 2, 3] (ndB_ok _ rfl) rfl
          exact rtV F hP hD hS dX2_plan_66 (by rw [note_congr (f' := enS t (d + 1) (bitL x) n) (fun r _ _ _ => by rw [enS_stuck (by omega) (by omega)])])
      · skip
        exfalso; omega

theorem c_X2_plan12 (l : Launch) (g : EE) (a0 : Nat) (a1 : Nat) (a2 : Nat) (a3 : Nat) (a5 : Nat) (T : Nat → Int64) (ka : Nat) (h0 : Nat) (h1 : Nat) (h2 : Nat) (W : Nat → Nat) (B : Nat → Nat) (sk : Nat) (ek : Nat) (tr : Nat) (t : Nat → Nat → Nat) (E : Nat → Int32) (x : Int64) (hR : Rdy T ka t) (hka : ka ≤ 1107) (hin : inS x) (hW : ∀ j, W j ≤ 9) (ht9 : ∀ v r, t v r < 9) : CV l yX2_plan wsX2_plan ({ frames := 17, cells := 0, slots := 0, locals := 478 }) g [.ref a0, .ref h0, .long x, .int (nI 0)] [(a0, .inr (2, [.ref a1, .ref a2, .ref a3, .int (nI ka), .ref a5])), (a1, .inl (eJ g, 1476, .inr (.inl T))), (a5, .inl (eI g, 41, .inl E)), (h0, .inr (0, [.ref h1, .ref h2, .int (nI sk), .int (nI ek), .int (nI tr)])), (h1, .inl (eI g, 41, .inl (fun j => nI (W j)))), (h2, .inl (eI g, 5, .inl (fun j => nI (B j))))] (fun (wz : va_W) => wz = [(a0, .inr (2, [.ref a1, .ref a2, .ref a3, .int (nI ka), .ref a5])), (a1, .inl (eJ g, 1476, .inr (.inl T))), (a5, .inl (eI g, 41, .inl (noteF E (bitL x) (enS t 12 (bitL x) 0) 40))), (h0, .inr (0, [.ref h1, .ref h2, .int (nI sk), .int (nI ek), .int (nI tr)])), (h1, .inl (eI g, 41, .inl (fun j => nI (W j)))), (h2, .inl (eI g, 5, .inl (fun j => nI (B j))))]) 0 0 := c_X2_plan l g 12 a0 a1 a2 a3 a5 T ka h0 h1 h2 W B sk ek tr t E x 0 hR hka hin hW ht9 (by omega)
