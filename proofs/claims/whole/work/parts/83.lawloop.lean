set_option maxHeartbeats 4000000 in
set_option maxRecDepth 100000 in
theorem law_loop {p_ : Program} {l : Launch} {e_ : Env} {s_ : State} {m_ : MethodId} {bl_ : List Frame} {mt_ : Method} {cd_ : Code} {g : EE} {b L : Nat} {xs : Nat → Int32} (F : Fx p_ s_ m_ #[.ref b] mt_ cd_ cL_law 4 wsL_law RL (some .boolean) g (fun q : Nat => s_.heap.size ≤ q)) (hX9 : va_X b L xs s_ s_.heap) (hbl : b < s_.heap.size) (hL : L ≤ 2560) : ∀ (n i : Nat), i ≤ L → L + 1 ≤ i + n → ∀ (x0 h0 h1 h2 d0 d1 d2 k0 k1 k2 b0 b1 a0 a1 a2 a3 a4 a5 t0 t1 r0 r1 m0 m1 m2 m3 m4 m5 m6 m7 m8 m9 m10 m11 m12 m13 m14 : Nat) (w : va_W), LawI g x0 h0 h1 h2 d0 d1 d2 k0 k1 k2 b0 b1 a0 a1 a2 a3 a4 a5 t0 t1 r0 r1 m0 m1 m2 m3 m4 m5 m6 m7 m8 m9 m10 m11 m12 m13 m14 w → ∀ (H : Heap) (locs : List Loc) (ls : Array Slot), va_P (eD g) vwCl w H → va_D (fun q : Nat => s_.heap.size ≤ q) w → va_S (fun q : Nat => s_.heap.size ≤ q) s_.heap H locs → lv_has ls 4 [(0, .ref b), (1, .ref x0), (2, .ref m0), (3, .int (nI i))] → W p_ l e_ room_1 s_ m_ #[.ref b] bl_ mt_ cd_ H locs 37 2232 (lw_Z bl_ #[.ref b] s_) (F0 m_ 18 ls []) := by
  obtain ⟨hx, hb, hml, hown, hts, hK, hX, hA, hrt_, hlocks⟩ := id F
  have hbA : ¬ (fun q : Nat => s_.heap.size ≤ q) b := Nat.not_le.mpr hbl
  intro n
  induction n with
  | zero => intro i h1 h2; exact absurd h2 (by omega)
  | succ n ih =>
    intro i h1 h2 x0 h0 h1 h2 d0 d1 d2 k0 k1 k2 b0 b1 a0 a1 a2 a3 a4 a5 t0 t1 r0 r1 m0 m1 m2 m3 m4 m5 m6 m7 m8 m9 m10 m11 m12 m13 m14 w hI H locs ls hP hD hS hl
    refine lv_iload_n hx hb dL_law_18 rfl (lv_at hl 3 rfl) ?_
    refine lv_aload_n hx hb dL_law_19 rfl (lv_at hl 0 rfl) ?_
    refine xslen F hS hX9 hbl hbA dL_law_20 ?_
    refine lv_iconst (v := (nI 5)) hx hb dL_law_21 (by decide) ?_
    refine lv_isub hx hb dL_law_22 ?_
    refine lv_icmp_gt (tgt := 1054) hx hb dL_law_23 (by decide) (fun c23 => ?_) (fun c23 => ?_)
    · refine lv_iconst (v := 1) hx hb dL_law_1054 (by decide) ?_
      refine va_forget (fun q hq => hS.2.2 q hq) ?_
      refine W.widen (k := 600000) (n := 7302250) (Nat.le_of_ble_eq_true rfl) (Nat.le_of_ble_eq_true rfl) ?_
      exact lw_ret hx hb hrt_ hlocks dL_law_1055
    · have hi : i + 5 ≤ L := by
        have := mt (sub5 (by omega) (by omega)).mpr c23
        omega
      refine lv_aload_n hx hb dL_law_26 rfl (lv_at hl 0 rfl) ?_
      refine lv_iload_n hx hb dL_law_27 rfl (lv_at hl 3 rfl) ?_
      refine xsld F hS hX9 hbl hbA (k := i) (by omega) hL dL_law_28 ?_
      refine lv_bipush (v := (nI 63)) hx hb dL_law_29 (by decide) ?_
      refine lv_iand hx hb dL_law_31 ?_
      obtain ⟨j, hj, ej⟩ := pk_andE (xs i) (m := nI 63) 6 (by decide)
      rw [ej]
      have K : ∀ (w : va_W), LawI g x0 h0 h1 h2 d0 d1 d2 k0 k1 k2 b0 b1 a0 a1 a2 a3 a4 a5 t0 t1 r0 r1 m0 m1 m2 m3 m4 m5 m6 m7 m8 m9 m10 m11 m12 m13 m14 w → ∀ (H : Heap) (locs : List Loc) (ls : Array Slot), va_P (eD g) vwCl w H → va_D (fun q : Nat => s_.heap.size ≤ q) w → va_S (fun q : Nat => s_.heap.size ≤ q) s_.heap H locs → lv_has ls 4 [(0, .ref b), (1, .ref x0), (2, .ref m0), (3, .int (nI i))] → W p_ l e_ room_1 s_ m_ #[.ref b] bl_ mt_ cd_ H locs 37 2232 (lw_Z bl_ #[.ref b] s_) (F0 m_ 1048 ls []) := by
        intro w hI H locs ls hP hD hS hl
        refine lv_iinc (v := (nI (i + 5))) (lv' := [(3, .int (nI (i + 5))), (0, .ref b), (1, .ref x0), (2, .ref m0)]) hx hb dL_law_1048 hl (k := 3) rfl (iincP i 5) (by decide) rfl (fun ls hl => ?_)
        refine lv_goto (tgt := 18) hx hb dL_law_1051 (by decide) ?_
        exact ih (i + 5) hi (by omega) x0 h0 h1 h2 d0 d1 d2 k0 k1 k2 b0 b1 a0 a1 a2 a3 a4 a5 t0 t1 r0 r1 m0 m1 m2 m3 m4 m5 m6 m7 m8 m9 m10 m11 m12 m13 m14 w hI H locs ls hP hD hS (lv_sub hl [1, 2, 3, 0] rfl)
      have hI0 := hI
      obtain ⟨W, B, sk, ek, tr, Wd, Bd, skd, ekd, trd, Wk, Bk, skk, ekk, trk, ik, q, n, T, ka, Lb, q2, n2, E, tn_, tx, rw_, rn, rf, S2, O, Y, Z, M, ia, wl, si, fd, ws, rfl, hW, hB, hsk, hek, htr, hWk, hBk, hskk, hekk, htrk, hW0, hWk0, hWd0, hik, hS2, hC, hrn, hrw, htn, htx, hwl, hfd1⟩ := hI0
      rcases Nat.lt_or_ge j 35 with h35 | h35
      · rcases (show j = 0 ∨ j = 1 ∨ j = 2 ∨ j = 3 ∨ j = 4 ∨ j = 5 ∨ j = 6 ∨ j = 7 ∨ j = 8 ∨ j = 9 ∨ j = 10 ∨ j = 11 ∨ j = 12 ∨ j = 13 ∨ j = 14 ∨ j = 15 ∨ j = 16 ∨ j = 17 ∨ j = 18 ∨ j = 19 ∨ j = 20 ∨ j = 21 ∨ j = 22 ∨ j = 23 ∨ j = 24 ∨ j = 25 ∨ j = 26 ∨ j = 27 ∨ j = 28 ∨ j = 29 ∨ j = 30 ∨ j = 31 ∨ j = 32 ∨ j = 33 ∨ j = 34 by omega) with rfl | rfl | rfl | rfl | rfl | rfl | rfl | rfl | rfl | rfl | rfl | rfl | rfl | rfl | rfl | rfl | rfl | rfl | rfl | rfl | rfl | rfl | rfl | rfl | rfl | rfl | rfl | rfl | rfl | rfl | rfl | rfl | rfl | rfl | rfl
        · refine lv_tableIn (tgt := 188) hx hb dL_law_32 (by decide) (by decide) rfl (by decide) ?_
          exact law_0 F hX9 hbl hbA hL x0 h0 h1 h2 d0 d1 d2 k0 k1 k2 b0 b1 a0 a1 a2 a3 a4 a5 t0 t1 r0 r1 m0 m1 m2 m3 m4 m5 m6 m7 m8 m9 m10 m11 m12 m13 m14 i hi W B sk ek tr Wd Bd skd ekd trd Wk Bk skk ekk trk ik q n T ka Lb q2 n2 E tn_ tx rw_ rn rf S2 O Y Z M ia wl si fd ws hW hB hsk hek htr hWk hBk hskk hekk htrk hW0 hWk0 hWd0 hik hS2 hC hrn hrw htn htx hwl hfd1 H locs ls hP hD hS hl K
        · refine lv_tableIn (tgt := 211) hx hb dL_law_32 (by decide) (by decide) rfl (by decide) ?_
          exact law_1 F hX9 hbl hbA hL x0 h0 h1 h2 d0 d1 d2 k0 k1 k2 b0 b1 a0 a1 a2 a3 a4 a5 t0 t1 r0 r1 m0 m1 m2 m3 m4 m5 m6 m7 m8 m9 m10 m11 m12 m13 m14 i hi W B sk ek tr Wd Bd skd ekd trd Wk Bk skk ekk trk ik q n T ka Lb q2 n2 E tn_ tx rw_ rn rf S2 O Y Z M ia wl si fd ws hW hB hsk hek htr hWk hBk hskk hekk htrk hW0 hWk0 hWd0 hik hS2 hC hrn hrw htn htx hwl hfd1 H locs ls hP hD hS hl K
        · refine lv_tableIn (tgt := 224) hx hb dL_law_32 (by decide) (by decide) rfl (by decide) ?_
          exact law_2 F hX9 hbl hbA hL x0 h0 h1 h2 d0 d1 d2 k0 k1 k2 b0 b1 a0 a1 a2 a3 a4 a5 t0 t1 r0 r1 m0 m1 m2 m3 m4 m5 m6 m7 m8 m9 m10 m11 m12 m13 m14 i hi W B sk ek tr Wd Bd skd ekd trd Wk Bk skk ekk trk ik q n T ka Lb q2 n2 E tn_ tx rw_ rn rf S2 O Y Z M ia wl si fd ws hW hB hsk hek htr hWk hBk hskk hekk htrk hW0 hWk0 hWd0 hik hS2 hC hrn hrw htn htx hwl hfd1 H locs ls hP hD hS hl K
        · refine lv_tableIn (tgt := 247) hx hb dL_law_32 (by decide) (by decide) rfl (by decide) ?_
          exact law_3 F hX9 hbl hbA hL x0 h0 h1 h2 d0 d1 d2 k0 k1 k2 b0 b1 a0 a1 a2 a3 a4 a5 t0 t1 r0 r1 m0 m1 m2 m3 m4 m5 m6 m7 m8 m9 m10 m11 m12 m13 m14 i hi W B sk ek tr Wd Bd skd ekd trd Wk Bk skk ekk trk ik q n T ka Lb q2 n2 E tn_ tx rw_ rn rf S2 O Y Z M ia wl si fd ws hW hB hsk hek htr hWk hBk hskk hekk htrk hW0 hWk0 hWd0 hik hS2 hC hrn hrw htn htx hwl hfd1 H locs ls hP hD hS hl K
        · refine lv_tableIn (tgt := 280) hx hb dL_law_32 (by decide) (by decide) rfl (by decide) ?_
          exact law_4 F hX9 hbl hbA hL x0 h0 h1 h2 d0 d1 d2 k0 k1 k2 b0 b1 a0 a1 a2 a3 a4 a5 t0 t1 r0 r1 m0 m1 m2 m3 m4 m5 m6 m7 m8 m9 m10 m11 m12 m13 m14 i hi W B sk ek tr Wd Bd skd ekd trd Wk Bk skk ekk trk ik q n T ka Lb q2 n2 E tn_ tx rw_ rn rf S2 O Y Z M ia wl si fd ws hW hB hsk hek htr hWk hBk hskk hekk htrk hW0 hWk0 hWd0 hik hS2 hC hrn hrw htn htx hwl hfd1 H locs ls hP hD hS hl K
        · refine lv_tableIn (tgt := 313) hx hb dL_law_32 (by decide) (by decide) rfl (by decide) ?_
          exact law_5 F hX9 hbl hbA hL x0 h0 h1 h2 d0 d1 d2 k0 k1 k2 b0 b1 a0 a1 a2 a3 a4 a5 t0 t1 r0 r1 m0 m1 m2 m3 m4 m5 m6 m7 m8 m9 m10 m11 m12 m13 m14 i hi W B sk ek tr Wd Bd skd ekd trd Wk Bk skk ekk trk ik q n T ka Lb q2 n2 E tn_ tx rw_ rn rf S2 O Y Z M ia wl si fd ws hW hB hsk hek htr hWk hBk hskk hekk htrk hW0 hWk0 hWd0 hik hS2 hC hrn hrw htn htx hwl hfd1 H locs ls hP hD hS hl K
        · refine lv_tableIn (tgt := 346) hx hb dL_law_32 (by decide) (by decide) rfl (by decide) ?_
          exact law_6 F hX9 hbl hbA hL x0 h0 h1 h2 d0 d1 d2 k0 k1 k2 b0 b1 a0 a1 a2 a3 a4 a5 t0 t1 r0 r1 m0 m1 m2 m3 m4 m5 m6 m7 m8 m9 m10 m11 m12 m13 m14 i hi W B sk ek tr Wd Bd skd ekd trd Wk Bk skk ekk trk ik q n T ka Lb q2 n2 E tn_ tx rw_ rn rf S2 O Y Z M ia wl si fd ws hW hB hsk hek htr hWk hBk hskk hekk htrk hW0 hWk0 hWd0 hik hS2 hC hrn hrw htn htx hwl hfd1 H locs ls hP hD hS hl K
        · refine lv_tableIn (tgt := 379) hx hb dL_law_32 (by decide) (by decide) rfl (by decide) ?_
          exact law_7 F hX9 hbl hbA hL x0 h0 h1 h2 d0 d1 d2 k0 k1 k2 b0 b1 a0 a1 a2 a3 a4 a5 t0 t1 r0 r1 m0 m1 m2 m3 m4 m5 m6 m7 m8 m9 m10 m11 m12 m13 m14 i hi W B sk ek tr Wd Bd skd ekd trd Wk Bk skk ekk trk ik q n T ka Lb q2 n2 E tn_ tx rw_ rn rf S2 O Y Z M ia wl si fd ws hW hB hsk hek htr hWk hBk hskk hekk htrk hW0 hWk0 hWd0 hik hS2 hC hrn hrw htn htx hwl hfd1 H locs ls hP hD hS hl K
        · refine lv_tableIn (tgt := 412) hx hb dL_law_32 (by decide) (by decide) rfl (by decide) ?_
          exact law_8 F hX9 hbl hbA hL x0 h0 h1 h2 d0 d1 d2 k0 k1 k2 b0 b1 a0 a1 a2 a3 a4 a5 t0 t1 r0 r1 m0 m1 m2 m3 m4 m5 m6 m7 m8 m9 m10 m11 m12 m13 m14 i hi W B sk ek tr Wd Bd skd ekd trd Wk Bk skk ekk trk ik q n T ka Lb q2 n2 E tn_ tx rw_ rn rf S2 O Y Z M ia wl si fd ws hW hB hsk hek htr hWk hBk hskk hekk htrk hW0 hWk0 hWd0 hik hS2 hC hrn hrw htn htx hwl hfd1 H locs ls hP hD hS hl K
        · refine lv_tableIn (tgt := 445) hx hb dL_law_32 (by decide) (by decide) rfl (by decide) ?_
          exact law_9 F hX9 hbl hbA hL x0 h0 h1 h2 d0 d1 d2 k0 k1 k2 b0 b1 a0 a1 a2 a3 a4 a5 t0 t1 r0 r1 m0 m1 m2 m3 m4 m5 m6 m7 m8 m9 m10 m11 m12 m13 m14 i hi W B sk ek tr Wd Bd skd ekd trd Wk Bk skk ekk trk ik q n T ka Lb q2 n2 E tn_ tx rw_ rn rf S2 O Y Z M ia wl si fd ws hW hB hsk hek htr hWk hBk hskk hekk htrk hW0 hWk0 hWd0 hik hS2 hC hrn hrw htn htx hwl hfd1 H locs ls hP hD hS hl K
        · refine lv_tableIn (tgt := 468) hx hb dL_law_32 (by decide) (by decide) rfl (by decide) ?_
          exact law_10 F hX9 hbl hbA hL x0 h0 h1 h2 d0 d1 d2 k0 k1 k2 b0 b1 a0 a1 a2 a3 a4 a5 t0 t1 r0 r1 m0 m1 m2 m3 m4 m5 m6 m7 m8 m9 m10 m11 m12 m13 m14 i hi W B sk ek tr Wd Bd skd ekd trd Wk Bk skk ekk trk ik q n T ka Lb q2 n2 E tn_ tx rw_ rn rf S2 O Y Z M ia wl si fd ws hW hB hsk hek htr hWk hBk hskk hekk htrk hW0 hWk0 hWd0 hik hS2 hC hrn hrw htn htx hwl hfd1 H locs ls hP hD hS hl K
        · refine lv_tableIn (tgt := 491) hx hb dL_law_32 (by decide) (by decide) rfl (by decide) ?_
          exact law_11 F hX9 hbl hbA hL x0 h0 h1 h2 d0 d1 d2 k0 k1 k2 b0 b1 a0 a1 a2 a3 a4 a5 t0 t1 r0 r1 m0 m1 m2 m3 m4 m5 m6 m7 m8 m9 m10 m11 m12 m13 m14 i hi W B sk ek tr Wd Bd skd ekd trd Wk Bk skk ekk trk ik q n T ka Lb q2 n2 E tn_ tx rw_ rn rf S2 O Y Z M ia wl si fd ws hW hB hsk hek htr hWk hBk hskk hekk htrk hW0 hWk0 hWd0 hik hS2 hC hrn hrw htn htx hwl hfd1 H locs ls hP hD hS hl K
        · refine lv_tableIn (tgt := 525) hx hb dL_law_32 (by decide) (by decide) rfl (by decide) ?_
          exact law_12 F hX9 hbl hbA hL x0 h0 h1 h2 d0 d1 d2 k0 k1 k2 b0 b1 a0 a1 a2 a3 a4 a5 t0 t1 r0 r1 m0 m1 m2 m3 m4 m5 m6 m7 m8 m9 m10 m11 m12 m13 m14 i hi W B sk ek tr Wd Bd skd ekd trd Wk Bk skk ekk trk ik q n T ka Lb q2 n2 E tn_ tx rw_ rn rf S2 O Y Z M ia wl si fd ws hW hB hsk hek htr hWk hBk hskk hekk htrk hW0 hWk0 hWd0 hik hS2 hC hrn hrw htn htx hwl hfd1 H locs ls hP hD hS hl K
        · refine lv_tableIn (tgt := 548) hx hb dL_law_32 (by decide) (by decide) rfl (by decide) ?_
          exact law_13 F hX9 hbl hbA hL x0 h0 h1 h2 d0 d1 d2 k0 k1 k2 b0 b1 a0 a1 a2 a3 a4 a5 t0 t1 r0 r1 m0 m1 m2 m3 m4 m5 m6 m7 m8 m9 m10 m11 m12 m13 m14 i hi W B sk ek tr Wd Bd skd ekd trd Wk Bk skk ekk trk ik q n T ka Lb q2 n2 E tn_ tx rw_ rn rf S2 O Y Z M ia wl si fd ws hW hB hsk hek htr hWk hBk hskk hekk htrk hW0 hWk0 hWd0 hik hS2 hC hrn hrw htn htx hwl hfd1 H locs ls hP hD hS hl K
        · refine lv_tableIn (tgt := 582) hx hb dL_law_32 (by decide) (by decide) rfl (by decide) ?_
          exact law_14 F hX9 hbl hbA hL x0 h0 h1 h2 d0 d1 d2 k0 k1 k2 b0 b1 a0 a1 a2 a3 a4 a5 t0 t1 r0 r1 m0 m1 m2 m3 m4 m5 m6 m7 m8 m9 m10 m11 m12 m13 m14 i hi W B sk ek tr Wd Bd skd ekd trd Wk Bk skk ekk trk ik q n T ka Lb q2 n2 E tn_ tx rw_ rn rf S2 O Y Z M ia wl si fd ws hW hB hsk hek htr hWk hBk hskk hekk htrk hW0 hWk0 hWd0 hik hS2 hC hrn hrw htn htx hwl hfd1 H locs ls hP hD hS hl K
        · refine lv_tableIn (tgt := 595) hx hb dL_law_32 (by decide) (by decide) rfl (by decide) ?_
          exact law_15 F hX9 hbl hbA hL x0 h0 h1 h2 d0 d1 d2 k0 k1 k2 b0 b1 a0 a1 a2 a3 a4 a5 t0 t1 r0 r1 m0 m1 m2 m3 m4 m5 m6 m7 m8 m9 m10 m11 m12 m13 m14 i hi W B sk ek tr Wd Bd skd ekd trd Wk Bk skk ekk trk ik q n T ka Lb q2 n2 E tn_ tx rw_ rn rf S2 O Y Z M ia wl si fd ws hW hB hsk hek htr hWk hBk hskk hekk htrk hW0 hWk0 hWd0 hik hS2 hC hrn hrw htn htx hwl hfd1 H locs ls hP hD hS hl K
        · refine lv_tableIn (tgt := 608) hx hb dL_law_32 (by decide) (by decide) rfl (by decide) ?_
          exact law_16 F hX9 hbl hbA hL x0 h0 h1 h2 d0 d1 d2 k0 k1 k2 b0 b1 a0 a1 a2 a3 a4 a5 t0 t1 r0 r1 m0 m1 m2 m3 m4 m5 m6 m7 m8 m9 m10 m11 m12 m13 m14 i hi W B sk ek tr Wd Bd skd ekd trd Wk Bk skk ekk trk ik q n T ka Lb q2 n2 E tn_ tx rw_ rn rf S2 O Y Z M ia wl si fd ws hW hB hsk hek htr hWk hBk hskk hekk htrk hW0 hWk0 hWd0 hik hS2 hC hrn hrw htn htx hwl hfd1 H locs ls hP hD hS hl K
        · refine lv_tableIn (tgt := 632) hx hb dL_law_32 (by decide) (by decide) rfl (by decide) ?_
          exact law_17 F hX9 hbl hbA hL x0 h0 h1 h2 d0 d1 d2 k0 k1 k2 b0 b1 a0 a1 a2 a3 a4 a5 t0 t1 r0 r1 m0 m1 m2 m3 m4 m5 m6 m7 m8 m9 m10 m11 m12 m13 m14 i hi W B sk ek tr Wd Bd skd ekd trd Wk Bk skk ekk trk ik q n T ka Lb q2 n2 E tn_ tx rw_ rn rf S2 O Y Z M ia wl si fd ws hW hB hsk hek htr hWk hBk hskk hekk htrk hW0 hWk0 hWd0 hik hS2 hC hrn hrw htn htx hwl hfd1 H locs ls hP hD hS hl K
        · refine lv_tableIn (tgt := 645) hx hb dL_law_32 (by decide) (by decide) rfl (by decide) ?_
          exact law_18 F hX9 hbl hbA hL x0 h0 h1 h2 d0 d1 d2 k0 k1 k2 b0 b1 a0 a1 a2 a3 a4 a5 t0 t1 r0 r1 m0 m1 m2 m3 m4 m5 m6 m7 m8 m9 m10 m11 m12 m13 m14 i hi W B sk ek tr Wd Bd skd ekd trd Wk Bk skk ekk trk ik q n T ka Lb q2 n2 E tn_ tx rw_ rn rf S2 O Y Z M ia wl si fd ws hW hB hsk hek htr hWk hBk hskk hekk htrk hW0 hWk0 hWd0 hik hS2 hC hrn hrw htn htx hwl hfd1 H locs ls hP hD hS hl K
        · refine lv_tableIn (tgt := 669) hx hb dL_law_32 (by decide) (by decide) rfl (by decide) ?_
          exact law_19 F hX9 hbl hbA hL x0 h0 h1 h2 d0 d1 d2 k0 k1 k2 b0 b1 a0 a1 a2 a3 a4 a5 t0 t1 r0 r1 m0 m1 m2 m3 m4 m5 m6 m7 m8 m9 m10 m11 m12 m13 m14 i hi W B sk ek tr Wd Bd skd ekd trd Wk Bk skk ekk trk ik q n T ka Lb q2 n2 E tn_ tx rw_ rn rf S2 O Y Z M ia wl si fd ws hW hB hsk hek htr hWk hBk hskk hekk htrk hW0 hWk0 hWd0 hik hS2 hC hrn hrw htn htx hwl hfd1 H locs ls hP hD hS hl K
        · refine lv_tableIn (tgt := 692) hx hb dL_law_32 (by decide) (by decide) rfl (by decide) ?_
          exact law_20 F hX9 hbl hbA hL x0 h0 h1 h2 d0 d1 d2 k0 k1 k2 b0 b1 a0 a1 a2 a3 a4 a5 t0 t1 r0 r1 m0 m1 m2 m3 m4 m5 m6 m7 m8 m9 m10 m11 m12 m13 m14 i hi W B sk ek tr Wd Bd skd ekd trd Wk Bk skk ekk trk ik q n T ka Lb q2 n2 E tn_ tx rw_ rn rf S2 O Y Z M ia wl si fd ws hW hB hsk hek htr hWk hBk hskk hekk htrk hW0 hWk0 hWd0 hik hS2 hC hrn hrw htn htx hwl hfd1 H locs ls hP hD hS hl K
        · refine lv_tableIn (tgt := 705) hx hb dL_law_32 (by decide) (by decide) rfl (by decide) ?_
          exact law_21 F hX9 hbl hbA hL x0 h0 h1 h2 d0 d1 d2 k0 k1 k2 b0 b1 a0 a1 a2 a3 a4 a5 t0 t1 r0 r1 m0 m1 m2 m3 m4 m5 m6 m7 m8 m9 m10 m11 m12 m13 m14 i hi W B sk ek tr Wd Bd skd ekd trd Wk Bk skk ekk trk ik q n T ka Lb q2 n2 E tn_ tx rw_ rn rf S2 O Y Z M ia wl si fd ws hW hB hsk hek htr hWk hBk hskk hekk htrk hW0 hWk0 hWd0 hik hS2 hC hrn hrw htn htx hwl hfd1 H locs ls hP hD hS hl K
        · refine lv_tableIn (tgt := 718) hx hb dL_law_32 (by decide) (by decide) rfl (by decide) ?_
          exact law_22 F hX9 hbl hbA hL x0 h0 h1 h2 d0 d1 d2 k0 k1 k2 b0 b1 a0 a1 a2 a3 a4 a5 t0 t1 r0 r1 m0 m1 m2 m3 m4 m5 m6 m7 m8 m9 m10 m11 m12 m13 m14 i hi W B sk ek tr Wd Bd skd ekd trd Wk Bk skk ekk trk ik q n T ka Lb q2 n2 E tn_ tx rw_ rn rf S2 O Y Z M ia wl si fd ws hW hB hsk hek htr hWk hBk hskk hekk htrk hW0 hWk0 hWd0 hik hS2 hC hrn hrw htn htx hwl hfd1 H locs ls hP hD hS hl K
        · refine lv_tableIn (tgt := 761) hx hb dL_law_32 (by decide) (by decide) rfl (by decide) ?_
          exact law_23 F hX9 hbl hbA hL x0 h0 h1 h2 d0 d1 d2 k0 k1 k2 b0 b1 a0 a1 a2 a3 a4 a5 t0 t1 r0 r1 m0 m1 m2 m3 m4 m5 m6 m7 m8 m9 m10 m11 m12 m13 m14 i hi W B sk ek tr Wd Bd skd ekd trd Wk Bk skk ekk trk ik q n T ka Lb q2 n2 E tn_ tx rw_ rn rf S2 O Y Z M ia wl si fd ws hW hB hsk hek htr hWk hBk hskk hekk htrk hW0 hWk0 hWd0 hik hS2 hC hrn hrw htn htx hwl hfd1 H locs ls hP hD hS hl K
        · refine lv_tableIn (tgt := 814) hx hb dL_law_32 (by decide) (by decide) rfl (by decide) ?_
          exact law_24 F hX9 hbl hbA hL x0 h0 h1 h2 d0 d1 d2 k0 k1 k2 b0 b1 a0 a1 a2 a3 a4 a5 t0 t1 r0 r1 m0 m1 m2 m3 m4 m5 m6 m7 m8 m9 m10 m11 m12 m13 m14 i hi W B sk ek tr Wd Bd skd ekd trd Wk Bk skk ekk trk ik q n T ka Lb q2 n2 E tn_ tx rw_ rn rf S2 O Y Z M ia wl si fd ws hW hB hsk hek htr hWk hBk hskk hekk htrk hW0 hWk0 hWd0 hik hS2 hC hrn hrw htn htx hwl hfd1 H locs ls hP hD hS hl K
        · refine lv_tableIn (tgt := 837) hx hb dL_law_32 (by decide) (by decide) rfl (by decide) ?_
          exact law_25 F hX9 hbl hbA hL x0 h0 h1 h2 d0 d1 d2 k0 k1 k2 b0 b1 a0 a1 a2 a3 a4 a5 t0 t1 r0 r1 m0 m1 m2 m3 m4 m5 m6 m7 m8 m9 m10 m11 m12 m13 m14 i hi W B sk ek tr Wd Bd skd ekd trd Wk Bk skk ekk trk ik q n T ka Lb q2 n2 E tn_ tx rw_ rn rf S2 O Y Z M ia wl si fd ws hW hB hsk hek htr hWk hBk hskk hekk htrk hW0 hWk0 hWd0 hik hS2 hC hrn hrw htn htx hwl hfd1 H locs ls hP hD hS hl K
        · refine lv_tableIn (tgt := 860) hx hb dL_law_32 (by decide) (by decide) rfl (by decide) ?_
          exact law_26 F hX9 hbl hbA hL x0 h0 h1 h2 d0 d1 d2 k0 k1 k2 b0 b1 a0 a1 a2 a3 a4 a5 t0 t1 r0 r1 m0 m1 m2 m3 m4 m5 m6 m7 m8 m9 m10 m11 m12 m13 m14 i hi W B sk ek tr Wd Bd skd ekd trd Wk Bk skk ekk trk ik q n T ka Lb q2 n2 E tn_ tx rw_ rn rf S2 O Y Z M ia wl si fd ws hW hB hsk hek htr hWk hBk hskk hekk htrk hW0 hWk0 hWd0 hik hS2 hC hrn hrw htn htx hwl hfd1 H locs ls hP hD hS hl K
        · refine lv_tableIn (tgt := 904) hx hb dL_law_32 (by decide) (by decide) rfl (by decide) ?_
          exact law_27 F hX9 hbl hbA hL x0 h0 h1 h2 d0 d1 d2 k0 k1 k2 b0 b1 a0 a1 a2 a3 a4 a5 t0 t1 r0 r1 m0 m1 m2 m3 m4 m5 m6 m7 m8 m9 m10 m11 m12 m13 m14 i hi W B sk ek tr Wd Bd skd ekd trd Wk Bk skk ekk trk ik q n T ka Lb q2 n2 E tn_ tx rw_ rn rf S2 O Y Z M ia wl si fd ws hW hB hsk hek htr hWk hBk hskk hekk htrk hW0 hWk0 hWd0 hik hS2 hC hrn hrw htn htx hwl hfd1 H locs ls hP hD hS hl K
        · refine lv_tableIn (tgt := 917) hx hb dL_law_32 (by decide) (by decide) rfl (by decide) ?_
          exact law_28 F hX9 hbl hbA hL x0 h0 h1 h2 d0 d1 d2 k0 k1 k2 b0 b1 a0 a1 a2 a3 a4 a5 t0 t1 r0 r1 m0 m1 m2 m3 m4 m5 m6 m7 m8 m9 m10 m11 m12 m13 m14 i hi W B sk ek tr Wd Bd skd ekd trd Wk Bk skk ekk trk ik q n T ka Lb q2 n2 E tn_ tx rw_ rn rf S2 O Y Z M ia wl si fd ws hW hB hsk hek htr hWk hBk hskk hekk htrk hW0 hWk0 hWd0 hik hS2 hC hrn hrw htn htx hwl hfd1 H locs ls hP hD hS hl K
        · refine lv_tableIn (tgt := 940) hx hb dL_law_32 (by decide) (by decide) rfl (by decide) ?_
          exact law_29 F hX9 hbl hbA hL x0 h0 h1 h2 d0 d1 d2 k0 k1 k2 b0 b1 a0 a1 a2 a3 a4 a5 t0 t1 r0 r1 m0 m1 m2 m3 m4 m5 m6 m7 m8 m9 m10 m11 m12 m13 m14 i hi W B sk ek tr Wd Bd skd ekd trd Wk Bk skk ekk trk ik q n T ka Lb q2 n2 E tn_ tx rw_ rn rf S2 O Y Z M ia wl si fd ws hW hB hsk hek htr hWk hBk hskk hekk htrk hW0 hWk0 hWd0 hik hS2 hC hrn hrw htn htx hwl hfd1 H locs ls hP hD hS hl K
        · refine lv_tableIn (tgt := 953) hx hb dL_law_32 (by decide) (by decide) rfl (by decide) ?_
          exact law_30 F hX9 hbl hbA hL x0 h0 h1 h2 d0 d1 d2 k0 k1 k2 b0 b1 a0 a1 a2 a3 a4 a5 t0 t1 r0 r1 m0 m1 m2 m3 m4 m5 m6 m7 m8 m9 m10 m11 m12 m13 m14 i hi W B sk ek tr Wd Bd skd ekd trd Wk Bk skk ekk trk ik q n T ka Lb q2 n2 E tn_ tx rw_ rn rf S2 O Y Z M ia wl si fd ws hW hB hsk hek htr hWk hBk hskk hekk htrk hW0 hWk0 hWd0 hik hS2 hC hrn hrw htn htx hwl hfd1 H locs ls hP hD hS hl K
        · refine lv_tableIn (tgt := 966) hx hb dL_law_32 (by decide) (by decide) rfl (by decide) ?_
          exact law_31 F hX9 hbl hbA hL x0 h0 h1 h2 d0 d1 d2 k0 k1 k2 b0 b1 a0 a1 a2 a3 a4 a5 t0 t1 r0 r1 m0 m1 m2 m3 m4 m5 m6 m7 m8 m9 m10 m11 m12 m13 m14 i hi W B sk ek tr Wd Bd skd ekd trd Wk Bk skk ekk trk ik q n T ka Lb q2 n2 E tn_ tx rw_ rn rf S2 O Y Z M ia wl si fd ws hW hB hsk hek htr hWk hBk hskk hekk htrk hW0 hWk0 hWd0 hik hS2 hC hrn hrw htn htx hwl hfd1 H locs ls hP hD hS hl K
        · refine lv_tableIn (tgt := 999) hx hb dL_law_32 (by decide) (by decide) rfl (by decide) ?_
          exact law_32 F hX9 hbl hbA hL x0 h0 h1 h2 d0 d1 d2 k0 k1 k2 b0 b1 a0 a1 a2 a3 a4 a5 t0 t1 r0 r1 m0 m1 m2 m3 m4 m5 m6 m7 m8 m9 m10 m11 m12 m13 m14 i hi W B sk ek tr Wd Bd skd ekd trd Wk Bk skk ekk trk ik q n T ka Lb q2 n2 E tn_ tx rw_ rn rf S2 O Y Z M ia wl si fd ws hW hB hsk hek htr hWk hBk hskk hekk htrk hW0 hWk0 hWd0 hik hS2 hC hrn hrw htn htx hwl hfd1 H locs ls hP hD hS hl K
        · refine lv_tableIn (tgt := 1012) hx hb dL_law_32 (by decide) (by decide) rfl (by decide) ?_
          exact law_33 F hX9 hbl hbA hL x0 h0 h1 h2 d0 d1 d2 k0 k1 k2 b0 b1 a0 a1 a2 a3 a4 a5 t0 t1 r0 r1 m0 m1 m2 m3 m4 m5 m6 m7 m8 m9 m10 m11 m12 m13 m14 i hi W B sk ek tr Wd Bd skd ekd trd Wk Bk skk ekk trk ik q n T ka Lb q2 n2 E tn_ tx rw_ rn rf S2 O Y Z M ia wl si fd ws hW hB hsk hek htr hWk hBk hskk hekk htrk hW0 hWk0 hWd0 hik hS2 hC hrn hrw htn htx hwl hfd1 H locs ls hP hD hS hl K
        · refine lv_tableIn (tgt := 1025) hx hb dL_law_32 (by decide) (by decide) rfl (by decide) ?_
          exact law_34 F hX9 hbl hbA hL x0 h0 h1 h2 d0 d1 d2 k0 k1 k2 b0 b1 a0 a1 a2 a3 a4 a5 t0 t1 r0 r1 m0 m1 m2 m3 m4 m5 m6 m7 m8 m9 m10 m11 m12 m13 m14 i hi W B sk ek tr Wd Bd skd ekd trd Wk Bk skk ekk trk ik q n T ka Lb q2 n2 E tn_ tx rw_ rn rf S2 O Y Z M ia wl si fd ws hW hB hsk hek htr hWk hBk hskk hekk htrk hW0 hWk0 hWd0 hik hS2 hC hrn hrw htn htx hwl hfd1 H locs ls hP hD hS hl K
      · refine lv_tableOut (tgt := 1048) hx hb dL_law_32 (Or.inr (by rw [nI_toInt (by omega)]; omega)) (by decide) ?_
        exact K _ hI H locs ls hP hD hS hl
