theorem lkJ13_bitCount_95d88_1 : Cond.constantLong RJ13 314 (6148914691236517205) ∈ wsJ13_bitCount_95d88 := List.mem_of_getElem? (i := 1) rfl
theorem lkJ13_bitCount_95d88_2 : Cond.constantLong RJ13 316 (3689348814741910323) ∈ wsJ13_bitCount_95d88 := List.mem_of_getElem? (i := 2) rfl
theorem lkJ13_bitCount_95d88_3 : Cond.constantLong RJ13 318 (1085102592571150095) ∈ wsJ13_bitCount_95d88 := List.mem_of_getElem? (i := 3) rfl
theorem kJ13_bitCount_95d88 : Cal yJ13_bitCount_95d88 wsJ13_bitCount_95d88 cJ13_bitCount_95d88 2 (some .int) 1 := ⟨⟨_, rfl⟩, by decide +kernel⟩
set_option maxHeartbeats 4000000 in
set_option maxRecDepth 100000 in
theorem c_J13_bitCount_95d88 (l : Launch) (g : EE) (x : Int64)  : CI l yJ13_bitCount_95d88 wsJ13_bitCount_95d88 ({ frames := 0, cells := 0, slots := 0, locals := 0 }) g [.long x] [] (fun (rz : Int32) (wz : va_W) => rz = (bcF x) ∧ wz = []) 0 0 := by
  refine ctI (cc := cJ13_bitCount_95d88) (maxL := 2) (ret := (some .int)) (by decide) rfl (Nat.le_of_ble_eq_true rfl) ?_
  intro p_ e_ s_ m_ bl_ mt_ cd_ A ls F hnm hP hD hS hl
  obtain ⟨hx, hb, hml, hown, hts, hK, hX, hA, hrt_, hlocks⟩ := id F
  have hl : lv_has ls 2 [(0, .long x)] := hl
  refine lv_lload_n hx hb dJ13_bitCount_95d88_0 rfl (lv_at hl 0 rfl) ?_
  refine lv_lload_n hx hb dJ13_bitCount_95d88_1 rfl (lv_at hl 0 rfl) ?_
  refine lv_iconst (v := (nI 1)) hx hb dJ13_bitCount_95d88_2 (by decide) ?_
  refine lv_lushr hx hb dJ13_bitCount_95d88_3 rfl ?_
  refine lv_ldc2 (v := 6148914691236517205) hx hb hown (F.lk lkJ13_bitCount_95d88_1) dJ13_bitCount_95d88_4 ?_
  refine lv_land hx hb dJ13_bitCount_95d88_7 ?_
  refine lv_lsub hx hb dJ13_bitCount_95d88_8 ?_
  refine lv_lstore_n (lv' := [(0, .long (x - (((x.toUInt64 >>> (((nI 1)).toInt64.toUInt64 &&& Int64.toUInt64 63)).toInt64) &&& 6148914691236517205)))]) hx hb dJ13_bitCount_95d88_9 rfl hl (by decide) rfl (fun ls hl => ?_)
  refine lv_lload_n hx hb dJ13_bitCount_95d88_10 rfl (lv_at hl 0 rfl) ?_
  refine lv_ldc2 (v := 3689348814741910323) hx hb hown (F.lk lkJ13_bitCount_95d88_2) dJ13_bitCount_95d88_11 ?_
  refine lv_land hx hb dJ13_bitCount_95d88_14 ?_
  refine lv_lload_n hx hb dJ13_bitCount_95d88_15 rfl (lv_at hl 0 rfl) ?_
  refine lv_iconst (v := (nI 2)) hx hb dJ13_bitCount_95d88_16 (by decide) ?_
  refine lv_lushr hx hb dJ13_bitCount_95d88_17 rfl ?_
  refine lv_ldc2 (v := 3689348814741910323) hx hb hown (F.lk lkJ13_bitCount_95d88_2) dJ13_bitCount_95d88_18 ?_
  refine lv_land hx hb dJ13_bitCount_95d88_21 ?_
  refine lv_ladd hx hb dJ13_bitCount_95d88_22 ?_
  refine lv_lstore_n (lv' := [(0, .long (((x - (((x.toUInt64 >>> (((nI 1)).toInt64.toUInt64 &&& Int64.toUInt64 63)).toInt64) &&& 6148914691236517205)) &&& 3689348814741910323) + ((((x - (((x.toUInt64 >>> (((nI 1)).toInt64.toUInt64 &&& Int64.toUInt64 63)).toInt64) &&& 6148914691236517205)).toUInt64 >>> (((nI 2)).toInt64.toUInt64 &&& Int64.toUInt64 63)).toInt64) &&& 3689348814741910323)))]) hx hb dJ13_bitCount_95d88_23 rfl hl (by decide) rfl (fun ls hl => ?_)
  refine lv_lload_n hx hb dJ13_bitCount_95d88_24 rfl (lv_at hl 0 rfl) ?_
  refine lv_lload_n hx hb dJ13_bitCount_95d88_25 rfl (lv_at hl 0 rfl) ?_
  refine lv_iconst (v := (nI 4)) hx hb dJ13_bitCount_95d88_26 (by decide) ?_
  refine lv_lushr hx hb dJ13_bitCount_95d88_27 rfl ?_
  refine lv_ladd hx hb dJ13_bitCount_95d88_28 ?_
  refine lv_ldc2 (v := 1085102592571150095) hx hb hown (F.lk lkJ13_bitCount_95d88_3) dJ13_bitCount_95d88_29 ?_
  refine lv_land hx hb dJ13_bitCount_95d88_32 ?_
  refine lv_lstore_n (lv' := [(0, .long (((((x - (((x.toUInt64 >>> (((nI 1)).toInt64.toUInt64 &&& Int64.toUInt64 63)).toInt64) &&& 6148914691236517205)) &&& 3689348814741910323) + ((((x - (((x.toUInt64 >>> (((nI 1)).toInt64.toUInt64 &&& Int64.toUInt64 63)).toInt64) &&& 6148914691236517205)).toUInt64 >>> (((nI 2)).toInt64.toUInt64 &&& Int64.toUInt64 63)).toInt64) &&& 3689348814741910323)) + (((((x - (((x.toUInt64 >>> (((nI 1)).toInt64.toUInt64 &&& Int64.toUInt64 63)).toInt64) &&& 6148914691236517205)) &&& 3689348814741910323) + ((((x - (((x.toUInt64 >>> (((nI 1)).toInt64.toUInt64 &&& Int64.toUInt64 63)).toInt64) &&& 6148914691236517205)).toUInt64 >>> (((nI 2)).toInt64.toUInt64 &&& Int64.toUInt64 63)).toInt64) &&& 3689348814741910323)).toUInt64 >>> (((nI 4)).toInt64.toUInt64 &&& Int64.toUInt64 63)).toInt64)) &&& 1085102592571150095))]) hx hb dJ13_bitCount_95d88_33 rfl hl (by decide) rfl (fun ls hl => ?_)
  refine lv_lload_n hx hb dJ13_bitCount_95d88_34 rfl (lv_at hl 0 rfl) ?_
  refine lv_lload_n hx hb dJ13_bitCount_95d88_35 rfl (lv_at hl 0 rfl) ?_
  refine lv_bipush (v := (nI 8)) hx hb dJ13_bitCount_95d88_36 (by decide) ?_
  refine lv_lushr hx hb dJ13_bitCount_95d88_38 rfl ?_
  refine lv_ladd hx hb dJ13_bitCount_95d88_39 ?_
  refine lv_lstore_n (lv' := [(0, .long ((((((x - (((x.toUInt64 >>> (((nI 1)).toInt64.toUInt64 &&& Int64.toUInt64 63)).toInt64) &&& 6148914691236517205)) &&& 3689348814741910323) + ((((x - (((x.toUInt64 >>> (((nI 1)).toInt64.toUInt64 &&& Int64.toUInt64 63)).toInt64) &&& 6148914691236517205)).toUInt64 >>> (((nI 2)).toInt64.toUInt64 &&& Int64.toUInt64 63)).toInt64) &&& 3689348814741910323)) + (((((x - (((x.toUInt64 >>> (((nI 1)).toInt64.toUInt64 &&& Int64.toUInt64 63)).toInt64) &&& 6148914691236517205)) &&& 3689348814741910323) + ((((x - (((x.toUInt64 >>> (((nI 1)).toInt64.toUInt64 &&& Int64.toUInt64 63)).toInt64) &&& 6148914691236517205)).toUInt64 >>> (((nI 2)).toInt64.toUInt64 &&& Int64.toUInt64 63)).toInt64) &&& 3689348814741910323)).toUInt64 >>> (((nI 4)).toInt64.toUInt64 &&& Int64.toUInt64 63)).toInt64)) &&& 1085102592571150095) + (((((((x - (((x.toUInt64 >>> (((nI 1)).toInt64.toUInt64 &&& Int64.toUInt64 63)).toInt64) &&& 6148914691236517205)) &&& 3689348814741910323) + ((((x - (((x.toUInt64 >>> (((nI 1)).toInt64.toUInt64 &&& Int64.toUInt64 63)).toInt64) &&& 6148914691236517205)).toUInt64 >>> (((nI 2)).toInt64.toUInt64 &&& Int64.toUInt64 63)).toInt64) &&& 3689348814741910323)) + (((((x - (((x.toUInt64 >>> (((nI 1)).toInt64.toUInt64 &&& Int64.toUInt64 63)).toInt64) &&& 6148914691236517205)) &&& 3689348814741910323) + ((((x - (((x.toUInt64 >>> (((nI 1)).toInt64.toUInt64 &&& Int64.toUInt64 63)).toInt64) &&& 6148914691236517205)).toUInt64 >>> (((nI 2)).toInt64.toUInt64 &&& Int64.toUInt64 63)).toInt64) &&& 3689348814741910323)).toUInt64 >>> (((nI 4)).toInt64.toUInt64 &&& Int64.toUInt64 63)).toInt64)) &&& 1085102592571150095).toUInt64 >>> (((nI 8)).toInt64.toUInt64 &&& Int64.toUInt64 63)).toInt64)))]) hx hb dJ13_bitCount_95d88_40 rfl hl (by decide) rfl (fun ls hl => ?_)
  refine lv_lload_n hx hb dJ13_bitCount_95d88_41 rfl (lv_at hl 0 rfl) ?_
  refine lv_lload_n hx hb dJ13_bitCount_95d88_42 rfl (lv_at hl 0 rfl) ?_
  refine lv_bipush (v := (nI 16)) hx hb dJ13_bitCount_95d88_43 (by decide) ?_
  refine lv_lushr hx hb dJ13_bitCount_95d88_45 rfl ?_
  refine lv_ladd hx hb dJ13_bitCount_95d88_46 ?_
  refine lv_lstore_n (lv' := [(0, .long (((((((x - (((x.toUInt64 >>> (((nI 1)).toInt64.toUInt64 &&& Int64.toUInt64 63)).toInt64) &&& 6148914691236517205)) &&& 3689348814741910323) + ((((x - (((x.toUInt64 >>> (((nI 1)).toInt64.toUInt64 &&& Int64.toUInt64 63)).toInt64) &&& 6148914691236517205)).toUInt64 >>> (((nI 2)).toInt64.toUInt64 &&& Int64.toUInt64 63)).toInt64) &&& 3689348814741910323)) + (((((x - (((x.toUInt64 >>> (((nI 1)).toInt64.toUInt64 &&& Int64.toUInt64 63)).toInt64) &&& 6148914691236517205)) &&& 3689348814741910323) + ((((x - (((x.toUInt64 >>> (((nI 1)).toInt64.toUInt64 &&& Int64.toUInt64 63)).toInt64) &&& 6148914691236517205)).toUInt64 >>> (((nI 2)).toInt64.toUInt64 &&& Int64.toUInt64 63)).toInt64) &&& 3689348814741910323)).toUInt64 >>> (((nI 4)).toInt64.toUInt64 &&& Int64.toUInt64 63)).toInt64)) &&& 1085102592571150095) + (((((((x - (((x.toUInt64 >>> (((nI 1)).toInt64.toUInt64 &&& Int64.toUInt64 63)).toInt64) &&& 6148914691236517205)) &&& 3689348814741910323) + ((((x - (((x.toUInt64 >>> (((nI 1)).toInt64.toUInt64 &&& Int64.toUInt64 63)).toInt64) &&& 6148914691236517205)).toUInt64 >>> (((nI 2)).toInt64.toUInt64 &&& Int64.toUInt64 63)).toInt64) &&& 3689348814741910323)) + (((((x - (((x.toUInt64 >>> (((nI 1)).toInt64.toUInt64 &&& Int64.toUInt64 63)).toInt64) &&& 6148914691236517205)) &&& 3689348814741910323) + ((((x - (((x.toUInt64 >>> (((nI 1)).toInt64.toUInt64 &&& Int64.toUInt64 63)).toInt64) &&& 6148914691236517205)).toUInt64 >>> (((nI 2)).toInt64.toUInt64 &&& Int64.toUInt64 63)).toInt64) &&& 3689348814741910323)).toUInt64 >>> (((nI 4)).toInt64.toUInt64 &&& Int64.toUInt64 63)).toInt64)) &&& 1085102592571150095).toUInt64 >>> (((nI 8)).toInt64.toUInt64 &&& Int64.toUInt64 63)).toInt64)) + ((((((((x - (((x.toUInt64 >>> (((nI 1)).toInt64.toUInt64 &&& Int64.toUInt64 63)).toInt64) &&& 6148914691236517205)) &&& 3689348814741910323) + ((((x - (((x.toUInt64 >>> (((nI 1)).toInt64.toUInt64 &&& Int64.toUInt64 63)).toInt64) &&& 6148914691236517205)).toUInt64 >>> (((nI 2)).toInt64.toUInt64 &&& Int64.toUInt64 63)).toInt64) &&& 3689348814741910323)) + (((((x - (((x.toUInt64 >>> (((nI 1)).toInt64.toUInt64 &&& Int64.toUInt64 63)).toInt64) &&& 6148914691236517205)) &&& 3689348814741910323) + ((((x - (((x.toUInt64 >>> (((nI 1)).toInt64.toUInt64 &&& Int64.toUInt64 63)).toInt64) &&& 6148914691236517205)).toUInt64 >>> (((nI 2)).toInt64.toUInt64 &&& Int64.toUInt64 63)).toInt64) &&& 3689348814741910323)).toUInt64 >>> (((nI 4)).toInt64.toUInt64 &&& Int64.toUInt64 63)).toInt64)) &&& 1085102592571150095) + (((((((x - (((x.toUInt64 >>> (((nI 1)).toInt64.toUInt64 &&& Int64.toUInt64 63)).toInt64) &&& 6148914691236517205)) &&& 3689348814741910323) + ((((x - (((x.toUInt64 >>> (((nI 1)).toInt64.toUInt64 &&& Int64.toUInt64 63)).toInt64) &&& 6148914691236517205)).toUInt64 >>> (((nI 2)).toInt64.toUInt64 &&& Int64.toUInt64 63)).toInt64) &&& 3689348814741910323)) + (((((x - (((x.toUInt64 >>> (((nI 1)).toInt64.toUInt64 &&& Int64.toUInt64 63)).toInt64) &&& 6148914691236517205)) &&& 3689348814741910323) + ((((x - (((x.toUInt64 >>> (((nI 1)).toInt64.toUInt64 &&& Int64.toUInt64 63)).toInt64) &&& 6148914691236517205)).toUInt64 >>> (((nI 2)).toInt64.toUInt64 &&& Int64.toUInt64 63)).toInt64) &&& 3689348814741910323)).toUInt64 >>> (((nI 4)).toInt64.toUInt64 &&& Int64.toUInt64 63)).toInt64)) &&& 1085102592571150095).toUInt64 >>> (((nI 8)).toInt64.toUInt64 &&& Int64.toUInt64 63)).toInt64)).toUInt64 >>> (((nI 16)).toInt64.toUInt64 &&& Int64.toUInt64 63)).toInt64)))]) hx hb dJ13_bitCount_95d88_47 rfl hl (by decide) rfl (fun ls hl => ?_)
  refine lv_lload_n hx hb dJ13_bitCount_95d88_48 rfl (lv_at hl 0 rfl) ?_
  refine lv_lload_n hx hb dJ13_bitCount_95d88_49 rfl (lv_at hl 0 rfl) ?_
  refine lv_bipush (v := (nI 32)) hx hb dJ13_bitCount_95d88_50 (by decide) ?_
  refine lv_lushr hx hb dJ13_bitCount_95d88_52 rfl ?_
  refine lv_ladd hx hb dJ13_bitCount_95d88_53 ?_
  refine lv_lstore_n (lv' := [(0, .long ((((((((x - (((x.toUInt64 >>> (((nI 1)).toInt64.toUInt64 &&& Int64.toUInt64 63)).toInt64) &&& 6148914691236517205)) &&& 3689348814741910323) + ((((x - (((x.toUInt64 >>> (((nI 1)).toInt64.toUInt64 &&& Int64.toUInt64 63)).toInt64) &&& 6148914691236517205)).toUInt64 >>> (((nI 2)).toInt64.toUInt64 &&& Int64.toUInt64 63)).toInt64) &&& 3689348814741910323)) + (((((x - (((x.toUInt64 >>> (((nI 1)).toInt64.toUInt64 &&& Int64.toUInt64 63)).toInt64) &&& 6148914691236517205)) &&& 3689348814741910323) + ((((x - (((x.toUInt64 >>> (((nI 1)).toInt64.toUInt64 &&& Int64.toUInt64 63)).toInt64) &&& 6148914691236517205)).toUInt64 >>> (((nI 2)).toInt64.toUInt64 &&& Int64.toUInt64 63)).toInt64) &&& 3689348814741910323)).toUInt64 >>> (((nI 4)).toInt64.toUInt64 &&& Int64.toUInt64 63)).toInt64)) &&& 1085102592571150095) + (((((((x - (((x.toUInt64 >>> (((nI 1)).toInt64.toUInt64 &&& Int64.toUInt64 63)).toInt64) &&& 6148914691236517205)) &&& 3689348814741910323) + ((((x - (((x.toUInt64 >>> (((nI 1)).toInt64.toUInt64 &&& Int64.toUInt64 63)).toInt64) &&& 6148914691236517205)).toUInt64 >>> (((nI 2)).toInt64.toUInt64 &&& Int64.toUInt64 63)).toInt64) &&& 3689348814741910323)) + (((((x - (((x.toUInt64 >>> (((nI 1)).toInt64.toUInt64 &&& Int64.toUInt64 63)).toInt64) &&& 6148914691236517205)) &&& 3689348814741910323) + ((((x - (((x.toUInt64 >>> (((nI 1)).toInt64.toUInt64 &&& Int64.toUInt64 63)).toInt64) &&& 6148914691236517205)).toUInt64 >>> (((nI 2)).toInt64.toUInt64 &&& Int64.toUInt64 63)).toInt64) &&& 3689348814741910323)).toUInt64 >>> (((nI 4)).toInt64.toUInt64 &&& Int64.toUInt64 63)).toInt64)) &&& 1085102592571150095).toUInt64 >>> (((nI 8)).toInt64.toUInt64 &&& Int64.toUInt64 63)).toInt64)) + ((((((((x - (((x.toUInt64 >>> (((nI 1)).toInt64.toUInt64 &&& Int64.toUInt64 63)).toInt64) &&& 6148914691236517205)) &&& 3689348814741910323) + ((((x - (((x.toUInt64 >>> (((nI 1)).toInt64.toUInt64 &&& Int64.toUInt64 63)).toInt64) &&& 6148914691236517205)).toUInt64 >>> (((nI 2)).toInt64.toUInt64 &&& Int64.toUInt64 63)).toInt64) &&& 3689348814741910323)) + (((((x - (((x.toUInt64 >>> (((nI 1)).toInt64.toUInt64 &&& Int64.toUInt64 63)).toInt64) &&& 6148914691236517205)) &&& 3689348814741910323) + ((((x - (((x.toUInt64 >>> (((nI 1)).toInt64.toUInt64 &&& Int64.toUInt64 63)).toInt64) &&& 6148914691236517205)).toUInt64 >>> (((nI 2)).toInt64.toUInt64 &&& Int64.toUInt64 63)).toInt64) &&& 3689348814741910323)).toUInt64 >>> (((nI 4)).toInt64.toUInt64 &&& Int64.toUInt64 63)).toInt64)) &&& 1085102592571150095) + (((((((x - (((x.toUInt64 >>> (((nI 1)).toInt64.toUInt64 &&& Int64.toUInt64 63)).toInt64) &&& 6148914691236517205)) &&& 3689348814741910323) + ((((x - (((x.toUInt64 >>> (((nI 1)).toInt64.toUInt64 &&& Int64.toUInt64 63)).toInt64) &&& 6148914691236517205)).toUInt64 >>> (((nI 2)).toInt64.toUInt64 &&& Int64.toUInt64 63)).toInt64) &&& 3689348814741910323)) + (((((x - (((x.toUInt64 >>> (((nI 1)).toInt64.toUInt64 &&& Int64.toUInt64 63)).toInt64) &&& 6148914691236517205)) &&& 3689348814741910323) + ((((x - (((x.toUInt64 >>> (((nI 1)).toInt64.toUInt64 &&& Int64.toUInt64 63)).toInt64) &&& 6148914691236517205)).toUInt64 >>> (((nI 2)).toInt64.toUInt64 &&& Int64.toUInt64 63)).toInt64) &&& 3689348814741910323)).toUInt64 >>> (((nI 4)).toInt64.toUInt64 &&& Int64.toUInt64 63)).toInt64)) &&& 1085102592571150095).toUInt64 >>> (((nI 8)).toInt64.toUInt64 &&& Int64.toUInt64 63)).toInt64)).toUInt64 >>> (((nI 16)).toInt64.toUInt64 &&& Int64.toUInt64 63)).toInt64)) + (((((((((x - (((x.toUInt64 >>> (((nI 1)).toInt64.toUInt64 &&& Int64.toUInt64 63)).toInt64) &&& 6148914691236517205)) &&& 3689348814741910323) + ((((x - (((x.toUInt64 >>> (((nI 1)).toInt64.toUInt64 &&& Int64.toUInt64 63)).toInt64) &&& 6148914691236517205)).toUInt64 >>> (((nI 2)).toInt64.toUInt64 &&& Int64.toUInt64 63)).toInt64) &&& 3689348814741910323)) + (((((x - (((x.toUInt64 >>> (((nI 1)).toInt64.toUInt64 &&& Int64.toUInt64 63)).toInt64) &&& 6148914691236517205)) &&& 3689348814741910323) + ((((x - (((x.toUInt64 >>> (((nI 1)).toInt64.toUInt64 &&& Int64.toUInt64 63)).toInt64) &&& 6148914691236517205)).toUInt64 >>> (((nI 2)).toInt64.toUInt64 &&& Int64.toUInt64 63)).toInt64) &&& 3689348814741910323)).toUInt64 >>> (((nI 4)).toInt64.toUInt64 &&& Int64.toUInt64 63)).toInt64)) &&& 1085102592571150095) + (((((((x - (((x.toUInt64 >>> (((nI 1)).toInt64.toUInt64 &&& Int64.toUInt64 63)).toInt64) &&& 6148914691236517205)) &&& 3689348814741910323) + ((((x - (((x.toUInt64 >>> (((nI 1)).toInt64.toUInt64 &&& Int64.toUInt64 63)).toInt64) &&& 6148914691236517205)).toUInt64 >>> (((nI 2)).toInt64.toUInt64 &&& Int64.toUInt64 63)).toInt64) &&& 3689348814741910323)) + (((((x - (((x.toUInt64 >>> (((nI 1)).toInt64.toUInt64 &&& Int64.toUInt64 63)).toInt64) &&& 6148914691236517205)) &&& 3689348814741910323) + ((((x - (((x.toUInt64 >>> (((nI 1)).toInt64.toUInt64 &&& Int64.toUInt64 63)).toInt64) &&& 6148914691236517205)).toUInt64 >>> (((nI 2)).toInt64.toUInt64 &&& Int64.toUInt64 63)).toInt64) &&& 3689348814741910323)).toUInt64 >>> (((nI 4)).toInt64.toUInt64 &&& Int64.toUInt64 63)).toInt64)) &&& 1085102592571150095).toUInt64 >>> (((nI 8)).toInt64.toUInt64 &&& Int64.toUInt64 63)).toInt64)) + ((((((((x - (((x.toUInt64 >>> (((nI 1)).toInt64.toUInt64 &&& Int64.toUInt64 63)).toInt64) &&& 6148914691236517205)) &&& 3689348814741910323) + ((((x - (((x.toUInt64 >>> (((nI 1)).toInt64.toUInt64 &&& Int64.toUInt64 63)).toInt64) &&& 6148914691236517205)).toUInt64 >>> (((nI 2)).toInt64.toUInt64 &&& Int64.toUInt64 63)).toInt64) &&& 3689348814741910323)) + (((((x - (((x.toUInt64 >>> (((nI 1)).toInt64.toUInt64 &&& Int64.toUInt64 63)).toInt64) &&& 6148914691236517205)) &&& 3689348814741910323) + ((((x - (((x.toUInt64 >>> (((nI 1)).toInt64.toUInt64 &&& Int64.toUInt64 63)).toInt64) &&& 6148914691236517205)).toUInt64 >>> (((nI 2)).toInt64.toUInt64 &&& Int64.toUInt64 63)).toInt64) &&& 3689348814741910323)).toUInt64 >>> (((nI 4)).toInt64.toUInt64 &&& Int64.toUInt64 63)).toInt64)) &&& 1085102592571150095) + (((((((x - (((x.toUInt64 >>> (((nI 1)).toInt64.toUInt64 &&& Int64.toUInt64 63)).toInt64) &&& 6148914691236517205)) &&& 3689348814741910323) + ((((x - (((x.toUInt64 >>> (((nI 1)).toInt64.toUInt64 &&& Int64.toUInt64 63)).toInt64) &&& 6148914691236517205)).toUInt64 >>> (((nI 2)).toInt64.toUInt64 &&& Int64.toUInt64 63)).toInt64) &&& 3689348814741910323)) + (((((x - (((x.toUInt64 >>> (((nI 1)).toInt64.toUInt64 &&& Int64.toUInt64 63)).toInt64) &&& 6148914691236517205)) &&& 3689348814741910323) + ((((x - (((x.toUInt64 >>> (((nI 1)).toInt64.toUInt64 &&& Int64.toUInt64 63)).toInt64) &&& 6148914691236517205)).toUInt64 >>> (((nI 2)).toInt64.toUInt64 &&& Int64.toUInt64 63)).toInt64) &&& 3689348814741910323)).toUInt64 >>> (((nI 4)).toInt64.toUInt64 &&& Int64.toUInt64 63)).toInt64)) &&& 1085102592571150095).toUInt64 >>> (((nI 8)).toInt64.toUInt64 &&& Int64.toUInt64 63)).toInt64)).toUInt64 >>> (((nI 16)).toInt64.toUInt64 &&& Int64.toUInt64 63)).toInt64)).toUInt64 >>> (((nI 32)).toInt64.toUInt64 &&& Int64.toUInt64 63)).toInt64)))]) hx hb dJ13_bitCount_95d88_54 rfl hl (by decide) rfl (fun ls hl => ?_)
  refine lv_lload_n hx hb dJ13_bitCount_95d88_55 rfl (lv_at hl 0 rfl) ?_
  refine lv_l2i hx hb dJ13_bitCount_95d88_56 rfl ?_
  refine lv_bipush (v := (nI 127)) hx hb dJ13_bitCount_95d88_57 (by decide) ?_
  refine lv_iand hx hb dJ13_bitCount_95d88_59 ?_
  exact rtI F hP hD hS dJ13_bitCount_95d88_60 (⟨rfl, rfl⟩)

theorem kX4_size : Cal yX4_size wsX4_size cX4_size 2 (some .int) 1 := ⟨⟨_, rfl⟩, by decide +kernel⟩
set_option maxHeartbeats 4000000 in
set_option maxRecDepth 100000 in
theorem c_X4_size (l : Launch) (g : EE) (x : Int64) (hin : inS x) : CI l yX4_size wsX4_size ({ frames := 1, cells := 0, slots := 0, locals := 21 }) g [.long x] [] (fun (rz : Int32) (wz : va_W) => rz = (nI (cnS (bitL x))) ∧ wz = []) 0 0 := by
  refine ctI (cc := cX4_size) (maxL := 2) (ret := (some .int)) (by decide) rfl (Nat.le_of_ble_eq_true rfl) ?_
  intro p_ e_ s_ m_ bl_ mt_ cd_ A ls F hnm hP hD hS hl
  obtain ⟨hx, hb, hml, hown, hts, hK, hX, hA, hrt_, hlocks⟩ := id F
  have hl : lv_has ls 2 [(0, .long x)] := hl
  refine lv_lload_n hx hb dX4_size_0 rfl (lv_at hl 0 rfl) ?_
  refine cSI (As := [.long x]) (rest := []) F (c_J13_bitCount_95d88 l g x ) kJ13_bitCount_95d88 gX4_size_J13_bitCount_95d88 rfl rfl ⟨Nat.le_of_ble_eq_true rfl, Nat.le_of_ble_eq_true rfl⟩ hP hD hS [] [] rfl rfl hl.1 rfl rfl (Nat.le_of_ble_eq_true rfl) dX4_size_1 ⟨Nat.le_of_ble_eq_true rfl, Nat.le_of_ble_eq_true rfl⟩ (fun rz w1 H locs hpo hP hD hS => ?_)
  obtain ⟨rfl, rfl⟩ := hpo
  obtain ⟨hP, hD⟩ := nx (ws' := []) hP hD [] (ndB_ok _ rfl) rfl
  exact rtI F hP hD hS dX4_size_4 (⟨bcF_cn hin, rfl⟩)

theorem kX4_shortestOf : Cal yX4_shortestOf wsX4_shortestOf cX4_shortestOf 3 (some .int) 1 := ⟨⟨_, rfl⟩, by decide +kernel⟩
set_option maxHeartbeats 4000000 in
set_option maxRecDepth 100000 in
theorem c_X4_shortestOf (l : Launch) (g : EE) (x : Int64)  : CI l yX4_shortestOf wsX4_shortestOf ({ frames := 1, cells := 0, slots := 0, locals := 22 }) g [.long x] [] (fun (rz : Int32) (wz : va_W) => rz = (ff (bitL x) 40 1) ∧ wz = []) 0 0 := by
  refine ctI (cc := cX4_shortestOf) (maxL := 3) (ret := (some .int)) (by decide) rfl (Nat.le_of_ble_eq_true rfl) ?_
  intro p_ e_ s_ m_ bl_ mt_ cd_ A ls F hnm hP hD hS hl
  obtain ⟨hx, hb, hml, hown, hts, hK, hX, hA, hrt_, hlocks⟩ := id F
  have hl : lv_has ls 3 [(0, .long x)] := hl
  refine lv_iconst (v := (nI 1)) hx hb dX4_shortestOf_0 (by decide) ?_
  refine lv_istore_n (lv' := [(2, .int (nI 1)), (0, .long x)]) hx hb dX4_shortestOf_1 rfl hl (by decide) rfl (fun ls hl => ?_)
  refine xlo (σ := Nat) 3 (fun (i : Nat) => [(0, .long x), (2, .int (nI i))]) (fun (i : Nat) => []) (fun (i : Nat) => ff (bitL x) 40 1 = ff (bitL x) (41 - i) i ∧ 1 ≤ i ∧ i ≤ 41) (fun (i : Nat) => 41 - i) (fun xz_ hI ih2 H locs ls hP hD hS hl => ?_) 1 (show ff (bitL x) 40 1 = ff (bitL x) (41 - 1) 1 ∧ 1 ≤ 1 ∧ 1 ≤ 41 from (⟨rfl, by omega, by omega⟩)) hP hD hS (lv_sub hl [1, 0] rfl)
  obtain ⟨i, rfl⟩ : ∃ z, z = xz_ := ⟨_, rfl⟩
  have hP : va_P (eD g) vwCl [] H := hP
  have hD : va_D A [] := hD
  have hl : lv_has ls 3 [(0, .long x), (2, .int (nI i))] := hl
  have hI2 : ff (bitL x) 40 1 = ff (bitL x) (41 - i) i ∧ 1 ≤ i ∧ i ≤ 41 := hI
  clear hI
  obtain ⟨hf0, hi1, hi2⟩ := id hI2
  refine lv_iload_n hx hb dX4_shortestOf_2 rfl (lv_at hl 1 rfl) ?_
  refine lv_bipush (v := (nI 40)) hx hb dX4_shortestOf_3 (by decide) ?_
  refine xgt (tgt := 24) hx hb dX4_shortestOf_5 (by decide) (by omega) (by omega) (fun c5 => ?_) (fun c5 => ?_)
  · skip
    refine lv_bipush (v := (-9)) hx hb dX4_shortestOf_24 (by decide) ?_
    exact rtI F hP hD hS dX4_shortestOf_26 (⟨by rw [hf0]; exact (ff_end (by omega)).symm, rfl⟩)
  · skip
    refine lv_lload_n hx hb dX4_shortestOf_8 rfl (lv_at hl 0 rfl) ?_
    refine lv_iload_n hx hb dX4_shortestOf_9 rfl (lv_at hl 1 rfl) ?_
    refine cSI (As := [.long x, .int (nI i)]) (rest := []) F (c_X4_holds l g x i (by omega)) kX4_holds gX4_shortestOf_X4_holds rfl rfl ⟨Nat.le_of_ble_eq_true rfl, Nat.le_of_ble_eq_true rfl⟩ hP hD hS [] [] rfl rfl hl.1 rfl rfl (Nat.le_of_ble_eq_true rfl) dX4_shortestOf_10 ⟨Nat.le_of_ble_eq_true rfl, Nat.le_of_ble_eq_true rfl⟩ (fun rz w1 H locs hpo hP hD hS => ?_)
    obtain ⟨rfl, rfl⟩ := hpo
    obtain ⟨hP, hD⟩ := nx (ws' := []) hP hD [] (ndB_ok _ rfl) rfl
    refine bqeq (tgt := 18) hx hb dX4_shortestOf_13 (by decide) (fun c13 => ?_) (fun c13 => ?_)
    · skip
      refine lv_iinc (v := (nI (i + 1))) (lv' := [(2, .int (nI (i + 1))), (0, .long x)]) hx hb dX4_shortestOf_18 hl (k := 1) rfl (iincP i 1) (by decide) rfl (fun ls hl => ?_)
      refine lv_goto (tgt := 2) hx hb dX4_shortestOf_21 (by decide) ?_
      exact ih2 (i + 1) (show ff (bitL x) 40 1 = ff (bitL x) (41 - (i + 1)) (i + 1) ∧ 1 ≤ (i + 1) ∧ (i + 1) ≤ 41 from (⟨hf0.trans (ff_no (by omega) (by simpa using c13)), by omega, by omega⟩)) (show 41 - (i + 1) < 41 - i from (by omega)) _ _ _ hP hD hS (lv_sub hl [1, 0] rfl)
    · skip
      refine lv_iload_n hx hb dX4_shortestOf_16 rfl (lv_at hl 1 rfl) ?_
      exact rtI F hP hD hS dX4_shortestOf_17 (⟨by rw [hf0]; exact (ff_yes (by omega) c13).symm, rfl⟩)

theorem kX4_longestOf : Cal yX4_longestOf wsX4_longestOf cX4_longestOf 3 (some .int) 1 := ⟨⟨_, rfl⟩, by decide +kernel⟩
set_option maxHeartbeats 4000000 in
set_option maxRecDepth 100000 in
theorem c_X4_longestOf (l : Launch) (g : EE) (x : Int64)  : CI l yX4_longestOf wsX4_longestOf ({ frames := 1, cells := 0, slots := 0, locals := 22 }) g [.long x] [] (fun (rz : Int32) (wz : va_W) => rz = (fl (bitL x) 40) ∧ wz = []) 0 0 := by
  refine ctI (cc := cX4_longestOf) (maxL := 3) (ret := (some .int)) (by decide) rfl (Nat.le_of_ble_eq_true rfl) ?_
  intro p_ e_ s_ m_ bl_ mt_ cd_ A ls F hnm hP hD hS hl
  obtain ⟨hx, hb, hml, hown, hts, hK, hX, hA, hrt_, hlocks⟩ := id F
  have hl : lv_has ls 3 [(0, .long x)] := hl
  refine lv_bipush (v := (nI 40)) hx hb dX4_longestOf_0 (by decide) ?_
  refine lv_istore_n (lv' := [(2, .int (nI 40)), (0, .long x)]) hx hb dX4_longestOf_2 rfl hl (by decide) rfl (fun ls hl => ?_)
  refine xlo (σ := Nat) 3 (fun (i : Nat) => [(0, .long x), (2, .int (nI i))]) (fun (i : Nat) => []) (fun (i : Nat) => fl (bitL x) 40 = fl (bitL x) i ∧ i ≤ 40) (fun (i : Nat) => i) (fun xz_ hI ih3 H locs ls hP hD hS hl => ?_) 40 (show fl (bitL x) 40 = fl (bitL x) 40 ∧ 40 ≤ 40 from (⟨rfl, by omega⟩)) hP hD hS (lv_sub hl [1, 0] rfl)
  obtain ⟨i, rfl⟩ : ∃ z, z = xz_ := ⟨_, rfl⟩
  have hP : va_P (eD g) vwCl [] H := hP
  have hD : va_D A [] := hD
  have hl : lv_has ls 3 [(0, .long x), (2, .int (nI i))] := hl
  have hI3 : fl (bitL x) 40 = fl (bitL x) i ∧ i ≤ 40 := hI
  clear hI
  obtain ⟨hf0, hi1⟩ := id hI3
  refine lv_iload_n hx hb dX4_longestOf_3 rfl (lv_at hl 1 rfl) ?_
  refine lv_iconst (v := (nI 1)) hx hb dX4_longestOf_4 (by decide) ?_
  refine xlt (tgt := 24) hx hb dX4_longestOf_5 (by decide) (by omega) (by omega) (fun c5 => ?_) (fun c5 => ?_)
  · skip
    refine lv_bipush (v := (-9)) hx hb dX4_longestOf_24 (by decide) ?_
    exact rtI F hP hD hS dX4_longestOf_26 (⟨by rw [hf0, show i = 0 by omega]; rfl, rfl⟩)
  · skip
    refine lv_lload_n hx hb dX4_longestOf_8 rfl (lv_at hl 0 rfl) ?_
    refine lv_iload_n hx hb dX4_longestOf_9 rfl (lv_at hl 1 rfl) ?_
    refine cSI (As := [.long x, .int (nI i)]) (rest := []) F (c_X4_holds l g x i (by omega)) kX4_holds gX4_longestOf_X4_holds rfl rfl ⟨Nat.le_of_ble_eq_true rfl, Nat.le_of_ble_eq_true rfl⟩ hP hD hS [] [] rfl rfl hl.1 rfl rfl (Nat.le_of_ble_eq_true rfl) dX4_longestOf_10 ⟨Nat.le_of_ble_eq_true rfl, Nat.le_of_ble_eq_true rfl⟩ (fun rz w1 H locs hpo hP hD hS => ?_)
    obtain ⟨rfl, rfl⟩ := hpo
    obtain ⟨hP, hD⟩ := nx (ws' := []) hP hD [] (ndB_ok _ rfl) rfl
    refine bqeq (tgt := 18) hx hb dX4_longestOf_13 (by decide) (fun c13 => ?_) (fun c13 => ?_)
    · skip
      refine lv_iinc (v := (nI (i - 1))) (lv' := [(2, .int (nI (i - 1))), (0, .long x)]) hx hb dX4_longestOf_18 hl (k := 1) rfl (iincM (a := i) (n := 1) (by omega)) (by decide) rfl (fun ls hl => ?_)
      refine lv_goto (tgt := 3) hx hb dX4_longestOf_21 (by decide) ?_
      exact ih3 (i - 1) (show fl (bitL x) 40 = fl (bitL x) (i - 1) ∧ (i - 1) ≤ 40 from (⟨hf0.trans (fl_no (by omega) (by simpa using c13)), by omega⟩)) (show (i - 1) < i from (by omega)) _ _ _ hP hD hS (lv_sub hl [1, 0] rfl)
    · skip
      refine lv_iload_n hx hb dX4_longestOf_16 rfl (lv_at hl 1 rfl) ?_
      exact rtI F hP hD hS dX4_longestOf_17 (⟨by rw [hf0]; exact (fl_yes (by omega) c13).symm, rfl⟩)

theorem kX4_commonDivisor : Cal yX4_commonDivisor wsX4_commonDivisor cX4_commonDivisor 11 (some .long) 2 := ⟨⟨_, rfl⟩, by decide +kernel⟩
set_option maxHeartbeats 4000000 in
set_option maxRecDepth 100000 in
theorem c_X4_commonDivisor (l : Launch) (g : EE) (a : Nat) (b : Nat) (ha : a < 2 ^ 60) (hb0 : b ≤ 1000) : CL l yX4_commonDivisor wsX4_commonDivisor ({ frames := 0, cells := 0, slots := 0, locals := 0 }) g [.long (lN a), .long (lN b)] [] (fun (rz : Int64) (wz : va_W) => rz = (lN (Nat.gcd a b)) ∧ wz = []) 0 0 := by
  refine ctL (cc := cX4_commonDivisor) (maxL := 11) (ret := (some .long)) (by decide) rfl (Nat.le_of_ble_eq_true rfl) ?_
  intro p_ e_ s_ m_ bl_ mt_ cd_ A ls F hnm hP hD hS hl
  obtain ⟨hx, hb, hml, hown, hts, hK, hX, hA, hrt_, hlocks⟩ := id F
  have hl : lv_has ls 11 [(0, .long (lN a)), (2, .long (lN b))] := hl
  refine lv_lload_n hx hb dX4_commonDivisor_0 rfl (lv_at hl 0 rfl) ?_
  refine lv_lstore (lv' := [(4, .long (lN a)), (0, .long (lN a)), (2, .long (lN b))]) hx hb dX4_commonDivisor_1 hl (by decide) rfl (fun ls hl => ?_)
  refine lv_lload_n hx hb dX4_commonDivisor_3 rfl (lv_at hl 2 rfl) ?_
  refine lv_lstore (lv' := [(6, .long (lN b)), (4, .long (lN a)), (0, .long (lN a)), (2, .long (lN b))]) hx hb dX4_commonDivisor_4 hl (by decide) rfl (fun ls hl => ?_)
  refine lv_iconst (v := (nI 0)) hx hb dX4_commonDivisor_6 (by decide) ?_
  refine lv_istore (lv' := [(8, .int (nI 0)), (6, .long (lN b)), (4, .long (lN a)), (0, .long (lN a)), (2, .long (lN b))]) hx hb dX4_commonDivisor_7 hl (by decide) rfl (fun ls hl => ?_)
  refine xlo (σ := Nat × Nat × Nat) 11 (fun xz_ => (fun (t : Nat) (u : Nat) (v : Nat) => [(0, .long (lN a)), (2, .long (lN b)), (4, .long (lN u)), (6, .long (lN v)), (8, .int (nI t))]) xz_.1 xz_.2.1 xz_.2.2) (fun xz_ => (fun (t : Nat) (u : Nat) (v : Nat) => []) xz_.1 xz_.2.1 xz_.2.2) (fun xz_ => (fun (t : Nat) (u : Nat) (v : Nat) => Nat.gcd u v = Nat.gcd a b ∧ t ≤ 100 ∧ u < 2 ^ 60 ∧ v ≤ 1000 ∧ (t = 0 ∧ v = b ∨ 1 ≤ t ∧ v < u ∧ u * v * 2 ^ (t - 1) ≤ b * b)) xz_.1 xz_.2.1 xz_.2.2) (fun xz_ => (fun (t : Nat) (u : Nat) (v : Nat) => 100 - t) xz_.1 xz_.2.1 xz_.2.2) (fun xz_ hI ih9 H locs ls hP hD hS hl => ?_) (0, a, b) (show Nat.gcd a b = Nat.gcd a b ∧ 0 ≤ 100 ∧ a < 2 ^ 60 ∧ b ≤ 1000 ∧ (0 = 0 ∧ b = b ∨ 1 ≤ 0 ∧ b < a ∧ a * b * 2 ^ (0 - 1) ≤ b * b) from (⟨rfl, by omega, ha, hb0, Or.inl ⟨rfl, rfl⟩⟩)) hP hD hS (lv_sub hl [3, 4, 2, 1, 0] rfl)
  obtain ⟨t, u, v⟩ := xz_
  have hP : va_P (eD g) vwCl [] H := hP
  have hD : va_D A [] := hD
  have hl : lv_has ls 11 [(0, .long (lN a)), (2, .long (lN b)), (4, .long (lN u)), (6, .long (lN v)), (8, .int (nI t))] := hl
  have hI9 : Nat.gcd u v = Nat.gcd a b ∧ t ≤ 100 ∧ u < 2 ^ 60 ∧ v ≤ 1000 ∧ (t = 0 ∧ v = b ∨ 1 ≤ t ∧ v < u ∧ u * v * 2 ^ (t - 1) ≤ b * b) := hI
  clear hI
  obtain ⟨hg, ht, hu, hv, hd⟩ := id hI9
  refine lv_iload hx hb dX4_commonDivisor_9 (lv_at hl 4 rfl) ?_
  refine lv_bipush (v := (nI 100)) hx hb dX4_commonDivisor_11 (by decide) ?_
  refine xge (tgt := 44) hx hb dX4_commonDivisor_13 (by decide) (by omega) (by omega) (fun c13 => ?_) (fun c13 => ?_)
  · skip
    refine lv_lload hx hb dX4_commonDivisor_44 (lv_at hl 2 rfl) ?_
    exact rtL F hP hD hS dX4_commonDivisor_46 (⟨by rw [← hg, show v = 0 by first | exact gcd_end (by omega) hb0 hd | omega, Nat.gcd_zero_right], rfl⟩)
  · skip
    refine lv_lload hx hb dX4_commonDivisor_16 (lv_at hl 3 rfl) ?_
    refine lv_lconst (v := lN 0) hx hb dX4_commonDivisor_18 rfl ?_
    refine keq (tgt := 44) hx hb dX4_commonDivisor_19 dX4_commonDivisor_20 (by decide) (by omega) (by omega) (fun c20 => ?_) (fun c20 => ?_)
    · skip
      refine lv_lload hx hb dX4_commonDivisor_44 (lv_at hl 2 rfl) ?_
      exact rtL F hP hD hS dX4_commonDivisor_46 (⟨by rw [← hg, show v = 0 by first | exact gcd_end (by omega) hb0 hd | omega, Nat.gcd_zero_right], rfl⟩)
    · skip
      refine lv_lload hx hb dX4_commonDivisor_23 (lv_at hl 2 rfl) ?_
      refine lv_lload hx hb dX4_commonDivisor_25 (lv_at hl 3 rfl) ?_
      refine xlrem hx hb (by omega) (by omega) (by omega) dX4_commonDivisor_27 ?_
      refine lv_lstore (lv' := [(9, .long (lN (u % v))), (0, .long (lN a)), (2, .long (lN b)), (4, .long (lN u)), (6, .long (lN v)), (8, .int (nI t))]) hx hb dX4_commonDivisor_28 hl (by decide) rfl (fun ls hl => ?_)
      refine lv_lload hx hb dX4_commonDivisor_30 (lv_at hl 4 rfl) ?_
      refine lv_lstore (lv' := [(4, .long (lN v)), (9, .long (lN (u % v))), (0, .long (lN a)), (2, .long (lN b)), (6, .long (lN v)), (8, .int (nI t))]) hx hb dX4_commonDivisor_32 hl (by decide) rfl (fun ls hl => ?_)
      refine lv_lload hx hb dX4_commonDivisor_34 (lv_at hl 1 rfl) ?_
      refine lv_lstore (lv' := [(6, .long (lN (u % v))), (4, .long (lN v)), (9, .long (lN (u % v))), (0, .long (lN a)), (2, .long (lN b)), (8, .int (nI t))]) hx hb dX4_commonDivisor_36 hl (by decide) rfl (fun ls hl => ?_)
      refine lv_iinc (v := (nI (t + 1))) (lv' := [(8, .int (nI (t + 1))), (6, .long (lN (u % v))), (4, .long (lN v)), (9, .long (lN (u % v))), (0, .long (lN a)), (2, .long (lN b))]) hx hb dX4_commonDivisor_38 hl (k := 5) rfl (iincP t 1) (by decide) rfl (fun ls hl => ?_)
      refine lv_goto (tgt := 9) hx hb dX4_commonDivisor_41 (by decide) ?_
      exact ih9 (t + 1, v, u % v) (show Nat.gcd v (u % v) = Nat.gcd a b ∧ (t + 1) ≤ 100 ∧ v < 2 ^ 60 ∧ (u % v) ≤ 1000 ∧ ((t + 1) = 0 ∧ (u % v) = b ∨ 1 ≤ (t + 1) ∧ (u % v) < v ∧ v * (u % v) * 2 ^ ((t + 1) - 1) ≤ b * b) from (⟨by rw [← hg]; exact (gcd_swap u v).symm, by omega, by omega, by have := Nat.mod_lt u (show 0 < v by omega); omega, Or.inr (gcd_turn (by omega) hd)⟩)) (show 100 - (t + 1) < 100 - t from (by omega)) _ _ _ hP hD hS (lv_sub hl [4, 5, 2, 1, 0] rfl)

theorem kX4_fraction : Cal yX4_fraction wsX4_fraction cX4_fraction 7 (some .long) 3 := ⟨⟨_, rfl⟩, by decide +kernel⟩
set_option maxHeartbeats 4000000 in
set_option maxRecDepth 100000 in
theorem c_X4_fraction (l : Launch) (g : EE) (a : Nat) (b : Nat) (x : Int32) (ha : a < 2 ^ 60) (hb0 : b ≤ 1000) : CL l yX4_fraction wsX4_fraction ({ frames := 1, cells := 0, slots := 0, locals := 30 }) g [.long (lN a), .long (lN b), .int x] [] (fun (rz : Int64) (wz : va_W) => rz = (lN (frN a b (decide (x.toInt = 0)))) ∧ wz = []) 0 0 := by
  refine ctL (cc := cX4_fraction) (maxL := 7) (ret := (some .long)) (by decide) rfl (Nat.le_of_ble_eq_true rfl) ?_
  intro p_ e_ s_ m_ bl_ mt_ cd_ A ls F hnm hP hD hS hl
  obtain ⟨hx, hb, hml, hown, hts, hK, hX, hA, hrt_, hlocks⟩ := id F
  have hl : lv_has ls 7 [(0, .long (lN a)), (2, .long (lN b)), (4, .int x)] := hl
  refine lv_lload_n hx hb dX4_fraction_0 rfl (lv_at hl 0 rfl) ?_
  refine lv_lload_n hx hb dX4_fraction_1 rfl (lv_at hl 1 rfl) ?_
  refine cSL (As := [.long (lN a), .long (lN b)]) (rest := []) F (c_X4_commonDivisor l g a b (ha) (hb0)) kX4_commonDivisor gX4_fraction_X4_commonDivisor rfl rfl ⟨Nat.le_of_ble_eq_true rfl, Nat.le_of_ble_eq_true rfl⟩ hP hD hS [] [] rfl rfl hl.1 rfl rfl (Nat.le_of_ble_eq_true rfl) dX4_fraction_2 ⟨Nat.le_of_ble_eq_true rfl, Nat.le_of_ble_eq_true rfl⟩ (fun rz w1 H locs hpo hP hD hS => ?_)
  obtain ⟨rfl, rfl⟩ := hpo
  obtain ⟨hP, hD⟩ := nx (ws' := []) hP hD [] (ndB_ok _ rfl) rfl
  have hgl : Nat.gcd a b ≤ a + b := gcd_le a b
  have hgp : 0 < b → 0 < Nat.gcd a b := fun h => Nat.gcd_pos_of_pos_right a h
  refine lv_lstore (lv' := [(5, .long (lN (Nat.gcd a b))), (0, .long (lN a)), (2, .long (lN b)), (4, .int x)]) hx hb dX4_fraction_5 hl (by decide) rfl (fun ls hl => ?_)
  refine lv_lload_n hx hb dX4_fraction_7 rfl (lv_at hl 2 rfl) ?_
  refine lv_lconst (v := lN 0) hx hb dX4_fraction_8 rfl ?_
  refine kle (tgt := 20) hx hb dX4_fraction_9 dX4_fraction_10 (by decide) (by omega) (by omega) (fun c10 => ?_) (fun c10 => ?_)
  · skip
    refine lv_iload hx hb dX4_fraction_20 (lv_at hl 3 rfl) ?_
    refine wne (tgt := 29) hx hb dX4_fraction_22 (by decide) (fun c22 => ?_) (fun c22 => ?_)
    · skip
      refine lv_lconst (v := lN 1) hx hb dX4_fraction_29 rfl ?_
      exact rtL F hP hD hS dX4_fraction_30 (⟨by first | (exfalso; have := hgp (by omega); omega) | (congr 1; unfold frN; (first | rw [if_pos (by omega)] | rw [if_neg (by omega)]); (first | rw [if_pos (by simpa using c22)] | rw [if_neg (by simpa using c22)] | rw [if_pos (by simpa using c33)] | rw [if_neg (by simpa using c33)])), rfl⟩)
    · skip
      refine lv_lconst (v := lN 0) hx hb dX4_fraction_25 rfl ?_
      refine lv_goto (tgt := 30) hx hb dX4_fraction_26 (by decide) ?_
      exact rtL F hP hD hS dX4_fraction_30 (⟨by first | (exfalso; have := hgp (by omega); omega) | (congr 1; unfold frN; (first | rw [if_pos (by omega)] | rw [if_neg (by omega)]); (first | rw [if_pos (by simpa using c22)] | rw [if_neg (by simpa using c22)] | rw [if_pos (by simpa using c33)] | rw [if_neg (by simpa using c33)])), rfl⟩)
  · skip
    refine lv_lload hx hb dX4_fraction_13 (lv_at hl 0 rfl) ?_
    refine lv_lconst (v := lN 0) hx hb dX4_fraction_15 rfl ?_
    refine kgt (tgt := 31) hx hb dX4_fraction_16 dX4_fraction_17 (by decide) (by omega) (by omega) (fun c17 => ?_) (fun c17 => ?_)
    · skip
      refine lv_iload hx hb dX4_fraction_31 (lv_at hl 3 rfl) ?_
      refine wne (tgt := 40) hx hb dX4_fraction_33 (by decide) (fun c33 => ?_) (fun c33 => ?_)
      · skip
        refine lv_lload_n hx hb dX4_fraction_40 rfl (lv_at hl 2 rfl) ?_
        refine lv_lload hx hb dX4_fraction_41 (lv_at hl 0 rfl) ?_
        refine xldiv hx hb (by omega) (by omega) (by omega) dX4_fraction_43 ?_
        exact rtL F hP hD hS dX4_fraction_44 (⟨by first | (exfalso; have := hgp (by omega); omega) | (congr 1; unfold frN; (first | rw [if_pos (by omega)] | rw [if_neg (by omega)]); (first | rw [if_pos (by simpa using c22)] | rw [if_neg (by simpa using c22)] | rw [if_pos (by simpa using c33)] | rw [if_neg (by simpa using c33)])), rfl⟩)
      · skip
        refine lv_lload_n hx hb dX4_fraction_36 rfl (lv_at hl 1 rfl) ?_
        refine lv_goto (tgt := 41) hx hb dX4_fraction_37 (by decide) ?_
        refine lv_lload hx hb dX4_fraction_41 (lv_at hl 0 rfl) ?_
        refine xldiv hx hb (by omega) (by omega) (by omega) dX4_fraction_43 ?_
        exact rtL F hP hD hS dX4_fraction_44 (⟨by first | (exfalso; have := hgp (by omega); omega) | (congr 1; unfold frN; (first | rw [if_pos (by omega)] | rw [if_neg (by omega)]); (first | rw [if_pos (by simpa using c22)] | rw [if_neg (by simpa using c22)] | rw [if_pos (by simpa using c33)] | rw [if_neg (by simpa using c33)])), rfl⟩)
    · skip
      refine lv_iload hx hb dX4_fraction_20 (lv_at hl 3 rfl) ?_
      refine wne (tgt := 29) hx hb dX4_fraction_22 (by decide) (fun c22 => ?_) (fun c22 => ?_)
      · skip
        refine lv_lconst (v := lN 1) hx hb dX4_fraction_29 rfl ?_
        exact rtL F hP hD hS dX4_fraction_30 (⟨by first | (exfalso; have := hgp (by omega); omega) | (congr 1; unfold frN; (first | rw [if_pos (by omega)] | rw [if_neg (by omega)]); (first | rw [if_pos (by simpa using c22)] | rw [if_neg (by simpa using c22)] | rw [if_pos (by simpa using c33)] | rw [if_neg (by simpa using c33)])), rfl⟩)
      · skip
        refine lv_lconst (v := lN 0) hx hb dX4_fraction_25 rfl ?_
        refine lv_goto (tgt := 30) hx hb dX4_fraction_26 (by decide) ?_
        exact rtL F hP hD hS dX4_fraction_30 (⟨by first | (exfalso; have := hgp (by omega); omega) | (congr 1; unfold frN; (first | rw [if_pos (by omega)] | rw [if_neg (by omega)]); (first | rw [if_pos (by simpa using c22)] | rw [if_neg (by simpa using c22)] | rw [if_pos (by simpa using c33)] | rw [if_neg (by simpa using c33)])), rfl⟩)

theorem inX0_copyFrom_X0 : ∀ w ∈ u_ws RX0 TX0 5, w ∈ wsX0_copyFrom := fun _ h => (List.mem_cons_of_mem _ (List.mem_append_right _ h))
theorem lkX0_copyFrom_3 : Cond.fieldLink RX0 18 "StripInFiveSteps$Shed" "stripKind" "I" ∈ wsX0_copyFrom := List.mem_of_getElem? (i := 3) rfl
theorem lkX0_copyFrom_4 : Cond.fieldLink RX0 22 "StripInFiveSteps$Shed" "eyeKind" "I" ∈ wsX0_copyFrom := List.mem_of_getElem? (i := 4) rfl
theorem lkX0_copyFrom_5 : Cond.fieldLink RX0 25 "StripInFiveSteps$Shed" "tried" "I" ∈ wsX0_copyFrom := List.mem_of_getElem? (i := 5) rfl
theorem lkX0_copyFrom_2 : Cond.fieldLink RX0 15 "StripInFiveSteps$Shed" "numbers" "[I" ∈ wsX0_copyFrom := List.mem_of_getElem? (i := 2) rfl
theorem lkX0_copyFrom_1 : Cond.fieldLink RX0 9 "StripInFiveSteps$Shed" "weights" "[I" ∈ wsX0_copyFrom := List.mem_of_getElem? (i := 1) rfl
theorem kX0_copyFrom : Cal yX0_copyFrom wsX0_copyFrom cX0_copyFrom 3 none 1 := ⟨⟨_, rfl⟩, by decide +kernel⟩
set_option maxHeartbeats 4000000 in
set_option maxRecDepth 100000 in
theorem c_X0_copyFrom (l : Launch) (g : EE) (h0 : Nat) (h1 : Nat) (h2 : Nat) (W : Nat → Nat) (B : Nat → Nat) (sk : Nat) (ek : Nat) (tr : Nat) (k0 : Nat) (k1 : Nat) (k2 : Nat) (V : Nat → Nat) (D : Nat → Nat) (sk2 : Nat) (ek2 : Nat) (tr2 : Nat) (h00 : W 0 = V 0) : CV l yX0_copyFrom wsX0_copyFrom ({ frames := 0, cells := 0, slots := 0, locals := 0 }) g [.ref h0, .ref k0] [(h0, .inr (0, [.ref h1, .ref h2, .int (nI sk), .int (nI ek), .int (nI tr)])), (h1, .inl (eI g, 41, .inl (fun j => nI (W j)))), (h2, .inl (eI g, 5, .inl (fun j => nI (B j)))), (k0, .inr (0, [.ref k1, .ref k2, .int (nI sk2), .int (nI ek2), .int (nI tr2)])), (k1, .inl (eI g, 41, .inl (fun j => nI (V j)))), (k2, .inl (eI g, 5, .inl (fun j => nI (D j))))] (fun (wz : va_W) => wz = [(h0, .inr (0, [.ref h1, .ref h2, .int (nI sk2), .int (nI ek2), .int (nI tr2)])), (h1, .inl (eI g, 41, .inl (fun j => nI (V j)))), (h2, .inl (eI g, 5, .inl (fun j => nI (D j)))), (k0, .inr (0, [.ref k1, .ref k2, .int (nI sk2), .int (nI ek2), .int (nI tr2)])), (k1, .inl (eI g, 41, .inl (fun j => nI (V j)))), (k2, .inl (eI g, 5, .inl (fun j => nI (D j))))]) 0 0 := by
  refine ctV (cc := cX0_copyFrom) (maxL := 3) (ret := none) (by decide) rfl (Nat.le_of_ble_eq_true rfl) ?_
  intro p_ e_ s_ m_ bl_ mt_ cd_ A ls F hnm hP hD hS hl
  obtain ⟨hx, hb, hml, hown, hts, hK, hX, hA, hrt_, hlocks⟩ := id F
  have hl : lv_has ls 3 [(0, .ref h0), (1, .ref k0)] := hl
  refine lv_iconst (v := (nI 1)) hx hb dX0_copyFrom_0 (by decide) ?_
  refine lv_istore_n (lv' := [(2, .int (nI 1)), (0, .ref h0), (1, .ref k0)]) hx hb dX0_copyFrom_1 rfl hl (by decide) rfl (fun ls hl => ?_)
  refine xlo (σ := Nat × (Nat → Nat)) 3 (fun xz_ => (fun (i : Nat) (U : Nat → Nat) => [(0, .ref h0), (1, .ref k0), (2, .int (nI i))]) xz_.1 xz_.2) (fun xz_ => (fun (i : Nat) (U : Nat → Nat) => [(h0, .inr (0, [.ref h1, .ref h2, .int (nI sk), .int (nI ek), .int (nI tr)])), (h1, .inl (eI g, 41, .inl (fun j => nI (U j)))), (h2, .inl (eI g, 5, .inl (fun j => nI (B j)))), (k0, .inr (0, [.ref k1, .ref k2, .int (nI sk2), .int (nI ek2), .int (nI tr2)])), (k1, .inl (eI g, 41, .inl (fun j => nI (V j)))), (k2, .inl (eI g, 5, .inl (fun j => nI (D j))))]) xz_.1 xz_.2) (fun xz_ => (fun (i : Nat) (U : Nat → Nat) => (∀ j, j < i → U j = V j) ∧ 1 ≤ i ∧ i ≤ 41) xz_.1 xz_.2) (fun xz_ => (fun (i : Nat) (U : Nat → Nat) => 41 - i) xz_.1 xz_.2) (fun xz_ hI ih2 H locs ls hP hD hS hl => ?_) (1, W) (show (∀ j, j < 1 → W j = V j) ∧ 1 ≤ 1 ∧ 1 ≤ 41 from (⟨fun j hj => by rw [show j = 0 by omega]; exact h00, by omega, by omega⟩)) hP hD hS (lv_sub hl [1, 2, 0] rfl)
  obtain ⟨i, U⟩ := xz_
  have hP : va_P (eD g) vwCl [(h0, .inr (0, [.ref h1, .ref h2, .int (nI sk), .int (nI ek), .int (nI tr)])), (h1, .inl (eI g, 41, .inl (fun j => nI (U j)))), (h2, .inl (eI g, 5, .inl (fun j => nI (B j)))), (k0, .inr (0, [.ref k1, .ref k2, .int (nI sk2), .int (nI ek2), .int (nI tr2)])), (k1, .inl (eI g, 41, .inl (fun j => nI (V j)))), (k2, .inl (eI g, 5, .inl (fun j => nI (D j))))] H := hP
  have hD : va_D A [(h0, .inr (0, [.ref h1, .ref h2, .int (nI sk), .int (nI ek), .int (nI tr)])), (h1, .inl (eI g, 41, .inl (fun j => nI (U j)))), (h2, .inl (eI g, 5, .inl (fun j => nI (B j)))), (k0, .inr (0, [.ref k1, .ref k2, .int (nI sk2), .int (nI ek2), .int (nI tr2)])), (k1, .inl (eI g, 41, .inl (fun j => nI (V j)))), (k2, .inl (eI g, 5, .inl (fun j => nI (D j))))] := hD
  have hl : lv_has ls 3 [(0, .ref h0), (1, .ref k0), (2, .int (nI i))] := hl
  have hI2 : (∀ j, j < i → U j = V j) ∧ 1 ≤ i ∧ i ≤ 41 := hI
  clear hI
  obtain ⟨hU, hi1, hi2⟩ := id hI2
  refine lv_iload_n hx hb dX0_copyFrom_2 rfl (lv_at hl 2 rfl) ?_
  refine lv_bipush (v := (nI 40)) hx hb dX0_copyFrom_3 (by decide) ?_
  refine xgt (tgt := 26) hx hb dX0_copyFrom_5 (by decide) (by omega) (by omega) (fun c5 => ?_) (fun c5 => ?_)
  · skip
    obtain ⟨hP, hD⟩ := recN (f' := fun j => nI (V j)) hP hD 1 rfl (fun j hj => congrArg nI (hU j (by omega)))
    have hP : va_P (eD g) vwCl [(h0, .inr (0, [.ref h1, .ref h2, .int (nI sk), .int (nI ek), .int (nI tr)])), (h1, .inl (eI g, 41, .inl (fun j => nI (V j)))), (h2, .inl (eI g, 5, .inl (fun j => nI (B j)))), (k0, .inr (0, [.ref k1, .ref k2, .int (nI sk2), .int (nI ek2), .int (nI tr2)])), (k1, .inl (eI g, 41, .inl (fun j => nI (V j)))), (k2, .inl (eI g, 5, .inl (fun j => nI (D j))))] H := hP
    have hD : va_D A [(h0, .inr (0, [.ref h1, .ref h2, .int (nI sk), .int (nI ek), .int (nI tr)])), (h1, .inl (eI g, 41, .inl (fun j => nI (V j)))), (h2, .inl (eI g, 5, .inl (fun j => nI (B j)))), (k0, .inr (0, [.ref k1, .ref k2, .int (nI sk2), .int (nI ek2), .int (nI tr2)])), (k1, .inl (eI g, 41, .inl (fun j => nI (V j)))), (k2, .inl (eI g, 5, .inl (fun j => nI (D j))))] := hD
    refine lv_iconst (v := (nI 0)) hx hb dX0_copyFrom_26 (by decide) ?_
    refine lv_istore_n (lv' := [(2, .int (nI 0)), (0, .ref h0), (1, .ref k0)]) hx hb dX0_copyFrom_27 rfl hl (by decide) rfl (fun ls hl => ?_)
    refine xlo (σ := Nat × (Nat → Nat)) 3 (fun xz_ => (fun (i2 : Nat) (E : Nat → Nat) => [(0, .ref h0), (1, .ref k0), (2, .int (nI i2))]) xz_.1 xz_.2) (fun xz_ => (fun (i2 : Nat) (E : Nat → Nat) => [(h0, .inr (0, [.ref h1, .ref h2, .int (nI sk), .int (nI ek), .int (nI tr)])), (h1, .inl (eI g, 41, .inl (fun j => nI (V j)))), (h2, .inl (eI g, 5, .inl (fun j => nI (E j)))), (k0, .inr (0, [.ref k1, .ref k2, .int (nI sk2), .int (nI ek2), .int (nI tr2)])), (k1, .inl (eI g, 41, .inl (fun j => nI (V j)))), (k2, .inl (eI g, 5, .inl (fun j => nI (D j))))]) xz_.1 xz_.2) (fun xz_ => (fun (i2 : Nat) (E : Nat → Nat) => (∀ j, j < i2 → E j = D j) ∧ i2 ≤ 5) xz_.1 xz_.2) (fun xz_ => (fun (i2 : Nat) (E : Nat → Nat) => 5 - i2) xz_.1 xz_.2) (fun xz_ hI ih28 H locs ls hP hD hS hl => ?_) (0, B) (show (∀ j, j < 0 → B j = D j) ∧ 0 ≤ 5 from (⟨fun j hj => by omega, by omega⟩)) hP hD hS (lv_sub hl [1, 2, 0] rfl)
    obtain ⟨i2, E⟩ := xz_
    have hP : va_P (eD g) vwCl [(h0, .inr (0, [.ref h1, .ref h2, .int (nI sk), .int (nI ek), .int (nI tr)])), (h1, .inl (eI g, 41, .inl (fun j => nI (V j)))), (h2, .inl (eI g, 5, .inl (fun j => nI (E j)))), (k0, .inr (0, [.ref k1, .ref k2, .int (nI sk2), .int (nI ek2), .int (nI tr2)])), (k1, .inl (eI g, 41, .inl (fun j => nI (V j)))), (k2, .inl (eI g, 5, .inl (fun j => nI (D j))))] H := hP
    have hD : va_D A [(h0, .inr (0, [.ref h1, .ref h2, .int (nI sk), .int (nI ek), .int (nI tr)])), (h1, .inl (eI g, 41, .inl (fun j => nI (V j)))), (h2, .inl (eI g, 5, .inl (fun j => nI (E j)))), (k0, .inr (0, [.ref k1, .ref k2, .int (nI sk2), .int (nI ek2), .int (nI tr2)])), (k1, .inl (eI g, 41, .inl (fun j => nI (V j)))), (k2, .inl (eI g, 5, .inl (fun j => nI (D j))))] := hD
    have hl : lv_has ls 3 [(0, .ref h0), (1, .ref k0), (2, .int (nI i2))] := hl
    have hI28 : (∀ j, j < i2 → E j = D j) ∧ i2 ≤ 5 := hI
    clear hI
    obtain ⟨hE, hi3⟩ := id hI28
    refine lv_iload_n hx hb dX0_copyFrom_28 rfl (lv_at hl 2 rfl) ?_
    refine lv_iconst (v := (nI 5)) hx hb dX0_copyFrom_29 (by decide) ?_
    refine xge (tgt := 51) hx hb dX0_copyFrom_30 (by decide) (by omega) (by omega) (fun c30 => ?_) (fun c30 => ?_)
    · skip
      obtain ⟨hP, hD⟩ := recN (f' := fun j => nI (D j)) hP hD 2 rfl (fun j hj => congrArg nI (hE j (by omega)))
      have hP : va_P (eD g) vwCl [(h0, .inr (0, [.ref h1, .ref h2, .int (nI sk), .int (nI ek), .int (nI tr)])), (h1, .inl (eI g, 41, .inl (fun j => nI (V j)))), (h2, .inl (eI g, 5, .inl (fun j => nI (D j)))), (k0, .inr (0, [.ref k1, .ref k2, .int (nI sk2), .int (nI ek2), .int (nI tr2)])), (k1, .inl (eI g, 41, .inl (fun j => nI (V j)))), (k2, .inl (eI g, 5, .inl (fun j => nI (D j))))] H := hP
      have hD : va_D A [(h0, .inr (0, [.ref h1, .ref h2, .int (nI sk), .int (nI ek), .int (nI tr)])), (h1, .inl (eI g, 41, .inl (fun j => nI (V j)))), (h2, .inl (eI g, 5, .inl (fun j => nI (D j)))), (k0, .inr (0, [.ref k1, .ref k2, .int (nI sk2), .int (nI ek2), .int (nI tr2)])), (k1, .inl (eI g, 41, .inl (fun j => nI (V j)))), (k2, .inl (eI g, 5, .inl (fun j => nI (D j))))] := hD
      refine lv_aload_n hx hb dX0_copyFrom_51 rfl (lv_at hl 0 rfl) ?_
      refine lv_aload_n hx hb dX0_copyFrom_52 rfl (lv_at hl 1 rfl) ?_
      refine xget F hP inX0_copyFrom_X0 3 rfl rfl 2 (by decide) lkX0_copyFrom_3 rfl dX0_copyFrom_53 ?_
      refine xput F hP hD hS inX0_copyFrom_X0 tyX0 tyX0_ok nmX0 0 rfl rfl 2 (by decide) lkX0_copyFrom_3 rfl rfl rfl (Nat.le_of_ble_eq_true rfl) dX0_copyFrom_56 (fun H locs hP hD hS => ?_)
      have hP : va_P (eD g) vwCl [(h0, .inr (0, [.ref h1, .ref h2, .int (nI sk2), .int (nI ek), .int (nI tr)])), (h1, .inl (eI g, 41, .inl (fun j => nI (V j)))), (h2, .inl (eI g, 5, .inl (fun j => nI (D j)))), (k0, .inr (0, [.ref k1, .ref k2, .int (nI sk2), .int (nI ek2), .int (nI tr2)])), (k1, .inl (eI g, 41, .inl (fun j => nI (V j)))), (k2, .inl (eI g, 5, .inl (fun j => nI (D j))))] H := hP
      have hD : va_D A [(h0, .inr (0, [.ref h1, .ref h2, .int (nI sk2), .int (nI ek), .int (nI tr)])), (h1, .inl (eI g, 41, .inl (fun j => nI (V j)))), (h2, .inl (eI g, 5, .inl (fun j => nI (D j)))), (k0, .inr (0, [.ref k1, .ref k2, .int (nI sk2), .int (nI ek2), .int (nI tr2)])), (k1, .inl (eI g, 41, .inl (fun j => nI (V j)))), (k2, .inl (eI g, 5, .inl (fun j => nI (D j))))] := hD
      refine lv_aload_n hx hb dX0_copyFrom_59 rfl (lv_at hl 0 rfl) ?_
      refine lv_aload_n hx hb dX0_copyFrom_60 rfl (lv_at hl 1 rfl) ?_
      refine xget F hP inX0_copyFrom_X0 3 rfl rfl 3 (by decide) lkX0_copyFrom_4 rfl dX0_copyFrom_61 ?_
      refine xput F hP hD hS inX0_copyFrom_X0 tyX0 tyX0_ok nmX0 0 rfl rfl 3 (by decide) lkX0_copyFrom_4 rfl rfl rfl (Nat.le_of_ble_eq_true rfl) dX0_copyFrom_64 (fun H locs hP hD hS => ?_)
      have hP : va_P (eD g) vwCl [(h0, .inr (0, [.ref h1, .ref h2, .int (nI sk2), .int (nI ek2), .int (nI tr)])), (h1, .inl (eI g, 41, .inl (fun j => nI (V j)))), (h2, .inl (eI g, 5, .inl (fun j => nI (D j)))), (k0, .inr (0, [.ref k1, .ref k2, .int (nI sk2), .int (nI ek2), .int (nI tr2)])), (k1, .inl (eI g, 41, .inl (fun j => nI (V j)))), (k2, .inl (eI g, 5, .inl (fun j => nI (D j))))] H := hP
      have hD : va_D A [(h0, .inr (0, [.ref h1, .ref h2, .int (nI sk2), .int (nI ek2), .int (nI tr)])), (h1, .inl (eI g, 41, .inl (fun j => nI (V j)))), (h2, .inl (eI g, 5, .inl (fun j => nI (D j)))), (k0, .inr (0, [.ref k1, .ref k2, .int (nI sk2), .int (nI ek2), .int (nI tr2)])), (k1, .inl (eI g, 41, .inl (fun j => nI (V j)))), (k2, .inl (eI g, 5, .inl (fun j => nI (D j))))] := hD
      refine lv_aload_n hx hb dX0_copyFrom_67 rfl (lv_at hl 0 rfl) ?_
      refine lv_aload_n hx hb dX0_copyFrom_68 rfl (lv_at hl 1 rfl) ?_
      refine xget F hP inX0_copyFrom_X0 3 rfl rfl 4 (by decide) lkX0_copyFrom_5 rfl dX0_copyFrom_69 ?_
      refine xput F hP hD hS inX0_copyFrom_X0 tyX0 tyX0_ok nmX0 0 rfl rfl 4 (by decide) lkX0_copyFrom_5 rfl rfl rfl (Nat.le_of_ble_eq_true rfl) dX0_copyFrom_72 (fun H locs hP hD hS => ?_)
      have hP : va_P (eD g) vwCl [(h0, .inr (0, [.ref h1, .ref h2, .int (nI sk2), .int (nI ek2), .int (nI tr2)])), (h1, .inl (eI g, 41, .inl (fun j => nI (V j)))), (h2, .inl (eI g, 5, .inl (fun j => nI (D j)))), (k0, .inr (0, [.ref k1, .ref k2, .int (nI sk2), .int (nI ek2), .int (nI tr2)])), (k1, .inl (eI g, 41, .inl (fun j => nI (V j)))), (k2, .inl (eI g, 5, .inl (fun j => nI (D j))))] H := hP
      have hD : va_D A [(h0, .inr (0, [.ref h1, .ref h2, .int (nI sk2), .int (nI ek2), .int (nI tr2)])), (h1, .inl (eI g, 41, .inl (fun j => nI (V j)))), (h2, .inl (eI g, 5, .inl (fun j => nI (D j)))), (k0, .inr (0, [.ref k1, .ref k2, .int (nI sk2), .int (nI ek2), .int (nI tr2)])), (k1, .inl (eI g, 41, .inl (fun j => nI (V j)))), (k2, .inl (eI g, 5, .inl (fun j => nI (D j))))] := hD
      exact rtV F hP hD hS dX0_copyFrom_75 (rfl)
    · skip
      refine lv_aload_n hx hb dX0_copyFrom_33 rfl (lv_at hl 0 rfl) ?_
      refine xget F hP inX0_copyFrom_X0 0 rfl rfl 1 (by decide) lkX0_copyFrom_2 rfl dX0_copyFrom_34 ?_
      refine lv_iload_n hx hb dX0_copyFrom_37 rfl (lv_at hl 2 rfl) ?_
      refine lv_aload_n hx hb dX0_copyFrom_38 rfl (lv_at hl 1 rfl) ?_
      refine xget F hP inX0_copyFrom_X0 3 rfl rfl 1 (by decide) lkX0_copyFrom_2 rfl dX0_copyFrom_39 ?_
      refine lv_iload_n hx hb dX0_copyFrom_42 rfl (lv_at hl 2 rfl) ?_
      refine xald F hP 5 (v := (nI (D i2))) rfl (by omega) (by omega) rfl dX0_copyFrom_43 ?_
      refine xast F hP hD hS 2 (f' := fun j => nI ((updN E i2 (D i2)) j)) rfl (by omega) (by omega) (upd_nI E i2 (D i2)) dX0_copyFrom_44 (fun H locs hP hD hS => ?_)
      have hP : va_P (eD g) vwCl [(h0, .inr (0, [.ref h1, .ref h2, .int (nI sk), .int (nI ek), .int (nI tr)])), (h1, .inl (eI g, 41, .inl (fun j => nI (V j)))), (h2, .inl (eI g, 5, .inl (fun j => nI ((updN E i2 (D i2)) j)))), (k0, .inr (0, [.ref k1, .ref k2, .int (nI sk2), .int (nI ek2), .int (nI tr2)])), (k1, .inl (eI g, 41, .inl (fun j => nI (V j)))), (k2, .inl (eI g, 5, .inl (fun j => nI (D j))))] H := hP
      have hD : va_D A [(h0, .inr (0, [.ref h1, .ref h2, .int (nI sk), .int (nI ek), .int (nI tr)])), (h1, .inl (eI g, 41, .inl (fun j => nI (V j)))), (h2, .inl (eI g, 5, .inl (fun j => nI ((updN E i2 (D i2)) j)))), (k0, .inr (0, [.ref k1, .ref k2, .int (nI sk2), .int (nI ek2), .int (nI tr2)])), (k1, .inl (eI g, 41, .inl (fun j => nI (V j)))), (k2, .inl (eI g, 5, .inl (fun j => nI (D j))))] := hD
      refine lv_iinc (v := (nI (i2 + 1))) (lv' := [(2, .int (nI (i2 + 1))), (0, .ref h0), (1, .ref k0)]) hx hb dX0_copyFrom_45 hl (k := 2) rfl (iincP i2 1) (by decide) rfl (fun ls hl => ?_)
      refine lv_goto (tgt := 28) hx hb dX0_copyFrom_48 (by decide) ?_
      exact ih28 (i2 + 1, (updN E i2 (D i2))) (show (∀ j, j < (i2 + 1) → (updN E i2 (D i2)) j = D j) ∧ (i2 + 1) ≤ 5 from (⟨cp_step hE, by omega⟩)) (show 5 - (i2 + 1) < 5 - i2 from (by omega)) _ _ _ hP hD hS (lv_sub hl [1, 2, 0] rfl)
  · skip
    refine lv_aload_n hx hb dX0_copyFrom_8 rfl (lv_at hl 0 rfl) ?_
    refine xget F hP inX0_copyFrom_X0 0 rfl rfl 0 (by decide) lkX0_copyFrom_1 rfl dX0_copyFrom_9 ?_
    refine lv_iload_n hx hb dX0_copyFrom_12 rfl (lv_at hl 2 rfl) ?_
    refine lv_aload_n hx hb dX0_copyFrom_13 rfl (lv_at hl 1 rfl) ?_
    refine xget F hP inX0_copyFrom_X0 3 rfl rfl 0 (by decide) lkX0_copyFrom_1 rfl dX0_copyFrom_14 ?_
    refine lv_iload_n hx hb dX0_copyFrom_17 rfl (lv_at hl 2 rfl) ?_
    refine xald F hP 4 (v := (nI (V i))) rfl (by omega) (by omega) rfl dX0_copyFrom_18 ?_
    refine xast F hP hD hS 1 (f' := fun j => nI ((updN U i (V i)) j)) rfl (by omega) (by omega) (upd_nI U i (V i)) dX0_copyFrom_19 (fun H locs hP hD hS => ?_)
    have hP : va_P (eD g) vwCl [(h0, .inr (0, [.ref h1, .ref h2, .int (nI sk), .int (nI ek), .int (nI tr)])), (h1, .inl (eI g, 41, .inl (fun j => nI ((updN U i (V i)) j)))), (h2, .inl (eI g, 5, .inl (fun j => nI (B j)))), (k0, .inr (0, [.ref k1, .ref k2, .int (nI sk2), .int (nI ek2), .int (nI tr2)])), (k1, .inl (eI g, 41, .inl (fun j => nI (V j)))), (k2, .inl (eI g, 5, .inl (fun j => nI (D j))))] H := hP
    have hD : va_D A [(h0, .inr (0, [.ref h1, .ref h2, .int (nI sk), .int (nI ek), .int (nI tr)])), (h1, .inl (eI g, 41, .inl (fun j => nI ((updN U i (V i)) j)))), (h2, .inl (eI g, 5, .inl (fun j => nI (B j)))), (k0, .inr (0, [.ref k1, .ref k2, .int (nI sk2), .int (nI ek2), .int (nI tr2)])), (k1, .inl (eI g, 41, .inl (fun j => nI (V j)))), (k2, .inl (eI g, 5, .inl (fun j => nI (D j))))] := hD
    refine lv_iinc (v := (nI (i + 1))) (lv' := [(2, .int (nI (i + 1))), (0, .ref h0), (1, .ref k0)]) hx hb dX0_copyFrom_20 hl (k := 2) rfl (iincP i 1) (by decide) rfl (fun ls hl => ?_)
    refine lv_goto (tgt := 2) hx hb dX0_copyFrom_23 (by decide) ?_
    exact ih2 (i + 1, (updN U i (V i))) (show (∀ j, j < (i + 1) → (updN U i (V i)) j = V j) ∧ 1 ≤ (i + 1) ∧ (i + 1) ≤ 41 from (⟨cp_step hU, by omega, by omega⟩)) (show 41 - (i + 1) < 41 - i from (by omega)) _ _ _ hP hD hS (lv_sub hl [1, 2, 0] rfl)

theorem inX0_putNumber_X0 : ∀ w ∈ u_ws RX0 TX0 5, w ∈ wsX0_putNumber := fun _ h => (List.mem_cons_of_mem _ (List.mem_append_right _ h))
theorem lkX0_putNumber_1 : Cond.fieldLink RX0 15 "StripInFiveSteps$Shed" "numbers" "[I" ∈ wsX0_putNumber := List.mem_of_getElem? (i := 1) rfl
theorem kX0_putNumber : Cal yX0_putNumber wsX0_putNumber cX0_putNumber 3 (some .boolean) 2 := ⟨⟨_, rfl⟩, by decide +kernel⟩
set_option maxHeartbeats 4000000 in
set_option maxRecDepth 100000 in
theorem c_X0_putNumber (l : Launch) (g : EE) (h0 : Nat) (h1 : Nat) (h2 : Nat) (W : Nat → Nat) (B : Nat → Nat) (sk : Nat) (ek : Nat) (tr : Nat) (wh : Nat) (v : Nat) (hwh : wh < 5) (hv : v < 1000) : CI l yX0_putNumber wsX0_putNumber ({ frames := 0, cells := 0, slots := 0, locals := 0 }) g [.ref h0, .int (nI wh), .int (nI v)] [(h0, .inr (0, [.ref h1, .ref h2, .int (nI sk), .int (nI ek), .int (nI tr)])), (h1, .inl (eI g, 41, .inl (fun j => nI (W j)))), (h2, .inl (eI g, 5, .inl (fun j => nI (B j))))] (fun (rz : Int32) (wz : va_W) => rz = (nI (if leastN wh ≤ v ∧ v ≤ greatN wh then 1 else 0)) ∧ wz = [(h0, .inr (0, [.ref h1, .ref h2, .int (nI sk), .int (nI ek), .int (nI tr)])), (h1, .inl (eI g, 41, .inl (fun j => nI (W j)))), (h2, .inl (eI g, 5, .inl (fun j => nI ((if leastN wh ≤ v ∧ v ≤ greatN wh then updN B wh v else B) j))))]) 0 0 := by
  refine ctI (cc := cX0_putNumber) (maxL := 3) (ret := (some .boolean)) (by decide) rfl (Nat.le_of_ble_eq_true rfl) ?_
  intro p_ e_ s_ m_ bl_ mt_ cd_ A ls F hnm hP hD hS hl
  obtain ⟨hx, hb, hml, hown, hts, hK, hX, hA, hrt_, hlocks⟩ := id F
  have hl : lv_has ls 3 [(0, .ref h0), (1, .int (nI wh)), (2, .int (nI v))] := hl
  refine lv_iload_n hx hb dX0_putNumber_0 rfl (lv_at hl 1 rfl) ?_
  refine zlt (tgt := 27) hx hb dX0_putNumber_1 (by decide) (by omega) ?_
  refine lv_iload_n hx hb dX0_putNumber_4 rfl (lv_at hl 1 rfl) ?_
  refine lv_iconst (v := (nI 5)) hx hb dX0_putNumber_5 (by decide) ?_
  refine xge (tgt := 27) hx hb dX0_putNumber_6 (by decide) (by omega) (by omega) (fun c6 => ?_) (fun c6 => ?_)
  · skip
    refine lv_iconst (v := (nI 0)) hx hb dX0_putNumber_27 (by decide) ?_
    exact rtZ F hP hD hS dX0_putNumber_28 (rfl) (by first | (exfalso; omega) | exact ⟨by rw [if_pos (by omega)], by rw [if_pos (by omega)]⟩ | exact ⟨by rw [if_neg (by omega)], by rw [if_neg (by omega)]⟩)
  · skip
    refine lv_iload_n hx hb dX0_putNumber_9 rfl (lv_at hl 2 rfl) ?_
    refine xgLN F hS 13 rfl dX0_putNumber_10 ?_
    refine lv_iload_n hx hb dX0_putNumber_13 rfl (lv_at hl 1 rfl) ?_
    refine xtL F hS (by omega) dX0_putNumber_14 ?_
    have hbd0 := leastN_le wh
    refine xlt (tgt := 27) hx hb dX0_putNumber_15 (by decide) (by omega) (by omega) (fun c15 => ?_) (fun c15 => ?_)
    · skip
      refine lv_iconst (v := (nI 0)) hx hb dX0_putNumber_27 (by decide) ?_
      exact rtZ F hP hD hS dX0_putNumber_28 (rfl) (by first | (exfalso; omega) | exact ⟨by rw [if_pos (by omega)], by rw [if_pos (by omega)]⟩ | exact ⟨by rw [if_neg (by omega)], by rw [if_neg (by omega)]⟩)
    · skip
      refine lv_iload_n hx hb dX0_putNumber_18 rfl (lv_at hl 2 rfl) ?_
      refine xgGN F hS 14 rfl dX0_putNumber_19 ?_
      refine lv_iload_n hx hb dX0_putNumber_22 rfl (lv_at hl 1 rfl) ?_
      refine xtG F hS (by omega) dX0_putNumber_23 ?_
      have hbd1 := greatN_le wh
      refine xle (tgt := 29) hx hb dX0_putNumber_24 (by decide) (by omega) (by omega) (fun c24 => ?_) (fun c24 => ?_)
      · skip
        refine lv_aload_n hx hb dX0_putNumber_29 rfl (lv_at hl 0 rfl) ?_
        refine xget F hP inX0_putNumber_X0 0 rfl rfl 1 (by decide) lkX0_putNumber_1 rfl dX0_putNumber_30 ?_
        refine lv_iload_n hx hb dX0_putNumber_33 rfl (lv_at hl 1 rfl) ?_
        refine lv_iload_n hx hb dX0_putNumber_34 rfl (lv_at hl 2 rfl) ?_
        refine xast F hP hD hS 2 (f' := fun j => nI ((updN B wh v) j)) rfl (by omega) (by omega) (upd_nI B wh v) dX0_putNumber_35 (fun H locs hP hD hS => ?_)
        have hP : va_P (eD g) vwCl [(h0, .inr (0, [.ref h1, .ref h2, .int (nI sk), .int (nI ek), .int (nI tr)])), (h1, .inl (eI g, 41, .inl (fun j => nI (W j)))), (h2, .inl (eI g, 5, .inl (fun j => nI ((updN B wh v) j))))] H := hP
        have hD : va_D A [(h0, .inr (0, [.ref h1, .ref h2, .int (nI sk), .int (nI ek), .int (nI tr)])), (h1, .inl (eI g, 41, .inl (fun j => nI (W j)))), (h2, .inl (eI g, 5, .inl (fun j => nI ((updN B wh v) j))))] := hD
        refine lv_iconst (v := (nI 1)) hx hb dX0_putNumber_36 (by decide) ?_
        exact rtZ F hP hD hS dX0_putNumber_37 (rfl) (by first | (exfalso; omega) | exact ⟨by rw [if_pos (by omega)], by rw [if_pos (by omega)]⟩ | exact ⟨by rw [if_neg (by omega)], by rw [if_neg (by omega)]⟩)
      · skip
        refine lv_iconst (v := (nI 0)) hx hb dX0_putNumber_27 (by decide) ?_
        exact rtZ F hP hD hS dX0_putNumber_28 (rfl) (by first | (exfalso; omega) | exact ⟨by rw [if_pos (by omega)], by rw [if_pos (by omega)]⟩ | exact ⟨by rw [if_neg (by omega)], by rw [if_neg (by omega)]⟩)

theorem lkX0_putLikely_3 : Cond.initialized RX4 ∈ wsX0_putLikely := List.mem_of_getElem? (i := 3) rfl
theorem lkX0_putLikely_2 : Cond.static yX4_isSecond ∈ wsX0_putLikely := List.mem_of_getElem? (i := 2) rfl
theorem inX0_putLikely_X0 : ∀ w ∈ u_ws RX0 TX0 5, w ∈ wsX0_putLikely := fun _ h => (List.mem_cons_of_mem _ (List.mem_append_right _ h))
theorem lkX0_putLikely_1 : Cond.fieldLink RX0 9 "StripInFiveSteps$Shed" "weights" "[I" ∈ wsX0_putLikely := List.mem_of_getElem? (i := 1) rfl
theorem kX0_putLikely : Cal yX0_putLikely wsX0_putLikely cX0_putLikely 5 (some .boolean) 3 := ⟨⟨_, rfl⟩, by decide +kernel⟩
set_option maxHeartbeats 4000000 in
set_option maxRecDepth 100000 in
theorem c_X0_putLikely (l : Launch) (g : EE) (h0 : Nat) (h1 : Nat) (h2 : Nat) (W : Nat → Nat) (B : Nat → Nat) (sk : Nat) (ek : Nat) (tr : Nat) (a : Nat) (b : Nat) (v : Nat) (ha : a < 1000) (hb0 : b < 1000) (hv : v < 1000) : CI l yX0_putLikely wsX0_putLikely ({ frames := 1, cells := 0, slots := 0, locals := 20 }) g [.ref h0, .int (nI a), .int (nI b), .int (nI v)] [(h0, .inr (0, [.ref h1, .ref h2, .int (nI sk), .int (nI ek), .int (nI tr)])), (h1, .inl (eI g, 41, .inl (fun j => nI (W j)))), (h2, .inl (eI g, 5, .inl (fun j => nI (B j))))] (fun (rz : Int32) (wz : va_W) => rz = (nI (if (1 ≤ a ∧ a ≤ 40) ∧ (1 ≤ b ∧ b ≤ 40) ∧ a ≤ b ∧ v ≤ 9 then 1 else 0)) ∧ wz = [(h0, .inr (0, [.ref h1, .ref h2, .int (nI sk), .int (nI ek), .int (nI tr)])), (h1, .inl (eI g, 41, .inl (fun j => nI ((if (1 ≤ a ∧ a ≤ 40) ∧ (1 ≤ b ∧ b ≤ 40) ∧ a ≤ b ∧ v ≤ 9 then fillE W a (b + 1) v else W) j)))), (h2, .inl (eI g, 5, .inl (fun j => nI (B j))))]) 0 0 := by
  refine ctI (cc := cX0_putLikely) (maxL := 5) (ret := (some .boolean)) (by decide) rfl (Nat.le_of_ble_eq_true rfl) ?_
  intro p_ e_ s_ m_ bl_ mt_ cd_ A ls F hnm hP hD hS hl
  obtain ⟨hx, hb, hml, hown, hts, hK, hX, hA, hrt_, hlocks⟩ := id F
  have hl : lv_has ls 5 [(0, .ref h0), (1, .int (nI a)), (2, .int (nI b)), (3, .int (nI v))] := hl
  refine lv_iload_n hx hb dX0_putLikely_0 rfl (lv_at hl 1 rfl) ?_
  refine cTI (As := [.int (nI a)]) (rest := []) F (n_X4_isSecond l g a (by omega)) kX4_isSecond ggX0_putLikely_X4_isSecond 3 rfl lkX0_putLikely_3 lkX0_putLikely_2 rfl rfl ⟨Nat.le_of_ble_eq_true rfl, Nat.le_of_ble_eq_true rfl⟩ hP hD hS [] [0, 1, 2] rfl rfl hl.1 rfl rfl (Nat.le_of_ble_eq_true rfl) dX0_putLikely_1 ⟨Nat.le_of_ble_eq_true rfl, Nat.le_of_ble_eq_true rfl⟩ (fun rz w1 H locs hpo hP hD hS => ?_)
  obtain ⟨rfl, rfl⟩ := hpo
  obtain ⟨hP, hD⟩ := nx (ws' := [(h0, .inr (0, [.ref h1, .ref h2, .int (nI sk), .int (nI ek), .int (nI tr)])), (h1, .inl (eI g, 41, .inl (fun j => nI (W j)))), (h2, .inl (eI g, 5, .inl (fun j => nI (B j))))]) hP hD [0, 1, 2] (ndB_ok _ rfl) rfl
  refine bqeq (tgt := 29) hx hb dX0_putLikely_4 (by decide) (fun c4 => ?_) (fun c4 => ?_)
  · skip
    refine lv_iconst (v := (nI 0)) hx hb dX0_putLikely_29 (by decide) ?_
    exact rtZ F hP hD hS dX0_putLikely_30 (rfl) (⟨by rw [if_neg (by omega)], by rw [if_neg (by omega)]⟩)
  · skip
    refine lv_iload_n hx hb dX0_putLikely_7 rfl (lv_at hl 2 rfl) ?_
    refine cTI (As := [.int (nI b)]) (rest := []) F (n_X4_isSecond l g b (by omega)) kX4_isSecond ggX0_putLikely_X4_isSecond 3 rfl lkX0_putLikely_3 lkX0_putLikely_2 rfl rfl ⟨Nat.le_of_ble_eq_true rfl, Nat.le_of_ble_eq_true rfl⟩ hP hD hS [] [0, 1, 2] rfl rfl hl.1 rfl rfl (Nat.le_of_ble_eq_true rfl) dX0_putLikely_8 ⟨Nat.le_of_ble_eq_true rfl, Nat.le_of_ble_eq_true rfl⟩ (fun rz w1 H locs hpo hP hD hS => ?_)
    obtain ⟨rfl, rfl⟩ := hpo
    obtain ⟨hP, hD⟩ := nx (ws' := [(h0, .inr (0, [.ref h1, .ref h2, .int (nI sk), .int (nI ek), .int (nI tr)])), (h1, .inl (eI g, 41, .inl (fun j => nI (W j)))), (h2, .inl (eI g, 5, .inl (fun j => nI (B j))))]) hP hD [0, 1, 2] (ndB_ok _ rfl) rfl
    refine bqeq (tgt := 29) hx hb dX0_putLikely_11 (by decide) (fun c11 => ?_) (fun c11 => ?_)
    · skip
      refine lv_iconst (v := (nI 0)) hx hb dX0_putLikely_29 (by decide) ?_
      exact rtZ F hP hD hS dX0_putLikely_30 (rfl) (⟨by rw [if_neg (by omega)], by rw [if_neg (by omega)]⟩)
    · skip
      refine lv_iload_n hx hb dX0_putLikely_14 rfl (lv_at hl 1 rfl) ?_
      refine lv_iload_n hx hb dX0_putLikely_15 rfl (lv_at hl 2 rfl) ?_
      refine xgt (tgt := 29) hx hb dX0_putLikely_16 (by decide) (by omega) (by omega) (fun c16 => ?_) (fun c16 => ?_)
      · skip
        refine lv_iconst (v := (nI 0)) hx hb dX0_putLikely_29 (by decide) ?_
        exact rtZ F hP hD hS dX0_putLikely_30 (rfl) (⟨by rw [if_neg (by omega)], by rw [if_neg (by omega)]⟩)
      · skip
        refine lv_iload_n hx hb dX0_putLikely_19 rfl (lv_at hl 3 rfl) ?_
        refine zlt (tgt := 29) hx hb dX0_putLikely_20 (by decide) (by omega) ?_
        refine lv_iload_n hx hb dX0_putLikely_23 rfl (lv_at hl 3 rfl) ?_
        refine lv_bipush (v := (nI 9)) hx hb dX0_putLikely_24 (by decide) ?_
        refine xle (tgt := 31) hx hb dX0_putLikely_26 (by decide) (by omega) (by omega) (fun c26 => ?_) (fun c26 => ?_)
        · skip
          refine lv_iload_n hx hb dX0_putLikely_31 rfl (lv_at hl 1 rfl) ?_
          refine lv_istore (lv' := [(4, .int (nI a)), (0, .ref h0), (1, .int (nI a)), (2, .int (nI b)), (3, .int (nI v))]) hx hb dX0_putLikely_32 hl (by decide) rfl (fun ls hl => ?_)
          refine xlo (σ := Nat × (Nat → Nat)) 5 (fun xz_ => (fun (i : Nat) (U : Nat → Nat) => [(0, .ref h0), (1, .int (nI a)), (2, .int (nI b)), (3, .int (nI v)), (4, .int (nI i))]) xz_.1 xz_.2) (fun xz_ => (fun (i : Nat) (U : Nat → Nat) => [(h0, .inr (0, [.ref h1, .ref h2, .int (nI sk), .int (nI ek), .int (nI tr)])), (h1, .inl (eI g, 41, .inl (fun j => nI (U j)))), (h2, .inl (eI g, 5, .inl (fun j => nI (B j))))]) xz_.1 xz_.2) (fun xz_ => (fun (i : Nat) (U : Nat → Nat) => U = fillE W a i v ∧ a ≤ i ∧ i ≤ b + 1) xz_.1 xz_.2) (fun xz_ => (fun (i : Nat) (U : Nat → Nat) => b + 1 - i) xz_.1 xz_.2) (fun xz_ hI ih34 H locs ls hP hD hS hl => ?_) (a, W) (show W = fillE W a a v ∧ a ≤ a ∧ a ≤ b + 1 from (⟨(fillE_0 _ _ _).symm, by omega, by omega⟩)) hP hD hS (lv_sub hl [1, 2, 3, 4, 0] rfl)
          obtain ⟨i, U⟩ := xz_
          have hP : va_P (eD g) vwCl [(h0, .inr (0, [.ref h1, .ref h2, .int (nI sk), .int (nI ek), .int (nI tr)])), (h1, .inl (eI g, 41, .inl (fun j => nI (U j)))), (h2, .inl (eI g, 5, .inl (fun j => nI (B j))))] H := hP
          have hD : va_D A [(h0, .inr (0, [.ref h1, .ref h2, .int (nI sk), .int (nI ek), .int (nI tr)])), (h1, .inl (eI g, 41, .inl (fun j => nI (U j)))), (h2, .inl (eI g, 5, .inl (fun j => nI (B j))))] := hD
          have hl : lv_has ls 5 [(0, .ref h0), (1, .int (nI a)), (2, .int (nI b)), (3, .int (nI v)), (4, .int (nI i))] := hl
          have hI34 : U = fillE W a i v ∧ a ≤ i ∧ i ≤ b + 1 := hI
          clear hI
          obtain ⟨hU, hi1, hi2⟩ := id hI34
          refine lv_iload hx hb dX0_putLikely_34 (lv_at hl 4 rfl) ?_
          refine lv_iload_n hx hb dX0_putLikely_36 rfl (lv_at hl 2 rfl) ?_
          refine xgt (tgt := 54) hx hb dX0_putLikely_37 (by decide) (by omega) (by omega) (fun c37 => ?_) (fun c37 => ?_)
          · skip
            refine lv_iconst (v := (nI 1)) hx hb dX0_putLikely_54 (by decide) ?_
            exact rtZ F hP hD hS dX0_putLikely_55 (rfl) (⟨by rw [if_pos (by omega)], by rw [if_pos (by omega), hU, show i = b + 1 by omega]⟩)
          · skip
            refine lv_aload_n hx hb dX0_putLikely_40 rfl (lv_at hl 0 rfl) ?_
            refine xget F hP inX0_putLikely_X0 0 rfl rfl 0 (by decide) lkX0_putLikely_1 rfl dX0_putLikely_41 ?_
            refine lv_iload hx hb dX0_putLikely_44 (lv_at hl 4 rfl) ?_
            refine lv_iload_n hx hb dX0_putLikely_46 rfl (lv_at hl 3 rfl) ?_
            refine xast F hP hD hS 1 (f' := fun j => nI ((updN U i v) j)) rfl (by omega) (by omega) (upd_nI U i v) dX0_putLikely_47 (fun H locs hP hD hS => ?_)
            have hP : va_P (eD g) vwCl [(h0, .inr (0, [.ref h1, .ref h2, .int (nI sk), .int (nI ek), .int (nI tr)])), (h1, .inl (eI g, 41, .inl (fun j => nI ((updN U i v) j)))), (h2, .inl (eI g, 5, .inl (fun j => nI (B j))))] H := hP
            have hD : va_D A [(h0, .inr (0, [.ref h1, .ref h2, .int (nI sk), .int (nI ek), .int (nI tr)])), (h1, .inl (eI g, 41, .inl (fun j => nI ((updN U i v) j)))), (h2, .inl (eI g, 5, .inl (fun j => nI (B j))))] := hD
            refine lv_iinc (v := (nI (i + 1))) (lv' := [(4, .int (nI (i + 1))), (0, .ref h0), (1, .int (nI a)), (2, .int (nI b)), (3, .int (nI v))]) hx hb dX0_putLikely_48 hl (k := 4) rfl (iincP i 1) (by decide) rfl (fun ls hl => ?_)
            refine lv_goto (tgt := 34) hx hb dX0_putLikely_51 (by decide) ?_
            exact ih34 (i + 1, (updN U i v)) (show (updN U i v) = fillE W a (i + 1) v ∧ a ≤ (i + 1) ∧ (i + 1) ≤ b + 1 from (⟨by rw [hU]; exact fillE_step (by omega), by omega, by omega⟩)) (show b + 1 - (i + 1) < b + 1 - i from (by omega)) _ _ _ hP hD hS (lv_sub hl [1, 2, 3, 4, 0] rfl)
        · skip
          refine lv_iconst (v := (nI 0)) hx hb dX0_putLikely_29 (by decide) ?_
          exact rtZ F hP hD hS dX0_putLikely_30 (rfl) (⟨by rw [if_neg (by omega)], by rw [if_neg (by omega)]⟩)

theorem inX0_middle_X0 : ∀ w ∈ u_ws RX0 TX0 5, w ∈ wsX0_middle := fun _ h => (List.mem_cons_of_mem _ (List.mem_append_right _ h))
theorem lkX0_middle_1 : Cond.fieldLink RX0 9 "StripInFiveSteps$Shed" "weights" "[I" ∈ wsX0_middle := List.mem_of_getElem? (i := 1) rfl
theorem kX0_middle : Cal yX0_middle wsX0_middle cX0_middle 4 (some .int) 0 := ⟨⟨_, rfl⟩, by decide +kernel⟩
set_option maxHeartbeats 4000000 in
set_option maxRecDepth 100000 in
theorem c_X0_middle (l : Launch) (g : EE) (h0 : Nat) (h1 : Nat) (h2 : Nat) (W : Nat → Nat) (B : Nat → Nat) (sk : Nat) (ek : Nat) (tr : Nat) (hW : ∀ j, W j ≤ 9) : CI l yX0_middle wsX0_middle ({ frames := 2, cells := 0, slots := 0, locals := 46 }) g [.ref h0] [(h0, .inr (0, [.ref h1, .ref h2, .int (nI sk), .int (nI ek), .int (nI tr)])), (h1, .inl (eI g, 41, .inl (fun j => nI (W j)))), (h2, .inl (eI g, 5, .inl (fun j => nI (B j))))] (fun (rz : Int32) (wz : va_W) => rz = (midS W) ∧ wz = [(h0, .inr (0, [.ref h1, .ref h2, .int (nI sk), .int (nI ek), .int (nI tr)])), (h1, .inl (eI g, 41, .inl (fun j => nI (W j)))), (h2, .inl (eI g, 5, .inl (fun j => nI (B j))))]) 0 0 := by
  refine ctI (cc := cX0_middle) (maxL := 4) (ret := (some .int)) (by decide) rfl (Nat.le_of_ble_eq_true rfl) ?_
  intro p_ e_ s_ m_ bl_ mt_ cd_ A ls F hnm hP hD hS hl
  obtain ⟨hx, hb, hml, hown, hts, hK, hX, hA, hrt_, hlocks⟩ := id F
  have hl : lv_has ls 4 [(0, .ref h0)] := hl
  have hsb : ∀ k, k ≤ 40 → sg W k ≤ 40 * 9 := fun k hk => Nat.le_trans (sg_le k (fun r _ _ => hW r)) (Nat.mul_le_mul_right _ hk)
  have hs40 := hsb 40 (by omega)
  refine lv_aload_n hx hb dX0_middle_0 rfl (lv_at hl 0 rfl) ?_
  refine lv_aload_n hx hb dX0_middle_1 rfl (lv_at hl 0 rfl) ?_
  refine cVL (As := []) (rest := [.ref h0]) F (c_X0_left l g h0 h1 h2 W B sk ek tr (hW)) kX0_left rfl gX0_middle_X0_left rfl rfl ⟨Nat.le_of_ble_eq_true rfl, Nat.le_of_ble_eq_true rfl⟩ hP hD hS [0, 1, 2] [] rfl rfl 0 rfl rfl hl.1 rfl rfl (Nat.le_of_ble_eq_true rfl) dX0_middle_2 ⟨Nat.le_of_ble_eq_true rfl, Nat.le_of_ble_eq_true rfl⟩ (fun rz w1 H locs hpo hP hD hS => ?_)
  obtain ⟨rfl, rfl⟩ := hpo
  obtain ⟨hP, hD⟩ := nx (ws' := [(h0, .inr (0, [.ref h1, .ref h2, .int (nI sk), .int (nI ek), .int (nI tr)])), (h1, .inl (eI g, 41, .inl (fun j => nI (W j)))), (h2, .inl (eI g, 5, .inl (fun j => nI (B j))))]) hP hD [0, 1, 2] (ndB_ok _ rfl) rfl
  refine cVI (As := [.long (lfM W)]) (rest := []) F (c_X0_weightOf l g h0 h1 h2 W B sk ek tr (lfM W) ) kX0_weightOf rfl gX0_middle_X0_weightOf rfl rfl ⟨Nat.le_of_ble_eq_true rfl, Nat.le_of_ble_eq_true rfl⟩ hP hD hS [0, 1, 2] [] rfl rfl 0 rfl rfl hl.1 rfl rfl (Nat.le_of_ble_eq_true rfl) dX0_middle_5 ⟨Nat.le_of_ble_eq_true rfl, Nat.le_of_ble_eq_true rfl⟩ (fun rz w1 H locs hpo hP hD hS => ?_)
  obtain ⟨rfl, rfl⟩ := hpo
  obtain ⟨hP, hD⟩ := nx (ws' := [(h0, .inr (0, [.ref h1, .ref h2, .int (nI sk), .int (nI ek), .int (nI tr)])), (h1, .inl (eI g, 41, .inl (fun j => nI (W j)))), (h2, .inl (eI g, 5, .inl (fun j => nI (B j))))]) hP hD [0, 1, 2] (ndB_ok _ rfl) rfl
  refine sti (congrArg nI (show wtS W (bitL (lfM W)) = sg W 40 from wt_left W)) ?_
  refine lv_istore_n (lv' := [(1, .int (nI (sg W 40))), (0, .ref h0)]) hx hb dX0_middle_8 rfl hl (by decide) rfl (fun ls hl => ?_)
  refine lv_iconst (v := (nI 0)) hx hb dX0_middle_9 (by decide) ?_
  refine lv_istore_n (lv' := [(2, .int (nI 0)), (1, .int (nI (sg W 40))), (0, .ref h0)]) hx hb dX0_middle_10 rfl hl (by decide) rfl (fun ls hl => ?_)
  refine lv_iconst (v := (nI 1)) hx hb dX0_middle_11 (by decide) ?_
  refine lv_istore_n (lv' := [(3, .int (nI 1)), (2, .int (nI 0)), (1, .int (nI (sg W 40))), (0, .ref h0)]) hx hb dX0_middle_12 rfl hl (by decide) rfl (fun ls hl => ?_)
  refine xlo (σ := Nat × Nat) 4 (fun xz_ => (fun (i : Nat) (a : Nat) => [(0, .ref h0), (1, .int (nI (sg W 40))), (2, .int (nI a)), (3, .int (nI i))]) xz_.1 xz_.2) (fun xz_ => (fun (i : Nat) (a : Nat) => [(h0, .inr (0, [.ref h1, .ref h2, .int (nI sk), .int (nI ek), .int (nI tr)])), (h1, .inl (eI g, 41, .inl (fun j => nI (W j)))), (h2, .inl (eI g, 5, .inl (fun j => nI (B j))))]) xz_.1 xz_.2) (fun xz_ => (fun (i : Nat) (a : Nat) => a = sg W (i - 1) ∧ 1 ≤ i ∧ i ≤ 41 ∧ (sg W 40 ≠ 0 → ff (fun r => decide (sg W 40 ≤ 2 * sg W r)) 40 1 = ff (fun r => decide (sg W 40 ≤ 2 * sg W r)) (41 - i) i)) xz_.1 xz_.2) (fun xz_ => (fun (i : Nat) (a : Nat) => 41 - i) xz_.1 xz_.2) (fun xz_ hI ih13 H locs ls hP hD hS hl => ?_) (1, 0) (show 0 = sg W (1 - 1) ∧ 1 ≤ 1 ∧ 1 ≤ 41 ∧ (sg W 40 ≠ 0 → ff (fun r => decide (sg W 40 ≤ 2 * sg W r)) 40 1 = ff (fun r => decide (sg W 40 ≤ 2 * sg W r)) (41 - 1) 1) from (⟨rfl, by omega, by omega, fun _ => rfl⟩)) hP hD hS (lv_sub hl [3, 2, 1, 0] rfl)
  obtain ⟨i, a⟩ := xz_
  have hP : va_P (eD g) vwCl [(h0, .inr (0, [.ref h1, .ref h2, .int (nI sk), .int (nI ek), .int (nI tr)])), (h1, .inl (eI g, 41, .inl (fun j => nI (W j)))), (h2, .inl (eI g, 5, .inl (fun j => nI (B j))))] H := hP
  have hD : va_D A [(h0, .inr (0, [.ref h1, .ref h2, .int (nI sk), .int (nI ek), .int (nI tr)])), (h1, .inl (eI g, 41, .inl (fun j => nI (W j)))), (h2, .inl (eI g, 5, .inl (fun j => nI (B j))))] := hD
  have hl : lv_has ls 4 [(0, .ref h0), (1, .int (nI (sg W 40))), (2, .int (nI a)), (3, .int (nI i))] := hl
  have hI13 : a = sg W (i - 1) ∧ 1 ≤ i ∧ i ≤ 41 ∧ (sg W 40 ≠ 0 → ff (fun r => decide (sg W 40 ≤ 2 * sg W r)) 40 1 = ff (fun r => decide (sg W 40 ≤ 2 * sg W r)) (41 - i) i) := hI
  clear hI
  obtain ⟨ha, hi1, hi2, hf0⟩ := id hI13
  have hai : i ≤ 40 → sg W (i + 1 - 1) = a + W i := fun h => by rw [ha]; exact sg_step hi1 rfl
  have hsi : i ≤ 40 → sg W i = a + W i := fun h => by have := hai h; rw [show i + 1 - 1 = i by omega] at this; exact this
  have hab : a ≤ 360 := by rw [ha]; have := hsb (i - 1) (by omega); omega
  refine lv_iload_n hx hb dX0_middle_13 rfl (lv_at hl 3 rfl) ?_
  refine lv_bipush (v := (nI 40)) hx hb dX0_middle_14 (by decide) ?_
  refine xgt (tgt := 47) hx hb dX0_middle_16 (by decide) (by omega) (by omega) (fun c16 => ?_) (fun c16 => ?_)
  · skip
    refine lv_bipush (v := (-9)) hx hb dX0_middle_47 (by decide) ?_
    exact rtI F hP hD hS dX0_middle_49 (⟨by unfold midS; split; rfl; rename_i hz; rw [hf0 hz]; exact (ff_end (by omega)).symm, rfl⟩)
  · skip
    refine lv_iload_n hx hb dX0_middle_19 rfl (lv_at hl 1 rfl) ?_
    refine zle (tgt := 47) hx hb dX0_middle_20 (by decide) (by omega) (fun c20 => ?_) (fun c20 => ?_)
    · skip
      refine lv_bipush (v := (-9)) hx hb dX0_middle_47 (by decide) ?_
      exact rtI F hP hD hS dX0_middle_49 (⟨by unfold midS; rw [if_pos c20], rfl⟩)
    · skip
      refine lv_iload_n hx hb dX0_middle_23 rfl (lv_at hl 2 rfl) ?_
      refine lv_aload_n hx hb dX0_middle_24 rfl (lv_at hl 0 rfl) ?_
      refine xget F hP inX0_middle_X0 0 rfl rfl 0 (by decide) lkX0_middle_1 rfl dX0_middle_25 ?_
      refine lv_iload_n hx hb dX0_middle_28 rfl (lv_at hl 3 rfl) ?_
      refine xald F hP 1 (v := (nI (W i))) rfl (by omega) (by omega) rfl dX0_middle_29 ?_
      have hbd3 := hW (i)
      refine xadd hx hb dX0_middle_30 ?_
      refine lv_istore_n (lv' := [(2, .int (nI (a + (W i)))), (0, .ref h0), (1, .int (nI (sg W 40))), (3, .int (nI i))]) hx hb dX0_middle_31 rfl hl (by decide) rfl (fun ls hl => ?_)
      refine lv_iconst (v := (nI 2)) hx hb dX0_middle_32 (by decide) ?_
      refine lv_iload_n hx hb dX0_middle_33 rfl (lv_at hl 0 rfl) ?_
      refine xmul hx hb dX0_middle_34 ?_
      refine lv_iload_n hx hb dX0_middle_35 rfl (lv_at hl 2 rfl) ?_
      refine xlt (tgt := 41) hx hb dX0_middle_36 (by decide) (by omega) (by omega) (fun c36 => ?_) (fun c36 => ?_)
      · skip
        refine lv_iinc (v := (nI (i + 1))) (lv' := [(3, .int (nI (i + 1))), (2, .int (nI (a + (W i)))), (0, .ref h0), (1, .int (nI (sg W 40)))]) hx hb dX0_middle_41 hl (k := 3) rfl (iincP i 1) (by decide) rfl (fun ls hl => ?_)
        refine lv_goto (tgt := 13) hx hb dX0_middle_44 (by decide) ?_
        exact ih13 (i + 1, a + (W i)) (show (a + (W i)) = sg W ((i + 1) - 1) ∧ 1 ≤ (i + 1) ∧ (i + 1) ≤ 41 ∧ (sg W 40 ≠ 0 → ff (fun r => decide (sg W 40 ≤ 2 * sg W r)) 40 1 = ff (fun r => decide (sg W 40 ≤ 2 * sg W r)) (41 - (i + 1)) (i + 1)) from (⟨(hai (by omega)).symm, by omega, by omega, fun h => (hf0 h).trans (ff_no (by omega) (decide_eq_false (by rw [hsi (by omega)]; omega)))⟩)) (show 41 - (i + 1) < 41 - i from (by omega)) _ _ _ hP hD hS (lv_sub hl [2, 3, 1, 0] rfl)
      · skip
        refine lv_iload_n hx hb dX0_middle_39 rfl (lv_at hl 3 rfl) ?_
        exact rtI F hP hD hS dX0_middle_40 (⟨by unfold midS; rw [if_neg c20, hf0 c20]; exact (ff_yes (by omega) (decide_eq_true (by rw [hsi (by omega)]; omega))).symm, rfl⟩)
