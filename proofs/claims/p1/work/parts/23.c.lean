theorem dL_law_1373 : decode cL_law 1373 = .ok (.aload_n 1, 1) := by decide +kernel
theorem dL_law_1374 : decode cL_law 1374 = .ok (.aload_n 0, 1) := by decide +kernel
theorem dL_law_1375 : decode cL_law 1375 = .ok (.iload_n 3, 1) := by decide +kernel
theorem dL_law_1376 : decode cL_law 1376 = .ok (.iconst 1, 1) := by decide +kernel
theorem dL_law_1377 : decode cL_law 1377 = .ok (.iadd, 1) := by decide +kernel
theorem dL_law_1378 : decode cL_law 1378 = .ok (.iaload, 1) := by decide +kernel
theorem dL_law_1379 : decode cL_law 1379 = .ok (.aload_n 0, 1) := by decide +kernel
theorem dL_law_1380 : decode cL_law 1380 = .ok (.iload_n 3, 1) := by decide +kernel
theorem dL_law_1381 : decode cL_law 1381 = .ok (.iconst 2, 1) := by decide +kernel
theorem dL_law_1382 : decode cL_law 1382 = .ok (.iadd, 1) := by decide +kernel
theorem dL_law_1383 : decode cL_law 1383 = .ok (.iaload, 1) := by decide +kernel
theorem dL_law_1384 : decode cL_law 1384 = .ok (.aload_n 0, 1) := by decide +kernel
theorem dL_law_1385 : decode cL_law 1385 = .ok (.iload_n 3, 1) := by decide +kernel
theorem dL_law_1386 : decode cL_law 1386 = .ok (.iconst 3, 1) := by decide +kernel
theorem dL_law_1387 : decode cL_law 1387 = .ok (.iadd, 1) := by decide +kernel
theorem dL_law_1388 : decode cL_law 1388 = .ok (.iaload, 1) := by decide +kernel
theorem dL_law_1389 : decode cL_law 1389 = .ok (.i2l, 1) := by decide +kernel
theorem dL_law_1390 : decode cL_law 1390 = .ok (.bipush 32, 2) := by decide +kernel
theorem dL_law_1392 : decode cL_law 1392 = .ok (.lshl, 1) := by decide +kernel
theorem dL_law_1393 : decode cL_law 1393 = .ok (.aload_n 0, 1) := by decide +kernel
theorem dL_law_1394 : decode cL_law 1394 = .ok (.iload_n 3, 1) := by decide +kernel
theorem dL_law_1395 : decode cL_law 1395 = .ok (.iconst 4, 1) := by decide +kernel
theorem dL_law_1396 : decode cL_law 1396 = .ok (.iadd, 1) := by decide +kernel
theorem dL_law_1397 : decode cL_law 1397 = .ok (.iaload, 1) := by decide +kernel
theorem dL_law_1398 : decode cL_law 1398 = .ok (.i2l, 1) := by decide +kernel
theorem q_8_159 : Cond.constantLong "BeaconDelayLaw" 177 (4294967295 : Int64) ∈ gw := gw_8 (i := 159) (by decide +kernel) rfl
theorem dL_law_1399 : decode cL_law 1399 = .ok (.ldc2_w 177, 3) := by decide +kernel
theorem dL_law_1402 : decode cL_law 1402 = .ok (.land, 1) := by decide +kernel
theorem dL_law_1403 : decode cL_law 1403 = .ok (.lor, 1) := by decide +kernel
theorem q_5_187 : Cond.code yX9_write prog_1_method_70_code 6 (some FieldType.long) ∈ gw := gw_5 (i := 187) (rfl) rfl
theorem q_5_185 : Cond.instanceMethod yX9_write ∈ gw := gw_5 (i := 185) (by decide +kernel) rfl
theorem q_5_186 : Cond.selects "BeaconDelay" yX9_write yX9_write ∈ gw := gw_5 (i := 186) (by decide +kernel) rfl
theorem mt_X9_write : MtV yX9_write cX9_write 6 (some .long) 3 := ⟨⟨q_5_187, q_1_1, by decide +kernel, by decide +kernel, by decide +kernel⟩, q_5_185, q_5_186⟩
theorem q_5_184 : Cond.methodLink "BeaconDelayLaw" 179 yX9_write ∈ gw := gw_5 (i := 184) (by decide +kernel) rfl
theorem dL_law_1404 : decode cL_law 1404 = .ok (.invokevirtual 179, 3) := by decide +kernel
theorem dL_law_1407 : decode cL_law 1407 = .ok (.aload_n 2, 1) := by decide +kernel
theorem dL_law_1408 : decode cL_law 1408 = .ok (.aload_n 0, 1) := by decide +kernel
theorem dL_law_1409 : decode cL_law 1409 = .ok (.iload_n 3, 1) := by decide +kernel
theorem dL_law_1410 : decode cL_law 1410 = .ok (.iconst 1, 1) := by decide +kernel
theorem dL_law_1411 : decode cL_law 1411 = .ok (.iadd, 1) := by decide +kernel
theorem dL_law_1412 : decode cL_law 1412 = .ok (.iaload, 1) := by decide +kernel
theorem dL_law_1413 : decode cL_law 1413 = .ok (.aload_n 0, 1) := by decide +kernel
theorem dL_law_1414 : decode cL_law 1414 = .ok (.iload_n 3, 1) := by decide +kernel
theorem dL_law_1415 : decode cL_law 1415 = .ok (.iconst 2, 1) := by decide +kernel
theorem dL_law_1416 : decode cL_law 1416 = .ok (.iadd, 1) := by decide +kernel
theorem dL_law_1417 : decode cL_law 1417 = .ok (.iaload, 1) := by decide +kernel
theorem dL_law_1418 : decode cL_law 1418 = .ok (.aload_n 0, 1) := by decide +kernel
theorem dL_law_1419 : decode cL_law 1419 = .ok (.iload_n 3, 1) := by decide +kernel
theorem dL_law_1420 : decode cL_law 1420 = .ok (.iconst 3, 1) := by decide +kernel
theorem dL_law_1421 : decode cL_law 1421 = .ok (.iadd, 1) := by decide +kernel
theorem dL_law_1422 : decode cL_law 1422 = .ok (.iaload, 1) := by decide +kernel
theorem dL_law_1423 : decode cL_law 1423 = .ok (.i2l, 1) := by decide +kernel
theorem dL_law_1424 : decode cL_law 1424 = .ok (.bipush 32, 2) := by decide +kernel
theorem dL_law_1426 : decode cL_law 1426 = .ok (.lshl, 1) := by decide +kernel
theorem dL_law_1427 : decode cL_law 1427 = .ok (.aload_n 0, 1) := by decide +kernel
theorem dL_law_1428 : decode cL_law 1428 = .ok (.iload_n 3, 1) := by decide +kernel
theorem dL_law_1429 : decode cL_law 1429 = .ok (.iconst 4, 1) := by decide +kernel
theorem dL_law_1430 : decode cL_law 1430 = .ok (.iadd, 1) := by decide +kernel
theorem dL_law_1431 : decode cL_law 1431 = .ok (.iaload, 1) := by decide +kernel
theorem dL_law_1432 : decode cL_law 1432 = .ok (.i2l, 1) := by decide +kernel
theorem dL_law_1433 : decode cL_law 1433 = .ok (.ldc2_w 177, 3) := by decide +kernel
theorem dL_law_1436 : decode cL_law 1436 = .ok (.land, 1) := by decide +kernel
theorem dL_law_1437 : decode cL_law 1437 = .ok (.lor, 1) := by decide +kernel
theorem q_8_138 : Cond.code yX10_write prog_12_method_130_code 6 (some FieldType.long) ∈ gw := gw_8 (i := 138) (rfl) rfl
theorem q_8_136 : Cond.instanceMethod yX10_write ∈ gw := gw_8 (i := 136) (by decide +kernel) rfl
theorem q_8_137 : Cond.selects "BeaconDelayModel" yX10_write yX10_write ∈ gw := gw_8 (i := 137) (by decide +kernel) rfl
theorem mt_X10_write : MtV yX10_write cX10_write 6 (some .long) 3 := ⟨⟨q_8_138, q_1_9, by decide +kernel, by decide +kernel, by decide +kernel⟩, q_8_136, q_8_137⟩
theorem q_8_135 : Cond.methodLink "BeaconDelayLaw" 183 yX10_write ∈ gw := gw_8 (i := 135) (by decide +kernel) rfl
theorem dL_law_1438 : decode cL_law 1438 = .ok (.invokevirtual 183, 3) := by decide +kernel
theorem dL_law_1441 : decode cL_law 1441 = .ok (.lcmp, 1) := by decide +kernel
theorem dL_law_1442 : decode cL_law 1442 = .ok (.ifCond .eq 107, 3) := by decide +kernel
-- write
set_option maxHeartbeats 4000000 in
set_option maxRecDepth 100000 in
theorem lc_39 {p : Program} {e : Env} {s : State} {m : MethodId} {below : List Frame} {meth : Method} {c : Code} {l : Launch} {b : Nat} {xs : Nat → Int32} {V : GV} {y z : Nat → Nat} (C0 : lw_At p s m meth c b 6 xs) (hg : ∀ w ∈ gw, w.before #[Value.ref b] s = true) (hK : va_K V.1 vwCl (tyV V) s) (hE : En V (fun q : Nat => s.heap.size ≤ q) s s.heap) {H : Heap} {locs : List Loc} (hP : va_P V.1 vwCl (xW V y ++ mW V z) H) (hD : va_D (fun q : Nat => s.heap.size ≤ q) (xW V y ++ mW V z)) (hS : va_S (fun q : Nat => s.heap.size ≤ q) s.heap H locs) {ls : Array Slot} (hl : lv_has ls 4 [(0, .ref b), (1, .ref (y 0)), (2, .ref (z 0)), (3, .int 0)]) : W p l e room_1 s m #[Value.ref b] below meth c H locs 84 223324 (lw_Z below #[Value.ref b] s) (F0 m 1373 ls []) := by
  obtain ⟨hx, hb, hr, hml, hown, hts, hX, hbl, hlocks, hgv⟩ := id C0
  have hA : ∀ q : Nat, s.heap.size ≤ q → (fun q : Nat => s.heap.size ≤ q) q := fun _ h => h
  have hbA : ¬ (fun q : Nat => s.heap.size ≤ q) b := Nat.not_le.mpr hbl
  refine lv_aload_n hx hb dL_law_1373 rfl (lv_at hl 1 rfl) ?_
  refine lv_aload_n hx hb dL_law_1374 rfl (lv_at hl 0 rfl) ?_
  refine lv_iload_n hx hb dL_law_1375 rfl (lv_at hl 3 rfl) ?_
  refine lv_iconst (v := 1) hx hb dL_law_1376 (by decide) ?_
  refine lv_iadd hx hb dL_law_1377 ?_
  refine tpi (y := 1) (by decide +kernel) ?_
  refine va_sld hx hb hX hbl hbA hS (vin (by decide +kernel)) dL_law_1378 ?_
  refine tpi (y := xs 1) rfl ?_
  refine lv_aload_n hx hb dL_law_1379 rfl (lv_at hl 0 rfl) ?_
  refine lv_iload_n hx hb dL_law_1380 rfl (lv_at hl 3 rfl) ?_
  refine lv_iconst (v := 2) hx hb dL_law_1381 (by decide) ?_
  refine lv_iadd hx hb dL_law_1382 ?_
  refine tpi (y := 2) (by decide +kernel) ?_
  refine va_sld hx hb hX hbl hbA hS (vin (by decide +kernel)) dL_law_1383 ?_
  refine tpi (y := xs 2) rfl ?_
  refine lv_aload_n hx hb dL_law_1384 rfl (lv_at hl 0 rfl) ?_
  refine lv_iload_n hx hb dL_law_1385 rfl (lv_at hl 3 rfl) ?_
  refine lv_iconst (v := 3) hx hb dL_law_1386 (by decide) ?_
  refine lv_iadd hx hb dL_law_1387 ?_
  refine tpi (y := 3) (by decide +kernel) ?_
  refine va_sld hx hb hX hbl hbA hS (vin (by decide +kernel)) dL_law_1388 ?_
  refine tpi (y := xs 3) rfl ?_
  refine lv_i2l (v := ((xs 3).toInt64)) hx hb dL_law_1389 rfl ?_
  refine lv_bipush (v := 32) hx hb dL_law_1390 (by decide) ?_
  refine lv_lshl hx hb dL_law_1392 rfl ?_
  refine lv_topl (fun g_1392 eg_1392 => ?_)
  refine lv_aload_n hx hb dL_law_1393 rfl (lv_at hl 0 rfl) ?_
  refine lv_iload_n hx hb dL_law_1394 rfl (lv_at hl 3 rfl) ?_
  refine lv_iconst (v := 4) hx hb dL_law_1395 (by decide) ?_
  refine lv_iadd hx hb dL_law_1396 ?_
  refine tpi (y := 4) (by decide +kernel) ?_
  refine va_sld hx hb hX hbl hbA hS (vin (by decide +kernel)) dL_law_1397 ?_
  refine tpi (y := xs 4) rfl ?_
  refine lv_i2l (v := ((xs 4).toInt64)) hx hb dL_law_1398 rfl ?_
  refine lv_ldc2 (v := 4294967295) hx hb hown (hg _ q_8_159) dL_law_1399 ?_
  refine lv_land hx hb dL_law_1402 ?_
  refine lv_topl (fun g_1402 eg_1402 => ?_)
  refine lv_lor hx hb dL_law_1403 ?_
  refine lv_topl (fun g_1403 eg_1403 => ?_)
  refine jnL (wr := mW V z) (rnV (rest := []) ⟨hx, hb, hml, hown, hg⟩ (c_X9_write_0 l V y ((xs 1)) ((xs 2)) g_1403) mt_X9_write q_5_184 ⟨Nat.le_of_ble_eq_true rfl, Nat.le_of_ble_eq_true rfl⟩ hK hP hD hS hA hE [0, 30, 33, 35, 37, 39] rfl rfl 0 rfl rfl rfl rfl hl.1 rfl (Nat.le_of_ble_eq_true rfl) dL_law_1404 ⟨Nat.le_of_ble_eq_true rfl, Nat.le_of_ble_eq_true rfl⟩) hP hD hS hA [0, 30, 33, 35, 37, 39] [59, 60, 61, 62, 63, 64, 65, 66, 67, 68, 69, 70, 71, 72, 73, 74, 75, 76, 77, 78, 79, 80, 81, 82, 83] rfl rfl rfl (by decide) (fun r w H locs hw hP hD hS => ?_)
  refine W.widen (k := 84) (n := 223324) (Nat.le_of_ble_eq_true rfl) (Nat.le_of_ble_eq_true rfl) ?_
  have hP : va_P V.1 vwCl (mW V z) H := takeP hP
  have hD : va_D (fun q : Nat => s.heap.size ≤ q) (mW V z) := takeD hD
  refine lv_aload_n hx hb dL_law_1407 rfl (lv_at hl 2 rfl) ?_
  refine lv_aload_n hx hb dL_law_1408 rfl (lv_at hl 0 rfl) ?_
  refine lv_iload_n hx hb dL_law_1409 rfl (lv_at hl 3 rfl) ?_
  refine lv_iconst (v := 1) hx hb dL_law_1410 (by decide) ?_
  refine lv_iadd hx hb dL_law_1411 ?_
  refine tpi (y := 1) (by decide +kernel) ?_
  refine va_sld hx hb hX hbl hbA hS (vin (by decide +kernel)) dL_law_1412 ?_
  refine tpi (y := xs 1) rfl ?_
  refine lv_aload_n hx hb dL_law_1413 rfl (lv_at hl 0 rfl) ?_
  refine lv_iload_n hx hb dL_law_1414 rfl (lv_at hl 3 rfl) ?_
  refine lv_iconst (v := 2) hx hb dL_law_1415 (by decide) ?_
  refine lv_iadd hx hb dL_law_1416 ?_
  refine tpi (y := 2) (by decide +kernel) ?_
  refine va_sld hx hb hX hbl hbA hS (vin (by decide +kernel)) dL_law_1417 ?_
  refine tpi (y := xs 2) rfl ?_
  refine lv_aload_n hx hb dL_law_1418 rfl (lv_at hl 0 rfl) ?_
  refine lv_iload_n hx hb dL_law_1419 rfl (lv_at hl 3 rfl) ?_
  refine lv_iconst (v := 3) hx hb dL_law_1420 (by decide) ?_
  refine lv_iadd hx hb dL_law_1421 ?_
  refine tpi (y := 3) (by decide +kernel) ?_
  refine va_sld hx hb hX hbl hbA hS (vin (by decide +kernel)) dL_law_1422 ?_
  refine tpi (y := xs 3) rfl ?_
  refine lv_i2l (v := ((xs 3).toInt64)) hx hb dL_law_1423 rfl ?_
  refine lv_bipush (v := 32) hx hb dL_law_1424 (by decide) ?_
  refine lv_lshl hx hb dL_law_1426 rfl ?_
  refine lv_topl (fun g_1426 eg_1426 => ?_)
  refine lv_aload_n hx hb dL_law_1427 rfl (lv_at hl 0 rfl) ?_
  refine lv_iload_n hx hb dL_law_1428 rfl (lv_at hl 3 rfl) ?_
  refine lv_iconst (v := 4) hx hb dL_law_1429 (by decide) ?_
  refine lv_iadd hx hb dL_law_1430 ?_
  refine tpi (y := 4) (by decide +kernel) ?_
  refine va_sld hx hb hX hbl hbA hS (vin (by decide +kernel)) dL_law_1431 ?_
  refine tpi (y := xs 4) rfl ?_
  refine lv_i2l (v := ((xs 4).toInt64)) hx hb dL_law_1432 rfl ?_
  refine lv_ldc2 (v := 4294967295) hx hb hown (hg _ q_8_159) dL_law_1433 ?_
  refine lv_land hx hb dL_law_1436 ?_
  refine lv_topl (fun g_1436 eg_1436 => ?_)
  refine lv_lor hx hb dL_law_1437 ?_
  refine lv_topl (fun g_1437 eg_1437 => ?_)
  refine jnL (wr := []) (rnV (rest := [.long r]) ⟨hx, hb, hml, hown, hg⟩ (c_X10_write_0 l V z ((xs 1)) ((xs 2)) g_1437) mt_X10_write q_8_135 ⟨Nat.le_of_ble_eq_true rfl, Nat.le_of_ble_eq_true rfl⟩ hK hP hD hS hA hE [0, 21] rfl rfl 0 rfl rfl rfl rfl hl.1 rfl (Nat.le_of_ble_eq_true rfl) dL_law_1438 ⟨Nat.le_of_ble_eq_true rfl, Nat.le_of_ble_eq_true rfl⟩) hP hD hS hA [0, 21] [] rfl rfl rfl (by decide) (fun r2 w2 H locs hw2 hP hD hS => ?_)
  refine W.widen (k := 84) (n := 223324) (Nat.le_of_ble_eq_true rfl) (Nat.le_of_ble_eq_true rfl) ?_
  have e9 : r = r2 := by
    rcases hw with ⟨f_1, ex, -⟩ | ⟨f_2, f_3, ex, -⟩ | ⟨f_4, f_5, f_6, ex, -⟩ | ⟨f_7, f_8, f_9, ex, -⟩ | ⟨f_10, f_11, f_12, ex, -⟩ | ⟨f_13, f_14, f_15, ex, -⟩
    · rcases hw2 with ⟨f_16, em, -⟩ | ⟨f_17, f_18, em, -⟩ | ⟨f_19, f_20, f_21, em, -⟩ | ⟨f_22, f_23, f_24, em, -⟩ | ⟨f_25, f_26, f_27, em, -⟩ | ⟨f_28, f_29, f_30, em, -⟩
      · exact ex.trans em.symm
      · exact ex.trans em.symm
      · exact False.elim (by simp only [tI_lt, tI_le, tI_eq, tL_lt, tL_le, tL_eq, tWx, (by decide : (0 : Int32).toInt = 0), (by decide : (0 : Int64).toInt = 0), (by decide : (1 : Int32).toInt = 1), (by decide : (1 : Int64).toInt = 1), (by decide : (3 : Int64).toInt = 3)] at f_1 f_19 f_20 f_21; omega)
      · exact False.elim (by simp only [tI_lt, tI_le, tI_eq, tL_lt, tL_le, tL_eq, tWx, (by decide : (0 : Int32).toInt = 0), (by decide : (0 : Int64).toInt = 0), (by decide : (1 : Int32).toInt = 1), (by decide : (1 : Int64).toInt = 1), (by decide : (3 : Int64).toInt = 3)] at f_1 f_22 f_23 f_24; omega)
      · exact False.elim (by simp only [tI_lt, tI_le, tI_eq, tL_lt, tL_le, tL_eq, tWx, (by decide : (0 : Int32).toInt = 0), (by decide : (0 : Int64).toInt = 0), (by decide : (1 : Int32).toInt = 1), (by decide : (1 : Int64).toInt = 1), (by decide : (2 : Int32).toInt = 2), (by decide : (3 : Int64).toInt = 3)] at f_1 f_25 f_26 f_27; omega)
      · exact False.elim (by simp only [tI_lt, tI_le, tI_eq, tL_lt, tL_le, tL_eq, tWx, (by decide : (0 : Int32).toInt = 0), (by decide : (0 : Int64).toInt = 0), (by decide : (1 : Int32).toInt = 1), (by decide : (1 : Int64).toInt = 1), (by decide : (3 : Int32).toInt = 3), (by decide : (3 : Int64).toInt = 3)] at f_1 f_28 f_29 f_30; omega)
    · rcases hw2 with ⟨f_16, em, -⟩ | ⟨f_17, f_18, em, -⟩ | ⟨f_19, f_20, f_21, em, -⟩ | ⟨f_22, f_23, f_24, em, -⟩ | ⟨f_25, f_26, f_27, em, -⟩ | ⟨f_28, f_29, f_30, em, -⟩
      · exact ex.trans em.symm
      · exact ex.trans em.symm
      · exact False.elim (by simp only [tI_lt, tI_le, tI_eq, tL_lt, tL_le, tL_eq, tWx, (by decide : (0 : Int32).toInt = 0), (by decide : (0 : Int64).toInt = 0), (by decide : (1 : Int32).toInt = 1), (by decide : (1 : Int64).toInt = 1), (by decide : (3 : Int64).toInt = 3), (by decide : (4 : Int32).toInt = 4)] at f_2 f_3 f_19 f_20 f_21; omega)
      · exact False.elim (by simp only [tI_lt, tI_le, tI_eq, tL_lt, tL_le, tL_eq, tWx, (by decide : (0 : Int32).toInt = 0), (by decide : (0 : Int64).toInt = 0), (by decide : (1 : Int32).toInt = 1), (by decide : (1 : Int64).toInt = 1), (by decide : (3 : Int64).toInt = 3), (by decide : (4 : Int32).toInt = 4)] at f_2 f_3 f_22 f_23 f_24; omega)
      · exact False.elim (by simp only [tI_lt, tI_le, tI_eq, tL_lt, tL_le, tL_eq, tWx, (by decide : (0 : Int32).toInt = 0), (by decide : (0 : Int64).toInt = 0), (by decide : (1 : Int32).toInt = 1), (by decide : (1 : Int64).toInt = 1), (by decide : (2 : Int32).toInt = 2), (by decide : (3 : Int64).toInt = 3), (by decide : (4 : Int32).toInt = 4)] at f_2 f_3 f_25 f_26 f_27; omega)
      · exact False.elim (by simp only [tI_lt, tI_le, tI_eq, tL_lt, tL_le, tL_eq, tWx, (by decide : (0 : Int32).toInt = 0), (by decide : (0 : Int64).toInt = 0), (by decide : (1 : Int32).toInt = 1), (by decide : (1 : Int64).toInt = 1), (by decide : (3 : Int32).toInt = 3), (by decide : (3 : Int64).toInt = 3), (by decide : (4 : Int32).toInt = 4)] at f_2 f_3 f_28 f_29 f_30; omega)
    · rcases hw2 with ⟨f_16, em, -⟩ | ⟨f_17, f_18, em, -⟩ | ⟨f_19, f_20, f_21, em, -⟩ | ⟨f_22, f_23, f_24, em, -⟩ | ⟨f_25, f_26, f_27, em, -⟩ | ⟨f_28, f_29, f_30, em, -⟩
      · exact False.elim (by simp only [tI_lt, tI_le, tI_eq, tL_lt, tL_le, tL_eq, tWx, (by decide : (0 : Int32).toInt = 0), (by decide : (0 : Int64).toInt = 0), (by decide : (1 : Int32).toInt = 1), (by decide : (1 : Int64).toInt = 1), (by decide : (4 : Int32).toInt = 4)] at f_4 f_5 f_6 f_16; omega)
      · exact False.elim (by simp only [tI_lt, tI_le, tI_eq, tL_lt, tL_le, tL_eq, tWx, (by decide : (0 : Int32).toInt = 0), (by decide : (0 : Int64).toInt = 0), (by decide : (1 : Int32).toInt = 1), (by decide : (1 : Int64).toInt = 1), (by decide : (3 : Int64).toInt = 3), (by decide : (4 : Int32).toInt = 4)] at f_4 f_5 f_6 f_17 f_18; omega)
      · exact ex.trans em.symm
      · exact ex.trans em.symm
      · exact ex.trans em.symm
      · exact ex.trans em.symm
    · rcases hw2 with ⟨f_16, em, -⟩ | ⟨f_17, f_18, em, -⟩ | ⟨f_19, f_20, f_21, em, -⟩ | ⟨f_22, f_23, f_24, em, -⟩ | ⟨f_25, f_26, f_27, em, -⟩ | ⟨f_28, f_29, f_30, em, -⟩
      · exact False.elim (by simp only [tI_lt, tI_le, tI_eq, tL_lt, tL_le, tL_eq, tWx, (by decide : (0 : Int32).toInt = 0), (by decide : (0 : Int64).toInt = 0), (by decide : (1 : Int32).toInt = 1), (by decide : (1 : Int64).toInt = 1), (by decide : (4 : Int32).toInt = 4)] at f_7 f_8 f_9 f_16; omega)
      · exact False.elim (by simp only [tI_lt, tI_le, tI_eq, tL_lt, tL_le, tL_eq, tWx, (by decide : (0 : Int32).toInt = 0), (by decide : (0 : Int64).toInt = 0), (by decide : (1 : Int32).toInt = 1), (by decide : (1 : Int64).toInt = 1), (by decide : (3 : Int64).toInt = 3), (by decide : (4 : Int32).toInt = 4)] at f_7 f_8 f_9 f_17 f_18; omega)
      · exact ex.trans em.symm
      · exact ex.trans em.symm
      · exact ex.trans em.symm
      · exact ex.trans em.symm
    · rcases hw2 with ⟨f_16, em, -⟩ | ⟨f_17, f_18, em, -⟩ | ⟨f_19, f_20, f_21, em, -⟩ | ⟨f_22, f_23, f_24, em, -⟩ | ⟨f_25, f_26, f_27, em, -⟩ | ⟨f_28, f_29, f_30, em, -⟩
      · exact False.elim (by simp only [tI_lt, tI_le, tI_eq, tL_lt, tL_le, tL_eq, tWx, (by decide : (0 : Int32).toInt = 0), (by decide : (0 : Int64).toInt = 0), (by decide : (1 : Int32).toInt = 1), (by decide : (1 : Int64).toInt = 1), (by decide : (2 : Int32).toInt = 2), (by decide : (4 : Int32).toInt = 4)] at f_10 f_11 f_12 f_16; omega)
      · exact False.elim (by simp only [tI_lt, tI_le, tI_eq, tL_lt, tL_le, tL_eq, tWx, (by decide : (0 : Int32).toInt = 0), (by decide : (0 : Int64).toInt = 0), (by decide : (1 : Int32).toInt = 1), (by decide : (1 : Int64).toInt = 1), (by decide : (2 : Int32).toInt = 2), (by decide : (3 : Int64).toInt = 3), (by decide : (4 : Int32).toInt = 4)] at f_10 f_11 f_12 f_17 f_18; omega)
      · exact ex.trans em.symm
      · exact ex.trans em.symm
      · exact ex.trans em.symm
      · exact ex.trans em.symm
    · rcases hw2 with ⟨f_16, em, -⟩ | ⟨f_17, f_18, em, -⟩ | ⟨f_19, f_20, f_21, em, -⟩ | ⟨f_22, f_23, f_24, em, -⟩ | ⟨f_25, f_26, f_27, em, -⟩ | ⟨f_28, f_29, f_30, em, -⟩
      · exact False.elim (by simp only [tI_lt, tI_le, tI_eq, tL_lt, tL_le, tL_eq, tWx, (by decide : (0 : Int32).toInt = 0), (by decide : (0 : Int64).toInt = 0), (by decide : (1 : Int32).toInt = 1), (by decide : (1 : Int64).toInt = 1), (by decide : (3 : Int32).toInt = 3), (by decide : (4 : Int32).toInt = 4)] at f_13 f_14 f_15 f_16; omega)
      · exact False.elim (by simp only [tI_lt, tI_le, tI_eq, tL_lt, tL_le, tL_eq, tWx, (by decide : (0 : Int32).toInt = 0), (by decide : (0 : Int64).toInt = 0), (by decide : (1 : Int32).toInt = 1), (by decide : (1 : Int64).toInt = 1), (by decide : (3 : Int32).toInt = 3), (by decide : (3 : Int64).toInt = 3), (by decide : (4 : Int32).toInt = 4)] at f_13 f_14 f_15 f_17 f_18; omega)
      · exact ex.trans em.symm
      · exact ex.trans em.symm
      · exact ex.trans em.symm
      · exact ex.trans em.symm
  refine W.lcmp hx hb dL_law_1441 ?_
  refine lv_if_eq (tgt := 1549) hx hb dL_law_1442 (by decide) (fun _ => ?_) (fun c_1 => absurd ((lg_cmp_eq _ _).mpr e9) c_1)
  exact law_end C0 (Nat.le_of_ble_eq_true rfl) (Nat.le_of_ble_eq_true rfl) hS (lv_sub hl [0, 3] rfl)
theorem dL_law_1447 : decode cL_law 1447 = .ok (.aload_n 1, 1) := by decide +kernel
theorem dL_law_1448 : decode cL_law 1448 = .ok (.aload_n 0, 1) := by decide +kernel
theorem dL_law_1449 : decode cL_law 1449 = .ok (.iload_n 3, 1) := by decide +kernel
theorem dL_law_1450 : decode cL_law 1450 = .ok (.iconst 1, 1) := by decide +kernel
theorem dL_law_1451 : decode cL_law 1451 = .ok (.iadd, 1) := by decide +kernel
theorem dL_law_1452 : decode cL_law 1452 = .ok (.iaload, 1) := by decide +kernel
theorem dL_law_1453 : decode cL_law 1453 = .ok (.aload_n 0, 1) := by decide +kernel
theorem dL_law_1454 : decode cL_law 1454 = .ok (.iload_n 3, 1) := by decide +kernel
theorem dL_law_1455 : decode cL_law 1455 = .ok (.iconst 2, 1) := by decide +kernel
theorem dL_law_1456 : decode cL_law 1456 = .ok (.iadd, 1) := by decide +kernel
theorem dL_law_1457 : decode cL_law 1457 = .ok (.iaload, 1) := by decide +kernel
theorem q_5_197 : Cond.code yX9_lists prog_1_method_71_code 6 (some FieldType.int) ∈ gw := gw_5 (i := 197) (rfl) rfl
theorem q_5_195 : Cond.instanceMethod yX9_lists ∈ gw := gw_5 (i := 195) (by decide +kernel) rfl
theorem q_5_196 : Cond.selects "BeaconDelay" yX9_lists yX9_lists ∈ gw := gw_5 (i := 196) (by decide +kernel) rfl
theorem mt_X9_lists : MtV yX9_lists cX9_lists 6 (some .int) 2 := ⟨⟨q_5_197, q_1_1, by decide +kernel, by decide +kernel, by decide +kernel⟩, q_5_195, q_5_196⟩
theorem q_5_194 : Cond.methodLink "BeaconDelayLaw" 184 yX9_lists ∈ gw := gw_5 (i := 194) (by decide +kernel) rfl
theorem dL_law_1458 : decode cL_law 1458 = .ok (.invokevirtual 184, 3) := by decide +kernel
theorem dL_law_1461 : decode cL_law 1461 = .ok (.aload_n 2, 1) := by decide +kernel
theorem dL_law_1462 : decode cL_law 1462 = .ok (.aload_n 0, 1) := by decide +kernel
theorem dL_law_1463 : decode cL_law 1463 = .ok (.iload_n 3, 1) := by decide +kernel
theorem dL_law_1464 : decode cL_law 1464 = .ok (.iconst 1, 1) := by decide +kernel
theorem dL_law_1465 : decode cL_law 1465 = .ok (.iadd, 1) := by decide +kernel
theorem dL_law_1466 : decode cL_law 1466 = .ok (.iaload, 1) := by decide +kernel
theorem dL_law_1467 : decode cL_law 1467 = .ok (.aload_n 0, 1) := by decide +kernel
theorem dL_law_1468 : decode cL_law 1468 = .ok (.iload_n 3, 1) := by decide +kernel
theorem dL_law_1469 : decode cL_law 1469 = .ok (.iconst 2, 1) := by decide +kernel
theorem dL_law_1470 : decode cL_law 1470 = .ok (.iadd, 1) := by decide +kernel
theorem dL_law_1471 : decode cL_law 1471 = .ok (.iaload, 1) := by decide +kernel
theorem q_8_146 : Cond.code yX10_lists prog_12_method_131_code 6 (some FieldType.int) ∈ gw := gw_8 (i := 146) (rfl) rfl
theorem q_8_144 : Cond.instanceMethod yX10_lists ∈ gw := gw_8 (i := 144) (by decide +kernel) rfl
theorem q_8_145 : Cond.selects "BeaconDelayModel" yX10_lists yX10_lists ∈ gw := gw_8 (i := 145) (by decide +kernel) rfl
theorem mt_X10_lists : MtV yX10_lists cX10_lists 6 (some .int) 2 := ⟨⟨q_8_146, q_1_9, by decide +kernel, by decide +kernel, by decide +kernel⟩, q_8_144, q_8_145⟩
theorem q_8_143 : Cond.methodLink "BeaconDelayLaw" 187 yX10_lists ∈ gw := gw_8 (i := 143) (by decide +kernel) rfl
theorem dL_law_1472 : decode cL_law 1472 = .ok (.invokevirtual 187, 3) := by decide +kernel
theorem dL_law_1475 : decode cL_law 1475 = .ok (.if_icmp .eq 74, 3) := by decide +kernel
-- lists
set_option maxHeartbeats 4000000 in
set_option maxRecDepth 100000 in
theorem lc_40 {p : Program} {e : Env} {s : State} {m : MethodId} {below : List Frame} {meth : Method} {c : Code} {l : Launch} {b : Nat} {xs : Nat → Int32} {V : GV} {y z : Nat → Nat} (C0 : lw_At p s m meth c b 6 xs) (hg : ∀ w ∈ gw, w.before #[Value.ref b] s = true) (hK : va_K V.1 vwCl (tyV V) s) (hE : En V (fun q : Nat => s.heap.size ≤ q) s s.heap) {H : Heap} {locs : List Loc} (hP : va_P V.1 vwCl (xW V y ++ mW V z) H) (hD : va_D (fun q : Nat => s.heap.size ≤ q) (xW V y ++ mW V z)) (hS : va_S (fun q : Nat => s.heap.size ≤ q) s.heap H locs) {ls : Array Slot} (hl : lv_has ls 4 [(0, .ref b), (1, .ref (y 0)), (2, .ref (z 0)), (3, .int 0)]) : W p l e room_1 s m #[Value.ref b] below meth c H locs 84 223324 (lw_Z below #[Value.ref b] s) (F0 m 1447 ls []) := by
  obtain ⟨hx, hb, hr, hml, hown, hts, hX, hbl, hlocks, hgv⟩ := id C0
  have hA : ∀ q : Nat, s.heap.size ≤ q → (fun q : Nat => s.heap.size ≤ q) q := fun _ h => h
  have hbA : ¬ (fun q : Nat => s.heap.size ≤ q) b := Nat.not_le.mpr hbl
  refine lv_aload_n hx hb dL_law_1447 rfl (lv_at hl 1 rfl) ?_
  refine lv_aload_n hx hb dL_law_1448 rfl (lv_at hl 0 rfl) ?_
  refine lv_iload_n hx hb dL_law_1449 rfl (lv_at hl 3 rfl) ?_
  refine lv_iconst (v := 1) hx hb dL_law_1450 (by decide) ?_
  refine lv_iadd hx hb dL_law_1451 ?_
  refine tpi (y := 1) (by decide +kernel) ?_
  refine va_sld hx hb hX hbl hbA hS (vin (by decide +kernel)) dL_law_1452 ?_
  refine tpi (y := xs 1) rfl ?_
  refine lv_aload_n hx hb dL_law_1453 rfl (lv_at hl 0 rfl) ?_
  refine lv_iload_n hx hb dL_law_1454 rfl (lv_at hl 3 rfl) ?_
  refine lv_iconst (v := 2) hx hb dL_law_1455 (by decide) ?_
  refine lv_iadd hx hb dL_law_1456 ?_
  refine tpi (y := 2) (by decide +kernel) ?_
  refine va_sld hx hb hX hbl hbA hS (vin (by decide +kernel)) dL_law_1457 ?_
  refine tpi (y := xs 2) rfl ?_
  refine jnI (wr := mW V z) (rnV (rest := []) ⟨hx, hb, hml, hown, hg⟩ (c_X9_lists_0 l V y ((xs 1)) ((xs 2))) mt_X9_lists q_5_194 ⟨Nat.le_of_ble_eq_true rfl, Nat.le_of_ble_eq_true rfl⟩ hK hP hD hS hA hE [0, 2] rfl rfl 0 rfl rfl rfl rfl hl.1 rfl (Nat.le_of_ble_eq_true rfl) dL_law_1458 ⟨Nat.le_of_ble_eq_true rfl, Nat.le_of_ble_eq_true rfl⟩) hP hD hS hA [0, 2] [59, 60, 61, 62, 63, 64, 65, 66, 67, 68, 69, 70, 71, 72, 73, 74, 75, 76, 77, 78, 79, 80, 81, 82, 83] rfl rfl rfl (by decide) (fun r w H locs hw hP hD hS => ?_)
  refine W.widen (k := 84) (n := 223324) (Nat.le_of_ble_eq_true rfl) (Nat.le_of_ble_eq_true rfl) ?_
  have hP : va_P V.1 vwCl (mW V z) H := takeP hP
  have hD : va_D (fun q : Nat => s.heap.size ≤ q) (mW V z) := takeD hD
  refine lv_aload_n hx hb dL_law_1461 rfl (lv_at hl 2 rfl) ?_
  refine lv_aload_n hx hb dL_law_1462 rfl (lv_at hl 0 rfl) ?_
  refine lv_iload_n hx hb dL_law_1463 rfl (lv_at hl 3 rfl) ?_
  refine lv_iconst (v := 1) hx hb dL_law_1464 (by decide) ?_
  refine lv_iadd hx hb dL_law_1465 ?_
  refine tpi (y := 1) (by decide +kernel) ?_
  refine va_sld hx hb hX hbl hbA hS (vin (by decide +kernel)) dL_law_1466 ?_
  refine tpi (y := xs 1) rfl ?_
  refine lv_aload_n hx hb dL_law_1467 rfl (lv_at hl 0 rfl) ?_
  refine lv_iload_n hx hb dL_law_1468 rfl (lv_at hl 3 rfl) ?_
  refine lv_iconst (v := 2) hx hb dL_law_1469 (by decide) ?_
  refine lv_iadd hx hb dL_law_1470 ?_
  refine tpi (y := 2) (by decide +kernel) ?_
  refine va_sld hx hb hX hbl hbA hS (vin (by decide +kernel)) dL_law_1471 ?_
  refine tpi (y := xs 2) rfl ?_
  refine jnI (wr := []) (rnV (rest := [.int r]) ⟨hx, hb, hml, hown, hg⟩ (c_X10_lists_0 l V z ((xs 1)) ((xs 2))) mt_X10_lists q_8_143 ⟨Nat.le_of_ble_eq_true rfl, Nat.le_of_ble_eq_true rfl⟩ hK hP hD hS hA hE [0, 24] rfl rfl 0 rfl rfl rfl rfl hl.1 rfl (Nat.le_of_ble_eq_true rfl) dL_law_1472 ⟨Nat.le_of_ble_eq_true rfl, Nat.le_of_ble_eq_true rfl⟩) hP hD hS hA [0, 24] [] rfl rfl rfl (by decide) (fun r2 w2 H locs hw2 hP hD hS => ?_)
  refine W.widen (k := 84) (n := 223324) (Nat.le_of_ble_eq_true rfl) (Nat.le_of_ble_eq_true rfl) ?_
  have e9 : r = r2 := by
    obtain ⟨ex, -⟩ := hw
    obtain ⟨em, -⟩ := hw2
    exact ex.trans em.symm
  refine lv_icmp_eq (tgt := 1549) hx hb dL_law_1475 (by decide) (fun _ => ?_) (fun c_1 => absurd e9 c_1)
  exact law_end C0 (Nat.le_of_ble_eq_true rfl) (Nat.le_of_ble_eq_true rfl) hS (lv_sub hl [0, 3] rfl)
theorem dL_law_1480 : decode cL_law 1480 = .ok (.aload_n 1, 1) := by decide +kernel
theorem dL_law_1481 : decode cL_law 1481 = .ok (.aload_n 0, 1) := by decide +kernel
theorem dL_law_1482 : decode cL_law 1482 = .ok (.iload_n 3, 1) := by decide +kernel
theorem dL_law_1483 : decode cL_law 1483 = .ok (.iconst 1, 1) := by decide +kernel
theorem dL_law_1484 : decode cL_law 1484 = .ok (.iadd, 1) := by decide +kernel
theorem dL_law_1485 : decode cL_law 1485 = .ok (.iaload, 1) := by decide +kernel
theorem q_5_201 : Cond.code yX9_image prog_1_method_73_code 3 (some FieldType.int) ∈ gw := gw_5 (i := 201) (rfl) rfl
theorem q_5_199 : Cond.instanceMethod yX9_image ∈ gw := gw_5 (i := 199) (by decide +kernel) rfl
theorem q_5_200 : Cond.selects "BeaconDelay" yX9_image yX9_image ∈ gw := gw_5 (i := 200) (by decide +kernel) rfl
theorem mt_X9_image : MtV yX9_image cX9_image 3 (some .int) 1 := ⟨⟨q_5_201, q_1_1, by decide +kernel, by decide +kernel, by decide +kernel⟩, q_5_199, q_5_200⟩
theorem q_5_198 : Cond.methodLink "BeaconDelayLaw" 188 yX9_image ∈ gw := gw_5 (i := 198) (by decide +kernel) rfl
theorem dL_law_1486 : decode cL_law 1486 = .ok (.invokevirtual 188, 3) := by decide +kernel
theorem dL_law_1489 : decode cL_law 1489 = .ok (.aload_n 2, 1) := by decide +kernel
theorem dL_law_1490 : decode cL_law 1490 = .ok (.aload_n 0, 1) := by decide +kernel
theorem dL_law_1491 : decode cL_law 1491 = .ok (.iload_n 3, 1) := by decide +kernel
theorem dL_law_1492 : decode cL_law 1492 = .ok (.iconst 1, 1) := by decide +kernel
theorem dL_law_1493 : decode cL_law 1493 = .ok (.iadd, 1) := by decide +kernel
theorem dL_law_1494 : decode cL_law 1494 = .ok (.iaload, 1) := by decide +kernel
theorem q_8_150 : Cond.code yX10_image prog_12_method_132_code 3 (some FieldType.int) ∈ gw := gw_8 (i := 150) (rfl) rfl
theorem q_8_148 : Cond.instanceMethod yX10_image ∈ gw := gw_8 (i := 148) (by decide +kernel) rfl
theorem q_8_149 : Cond.selects "BeaconDelayModel" yX10_image yX10_image ∈ gw := gw_8 (i := 149) (by decide +kernel) rfl
theorem mt_X10_image : MtV yX10_image cX10_image 3 (some .int) 1 := ⟨⟨q_8_150, q_1_9, by decide +kernel, by decide +kernel, by decide +kernel⟩, q_8_148, q_8_149⟩
theorem q_8_147 : Cond.methodLink "BeaconDelayLaw" 191 yX10_image ∈ gw := gw_8 (i := 147) (by decide +kernel) rfl
theorem dL_law_1495 : decode cL_law 1495 = .ok (.invokevirtual 191, 3) := by decide +kernel
theorem dL_law_1498 : decode cL_law 1498 = .ok (.if_icmp .eq 51, 3) := by decide +kernel
-- image
set_option maxHeartbeats 4000000 in
set_option maxRecDepth 100000 in
theorem lc_41 {p : Program} {e : Env} {s : State} {m : MethodId} {below : List Frame} {meth : Method} {c : Code} {l : Launch} {b : Nat} {xs : Nat → Int32} {V : GV} {y z : Nat → Nat} (C0 : lw_At p s m meth c b 6 xs) (hg : ∀ w ∈ gw, w.before #[Value.ref b] s = true) (hK : va_K V.1 vwCl (tyV V) s) (hE : En V (fun q : Nat => s.heap.size ≤ q) s s.heap) {H : Heap} {locs : List Loc} (hP : va_P V.1 vwCl (xW V y ++ mW V z) H) (hD : va_D (fun q : Nat => s.heap.size ≤ q) (xW V y ++ mW V z)) (hS : va_S (fun q : Nat => s.heap.size ≤ q) s.heap H locs) {ls : Array Slot} (hl : lv_has ls 4 [(0, .ref b), (1, .ref (y 0)), (2, .ref (z 0)), (3, .int 0)]) : W p l e room_1 s m #[Value.ref b] below meth c H locs 84 223324 (lw_Z below #[Value.ref b] s) (F0 m 1480 ls []) := by
  obtain ⟨hx, hb, hr, hml, hown, hts, hX, hbl, hlocks, hgv⟩ := id C0
  have hA : ∀ q : Nat, s.heap.size ≤ q → (fun q : Nat => s.heap.size ≤ q) q := fun _ h => h
  have hbA : ¬ (fun q : Nat => s.heap.size ≤ q) b := Nat.not_le.mpr hbl
  refine lv_aload_n hx hb dL_law_1480 rfl (lv_at hl 1 rfl) ?_
  refine lv_aload_n hx hb dL_law_1481 rfl (lv_at hl 0 rfl) ?_
  refine lv_iload_n hx hb dL_law_1482 rfl (lv_at hl 3 rfl) ?_
  refine lv_iconst (v := 1) hx hb dL_law_1483 (by decide) ?_
  refine lv_iadd hx hb dL_law_1484 ?_
  refine tpi (y := 1) (by decide +kernel) ?_
  refine va_sld hx hb hX hbl hbA hS (vin (by decide +kernel)) dL_law_1485 ?_
  refine tpi (y := xs 1) rfl ?_
  refine jnI (wr := mW V z) (rnV (rest := []) ⟨hx, hb, hml, hown, hg⟩ (c_X9_image_0 l V y ((xs 1))) mt_X9_image q_5_198 ⟨Nat.le_of_ble_eq_true rfl, Nat.le_of_ble_eq_true rfl⟩ hK hP hD hS hA hE [0, 2, 3, 4, 5, 6, 7, 8, 9, 31, 41, 42, 43, 44, 45, 46, 47, 48, 49, 50, 51, 52, 53, 54, 55, 56, 57, 58] rfl rfl 0 rfl rfl rfl rfl hl.1 rfl (Nat.le_of_ble_eq_true rfl) dL_law_1486 ⟨Nat.le_of_ble_eq_true rfl, Nat.le_of_ble_eq_true rfl⟩) hP hD hS hA [0, 2, 3, 4, 5, 6, 7, 8, 9, 31, 41, 42, 43, 44, 45, 46, 47, 48, 49, 50, 51, 52, 53, 54, 55, 56, 57, 58] [59, 60, 61, 62, 63, 64, 65, 66, 67, 68, 69, 70, 71, 72, 73, 74, 75, 76, 77, 78, 79, 80, 81, 82, 83] rfl rfl rfl (by decide) (fun r w H locs hw hP hD hS => ?_)
  refine W.widen (k := 84) (n := 223324) (Nat.le_of_ble_eq_true rfl) (Nat.le_of_ble_eq_true rfl) ?_
  have hP : va_P V.1 vwCl (mW V z) H := takeP hP
  have hD : va_D (fun q : Nat => s.heap.size ≤ q) (mW V z) := takeD hD
  refine lv_aload_n hx hb dL_law_1489 rfl (lv_at hl 2 rfl) ?_
  refine lv_aload_n hx hb dL_law_1490 rfl (lv_at hl 0 rfl) ?_
  refine lv_iload_n hx hb dL_law_1491 rfl (lv_at hl 3 rfl) ?_
  refine lv_iconst (v := 1) hx hb dL_law_1492 (by decide) ?_
  refine lv_iadd hx hb dL_law_1493 ?_
  refine tpi (y := 1) (by decide +kernel) ?_
  refine va_sld hx hb hX hbl hbA hS (vin (by decide +kernel)) dL_law_1494 ?_
  refine tpi (y := xs 1) rfl ?_
  refine jnI (wr := []) (rnV (rest := [.int r]) ⟨hx, hb, hml, hown, hg⟩ (c_X10_image_0 l V z ((xs 1))) mt_X10_image q_8_147 ⟨Nat.le_of_ble_eq_true rfl, Nat.le_of_ble_eq_true rfl⟩ hK hP hD hS hA hE [0, 1, 24] rfl rfl 0 rfl rfl rfl rfl hl.1 rfl (Nat.le_of_ble_eq_true rfl) dL_law_1495 ⟨Nat.le_of_ble_eq_true rfl, Nat.le_of_ble_eq_true rfl⟩) hP hD hS hA [0, 1, 24] [] rfl rfl rfl (by decide) (fun r2 w2 H locs hw2 hP hD hS => ?_)
  refine W.widen (k := 84) (n := 223324) (Nat.le_of_ble_eq_true rfl) (Nat.le_of_ble_eq_true rfl) ?_
  have e9 : r = r2 := by
    rcases hw with ⟨f_1, ex, -⟩ | ⟨f_2, f_3, ex, -⟩ | ⟨f_4, f_5, f_6, ex, -⟩ | ⟨f_7, f_8, f_9, ex, -⟩
    · rcases hw2 with ⟨f_10, em, -⟩ | ⟨f_11, f_12, em, -⟩ | ⟨f_13, f_14, f_15, em, -⟩ | ⟨f_16, f_17, f_18, em, -⟩
      · exact ex.trans em.symm
      · exact ex.trans em.symm
      · exact False.elim (by simp only [tI_lt, tI_le, tI_eq, tL_lt, tL_le, tL_eq, tWx, (by decide : (0 : Int32).toInt = 0), (by decide : (0 : Int64).toInt = 0), (by decide : (1 : Int32).toInt = 1), (by decide : (1 : Int64).toInt = 1)] at f_1 f_13 f_14 f_15; omega)
      · exact False.elim (by simp only [tI_lt, tI_le, tI_eq, tL_lt, tL_le, tL_eq, tWx, (by decide : (0 : Int32).toInt = 0), (by decide : (0 : Int64).toInt = 0), (by decide : (1 : Int32).toInt = 1), (by decide : (1 : Int64).toInt = 1)] at f_1 f_16 f_17 f_18; omega)
    · rcases hw2 with ⟨f_10, em, -⟩ | ⟨f_11, f_12, em, -⟩ | ⟨f_13, f_14, f_15, em, -⟩ | ⟨f_16, f_17, f_18, em, -⟩
      · exact ex.trans em.symm
      · exact ex.trans em.symm
      · exact False.elim (by simp only [tI_lt, tI_le, tI_eq, tL_lt, tL_le, tL_eq, tWx, (by decide : (0 : Int32).toInt = 0), (by decide : (0 : Int64).toInt = 0), (by decide : (1 : Int32).toInt = 1), (by decide : (1 : Int64).toInt = 1), (by decide : (2 : Int32).toInt = 2)] at f_2 f_3 f_13 f_14 f_15; omega)
      · exact False.elim (by simp only [tI_lt, tI_le, tI_eq, tL_lt, tL_le, tL_eq, tWx, (by decide : (0 : Int32).toInt = 0), (by decide : (0 : Int64).toInt = 0), (by decide : (1 : Int32).toInt = 1), (by decide : (1 : Int64).toInt = 1), (by decide : (2 : Int32).toInt = 2)] at f_2 f_3 f_16 f_17 f_18; omega)
    · rcases hw2 with ⟨f_10, em, -⟩ | ⟨f_11, f_12, em, -⟩ | ⟨f_13, f_14, f_15, em, -⟩ | ⟨f_16, f_17, f_18, em, -⟩
      · exact False.elim (by simp only [tI_lt, tI_le, tI_eq, tL_lt, tL_le, tL_eq, tWx, (by decide : (0 : Int32).toInt = 0), (by decide : (0 : Int64).toInt = 0), (by decide : (1 : Int32).toInt = 1), (by decide : (1 : Int64).toInt = 1), (by decide : (2 : Int32).toInt = 2)] at f_4 f_5 f_6 f_10; omega)
      · exact False.elim (by simp only [tI_lt, tI_le, tI_eq, tL_lt, tL_le, tL_eq, tWx, (by decide : (0 : Int32).toInt = 0), (by decide : (0 : Int64).toInt = 0), (by decide : (1 : Int32).toInt = 1), (by decide : (1 : Int64).toInt = 1), (by decide : (2 : Int32).toInt = 2)] at f_4 f_5 f_6 f_11 f_12; omega)
      · exact ex.trans em.symm
      · exact ex.trans em.symm
    · rcases hw2 with ⟨f_10, em, -⟩ | ⟨f_11, f_12, em, -⟩ | ⟨f_13, f_14, f_15, em, -⟩ | ⟨f_16, f_17, f_18, em, -⟩
      · exact False.elim (by simp only [tI_lt, tI_le, tI_eq, tL_lt, tL_le, tL_eq, tWx, (by decide : (0 : Int32).toInt = 0), (by decide : (0 : Int64).toInt = 0), (by decide : (1 : Int32).toInt = 1), (by decide : (1 : Int64).toInt = 1), (by decide : (2 : Int32).toInt = 2)] at f_7 f_8 f_9 f_10; omega)
      · exact False.elim (by simp only [tI_lt, tI_le, tI_eq, tL_lt, tL_le, tL_eq, tWx, (by decide : (0 : Int32).toInt = 0), (by decide : (0 : Int64).toInt = 0), (by decide : (1 : Int32).toInt = 1), (by decide : (1 : Int64).toInt = 1), (by decide : (2 : Int32).toInt = 2)] at f_7 f_8 f_9 f_11 f_12; omega)
      · exact ex.trans em.symm
      · exact ex.trans em.symm
  refine lv_icmp_eq (tgt := 1549) hx hb dL_law_1498 (by decide) (fun _ => ?_) (fun c_1 => absurd e9 c_1)
  exact law_end C0 (Nat.le_of_ble_eq_true rfl) (Nat.le_of_ble_eq_true rfl) hS (lv_sub hl [0, 3] rfl)
theorem dL_law_1503 : decode cL_law 1503 = .ok (.aload_n 1, 1) := by decide +kernel
theorem dL_law_1504 : decode cL_law 1504 = .ok (.aload_n 0, 1) := by decide +kernel
theorem dL_law_1505 : decode cL_law 1505 = .ok (.iload_n 3, 1) := by decide +kernel
theorem dL_law_1506 : decode cL_law 1506 = .ok (.iconst 1, 1) := by decide +kernel
theorem dL_law_1507 : decode cL_law 1507 = .ok (.iadd, 1) := by decide +kernel
theorem dL_law_1508 : decode cL_law 1508 = .ok (.iaload, 1) := by decide +kernel
theorem q_5_208 : Cond.code yX9_restore prog_1_method_74_code 3 (some FieldType.int) ∈ gw := gw_5 (i := 208) (rfl) rfl
theorem q_5_206 : Cond.instanceMethod yX9_restore ∈ gw := gw_5 (i := 206) (by decide +kernel) rfl
theorem q_5_207 : Cond.selects "BeaconDelay" yX9_restore yX9_restore ∈ gw := gw_5 (i := 207) (by decide +kernel) rfl
theorem mt_X9_restore : MtV yX9_restore cX9_restore 3 (some .int) 1 := ⟨⟨q_5_208, q_1_1, by decide +kernel, by decide +kernel, by decide +kernel⟩, q_5_206, q_5_207⟩
theorem q_5_205 : Cond.methodLink "BeaconDelayLaw" 192 yX9_restore ∈ gw := gw_5 (i := 205) (by decide +kernel) rfl
theorem dL_law_1509 : decode cL_law 1509 = .ok (.invokevirtual 192, 3) := by decide +kernel
theorem dL_law_1512 : decode cL_law 1512 = .ok (.aload_n 2, 1) := by decide +kernel
theorem dL_law_1513 : decode cL_law 1513 = .ok (.aload_n 0, 1) := by decide +kernel
theorem dL_law_1514 : decode cL_law 1514 = .ok (.iload_n 3, 1) := by decide +kernel
theorem dL_law_1515 : decode cL_law 1515 = .ok (.iconst 1, 1) := by decide +kernel
theorem dL_law_1516 : decode cL_law 1516 = .ok (.iadd, 1) := by decide +kernel
theorem dL_law_1517 : decode cL_law 1517 = .ok (.iaload, 1) := by decide +kernel
theorem q_8_154 : Cond.code yX10_restore prog_12_method_133_code 3 (some FieldType.int) ∈ gw := gw_8 (i := 154) (rfl) rfl
theorem q_8_152 : Cond.instanceMethod yX10_restore ∈ gw := gw_8 (i := 152) (by decide +kernel) rfl
theorem q_8_153 : Cond.selects "BeaconDelayModel" yX10_restore yX10_restore ∈ gw := gw_8 (i := 153) (by decide +kernel) rfl
theorem mt_X10_restore : MtV yX10_restore cX10_restore 3 (some .int) 1 := ⟨⟨q_8_154, q_1_9, by decide +kernel, by decide +kernel, by decide +kernel⟩, q_8_152, q_8_153⟩
theorem q_8_151 : Cond.methodLink "BeaconDelayLaw" 195 yX10_restore ∈ gw := gw_8 (i := 151) (by decide +kernel) rfl
theorem dL_law_1518 : decode cL_law 1518 = .ok (.invokevirtual 195, 3) := by decide +kernel
theorem dL_law_1521 : decode cL_law 1521 = .ok (.if_icmp .eq 28, 3) := by decide +kernel
-- restore
set_option maxHeartbeats 4000000 in
set_option maxRecDepth 100000 in
theorem lc_42 {p : Program} {e : Env} {s : State} {m : MethodId} {below : List Frame} {meth : Method} {c : Code} {l : Launch} {b : Nat} {xs : Nat → Int32} {V : GV} {y z : Nat → Nat} (C0 : lw_At p s m meth c b 6 xs) (hg : ∀ w ∈ gw, w.before #[Value.ref b] s = true) (hK : va_K V.1 vwCl (tyV V) s) (hE : En V (fun q : Nat => s.heap.size ≤ q) s s.heap) {H : Heap} {locs : List Loc} (hP : va_P V.1 vwCl (xW V y ++ mW V z) H) (hD : va_D (fun q : Nat => s.heap.size ≤ q) (xW V y ++ mW V z)) (hS : va_S (fun q : Nat => s.heap.size ≤ q) s.heap H locs) {ls : Array Slot} (hl : lv_has ls 4 [(0, .ref b), (1, .ref (y 0)), (2, .ref (z 0)), (3, .int 0)]) : W p l e room_1 s m #[Value.ref b] below meth c H locs 84 223324 (lw_Z below #[Value.ref b] s) (F0 m 1503 ls []) := by
  obtain ⟨hx, hb, hr, hml, hown, hts, hX, hbl, hlocks, hgv⟩ := id C0
  have hA : ∀ q : Nat, s.heap.size ≤ q → (fun q : Nat => s.heap.size ≤ q) q := fun _ h => h
  have hbA : ¬ (fun q : Nat => s.heap.size ≤ q) b := Nat.not_le.mpr hbl
  refine lv_aload_n hx hb dL_law_1503 rfl (lv_at hl 1 rfl) ?_
  refine lv_aload_n hx hb dL_law_1504 rfl (lv_at hl 0 rfl) ?_
  refine lv_iload_n hx hb dL_law_1505 rfl (lv_at hl 3 rfl) ?_
  refine lv_iconst (v := 1) hx hb dL_law_1506 (by decide) ?_
  refine lv_iadd hx hb dL_law_1507 ?_
  refine tpi (y := 1) (by decide +kernel) ?_
  refine va_sld hx hb hX hbl hbA hS (vin (by decide +kernel)) dL_law_1508 ?_
  refine tpi (y := xs 1) rfl ?_
  refine jnI (wr := mW V z) (rnV (rest := []) ⟨hx, hb, hml, hown, hg⟩ (c_X9_restore_0 l V y ((xs 1))) mt_X9_restore q_5_205 ⟨Nat.le_of_ble_eq_true rfl, Nat.le_of_ble_eq_true rfl⟩ hK hP hD hS hA hE [0, 31, 41, 50] rfl rfl 0 rfl rfl rfl rfl hl.1 rfl (Nat.le_of_ble_eq_true rfl) dL_law_1509 ⟨Nat.le_of_ble_eq_true rfl, Nat.le_of_ble_eq_true rfl⟩) hP hD hS hA [0, 31, 41, 50] [59, 60, 61, 62, 63, 64, 65, 66, 67, 68, 69, 70, 71, 72, 73, 74, 75, 76, 77, 78, 79, 80, 81, 82, 83] rfl rfl rfl (by decide) (fun r w H locs hw hP hD hS => ?_)
  refine W.widen (k := 84) (n := 223324) (Nat.le_of_ble_eq_true rfl) (Nat.le_of_ble_eq_true rfl) ?_
  have hP : va_P V.1 vwCl (mW V z) H := takeP hP
  have hD : va_D (fun q : Nat => s.heap.size ≤ q) (mW V z) := takeD hD
  refine lv_aload_n hx hb dL_law_1512 rfl (lv_at hl 2 rfl) ?_
  refine lv_aload_n hx hb dL_law_1513 rfl (lv_at hl 0 rfl) ?_
  refine lv_iload_n hx hb dL_law_1514 rfl (lv_at hl 3 rfl) ?_
  refine lv_iconst (v := 1) hx hb dL_law_1515 (by decide) ?_
  refine lv_iadd hx hb dL_law_1516 ?_
  refine tpi (y := 1) (by decide +kernel) ?_
  refine va_sld hx hb hX hbl hbA hS (vin (by decide +kernel)) dL_law_1517 ?_
  refine tpi (y := xs 1) rfl ?_
  refine jnI (wr := []) (rnV (rest := [.int r]) ⟨hx, hb, hml, hown, hg⟩ (c_X10_restore_0 l V z ((xs 1))) mt_X10_restore q_8_151 ⟨Nat.le_of_ble_eq_true rfl, Nat.le_of_ble_eq_true rfl⟩ hK hP hD hS hA hE [0, 1] rfl rfl 0 rfl rfl rfl rfl hl.1 rfl (Nat.le_of_ble_eq_true rfl) dL_law_1518 ⟨Nat.le_of_ble_eq_true rfl, Nat.le_of_ble_eq_true rfl⟩) hP hD hS hA [0, 1] [] rfl rfl rfl (by decide) (fun r2 w2 H locs hw2 hP hD hS => ?_)
  refine W.widen (k := 84) (n := 223324) (Nat.le_of_ble_eq_true rfl) (Nat.le_of_ble_eq_true rfl) ?_
  have e9 : r = r2 := by
    rcases hw with ⟨f_1, ex, -⟩ | ⟨f_2, f_3, ex, -⟩ | ⟨f_4, f_5, f_6, ex, -⟩ | ⟨f_7, f_8, f_9, ex, -⟩
    · rcases hw2 with ⟨f_10, em, -⟩ | ⟨f_11, f_12, em, -⟩ | ⟨f_13, f_14, f_15, em, -⟩ | ⟨f_16, f_17, f_18, em, -⟩
      · exact ex.trans em.symm
      · exact ex.trans em.symm
      · exact False.elim (by simp only [tI_lt, tI_le, tI_eq, tL_lt, tL_le, tL_eq, tWx, (by decide : (0 : Int32).toInt = 0), (by decide : (0 : Int64).toInt = 0), (by decide : (1 : Int32).toInt = 1), (by decide : (1 : Int64).toInt = 1)] at f_1 f_13 f_14 f_15; omega)
      · exact False.elim (by simp only [tI_lt, tI_le, tI_eq, tL_lt, tL_le, tL_eq, tWx, (by decide : (0 : Int32).toInt = 0), (by decide : (0 : Int64).toInt = 0), (by decide : (1 : Int32).toInt = 1), (by decide : (1 : Int64).toInt = 1)] at f_1 f_16 f_17 f_18; omega)
    · rcases hw2 with ⟨f_10, em, -⟩ | ⟨f_11, f_12, em, -⟩ | ⟨f_13, f_14, f_15, em, -⟩ | ⟨f_16, f_17, f_18, em, -⟩
      · exact ex.trans em.symm
      · exact ex.trans em.symm
      · exact False.elim (by simp only [tI_lt, tI_le, tI_eq, tL_lt, tL_le, tL_eq, tWx, (by decide : (0 : Int32).toInt = 0), (by decide : (0 : Int64).toInt = 0), (by decide : (1 : Int32).toInt = 1), (by decide : (1 : Int64).toInt = 1), (by decide : (2 : Int32).toInt = 2)] at f_2 f_3 f_13 f_14 f_15; omega)
      · exact False.elim (by simp only [tI_lt, tI_le, tI_eq, tL_lt, tL_le, tL_eq, tWx, (by decide : (0 : Int32).toInt = 0), (by decide : (0 : Int64).toInt = 0), (by decide : (1 : Int32).toInt = 1), (by decide : (1 : Int64).toInt = 1), (by decide : (2 : Int32).toInt = 2)] at f_2 f_3 f_16 f_17 f_18; omega)
    · rcases hw2 with ⟨f_10, em, -⟩ | ⟨f_11, f_12, em, -⟩ | ⟨f_13, f_14, f_15, em, -⟩ | ⟨f_16, f_17, f_18, em, -⟩
      · exact False.elim (by simp only [tI_lt, tI_le, tI_eq, tL_lt, tL_le, tL_eq, tWx, (by decide : (0 : Int32).toInt = 0), (by decide : (0 : Int64).toInt = 0), (by decide : (1 : Int32).toInt = 1), (by decide : (1 : Int64).toInt = 1), (by decide : (2 : Int32).toInt = 2)] at f_4 f_5 f_6 f_10; omega)
      · exact False.elim (by simp only [tI_lt, tI_le, tI_eq, tL_lt, tL_le, tL_eq, tWx, (by decide : (0 : Int32).toInt = 0), (by decide : (0 : Int64).toInt = 0), (by decide : (1 : Int32).toInt = 1), (by decide : (1 : Int64).toInt = 1), (by decide : (2 : Int32).toInt = 2)] at f_4 f_5 f_6 f_11 f_12; omega)
      · exact ex.trans em.symm
      · exact ex.trans em.symm
    · rcases hw2 with ⟨f_10, em, -⟩ | ⟨f_11, f_12, em, -⟩ | ⟨f_13, f_14, f_15, em, -⟩ | ⟨f_16, f_17, f_18, em, -⟩
      · exact False.elim (by simp only [tI_lt, tI_le, tI_eq, tL_lt, tL_le, tL_eq, tWx, (by decide : (0 : Int32).toInt = 0), (by decide : (0 : Int64).toInt = 0), (by decide : (1 : Int32).toInt = 1), (by decide : (1 : Int64).toInt = 1), (by decide : (2 : Int32).toInt = 2)] at f_7 f_8 f_9 f_10; omega)
      · exact False.elim (by simp only [tI_lt, tI_le, tI_eq, tL_lt, tL_le, tL_eq, tWx, (by decide : (0 : Int32).toInt = 0), (by decide : (0 : Int64).toInt = 0), (by decide : (1 : Int32).toInt = 1), (by decide : (1 : Int64).toInt = 1), (by decide : (2 : Int32).toInt = 2)] at f_7 f_8 f_9 f_11 f_12; omega)
      · exact ex.trans em.symm
      · exact ex.trans em.symm
  refine lv_icmp_eq (tgt := 1549) hx hb dL_law_1521 (by decide) (fun _ => ?_) (fun c_1 => absurd e9 c_1)
  exact law_end C0 (Nat.le_of_ble_eq_true rfl) (Nat.le_of_ble_eq_true rfl) hS (lv_sub hl [0, 3] rfl)
theorem dL_law_1526 : decode cL_law 1526 = .ok (.aload_n 1, 1) := by decide +kernel
theorem dL_law_1527 : decode cL_law 1527 = .ok (.aload_n 0, 1) := by decide +kernel
theorem dL_law_1528 : decode cL_law 1528 = .ok (.iload_n 3, 1) := by decide +kernel
theorem dL_law_1529 : decode cL_law 1529 = .ok (.iconst 1, 1) := by decide +kernel
theorem dL_law_1530 : decode cL_law 1530 = .ok (.iadd, 1) := by decide +kernel
theorem dL_law_1531 : decode cL_law 1531 = .ok (.iaload, 1) := by decide +kernel
theorem q_5_212 : Cond.code yX9_count prog_1_method_75_code 2 (some FieldType.int) ∈ gw := gw_5 (i := 212) (rfl) rfl
theorem q_5_210 : Cond.instanceMethod yX9_count ∈ gw := gw_5 (i := 210) (by decide +kernel) rfl
theorem q_5_211 : Cond.selects "BeaconDelay" yX9_count yX9_count ∈ gw := gw_5 (i := 211) (by decide +kernel) rfl
theorem mt_X9_count : MtV yX9_count cX9_count 2 (some .int) 1 := ⟨⟨q_5_212, q_1_1, by decide +kernel, by decide +kernel, by decide +kernel⟩, q_5_210, q_5_211⟩
theorem q_5_209 : Cond.methodLink "BeaconDelayLaw" 196 yX9_count ∈ gw := gw_5 (i := 209) (by decide +kernel) rfl
theorem dL_law_1532 : decode cL_law 1532 = .ok (.invokevirtual 196, 3) := by decide +kernel
theorem dL_law_1535 : decode cL_law 1535 = .ok (.aload_n 2, 1) := by decide +kernel
theorem dL_law_1536 : decode cL_law 1536 = .ok (.aload_n 0, 1) := by decide +kernel
theorem dL_law_1537 : decode cL_law 1537 = .ok (.iload_n 3, 1) := by decide +kernel
theorem dL_law_1538 : decode cL_law 1538 = .ok (.iconst 1, 1) := by decide +kernel
theorem dL_law_1539 : decode cL_law 1539 = .ok (.iadd, 1) := by decide +kernel
theorem dL_law_1540 : decode cL_law 1540 = .ok (.iaload, 1) := by decide +kernel
theorem q_8_158 : Cond.code yX10_count prog_12_method_134_code 2 (some FieldType.int) ∈ gw := gw_8 (i := 158) (rfl) rfl
theorem q_8_156 : Cond.instanceMethod yX10_count ∈ gw := gw_8 (i := 156) (by decide +kernel) rfl
theorem q_8_157 : Cond.selects "BeaconDelayModel" yX10_count yX10_count ∈ gw := gw_8 (i := 157) (by decide +kernel) rfl
theorem mt_X10_count : MtV yX10_count cX10_count 2 (some .int) 1 := ⟨⟨q_8_158, q_1_9, by decide +kernel, by decide +kernel, by decide +kernel⟩, q_8_156, q_8_157⟩
theorem q_8_155 : Cond.methodLink "BeaconDelayLaw" 199 yX10_count ∈ gw := gw_8 (i := 155) (by decide +kernel) rfl
theorem dL_law_1541 : decode cL_law 1541 = .ok (.invokevirtual 199, 3) := by decide +kernel
theorem dL_law_1544 : decode cL_law 1544 = .ok (.if_icmp .eq 5, 3) := by decide +kernel
-- count
set_option maxHeartbeats 4000000 in
set_option maxRecDepth 100000 in
theorem lc_43 {p : Program} {e : Env} {s : State} {m : MethodId} {below : List Frame} {meth : Method} {c : Code} {l : Launch} {b : Nat} {xs : Nat → Int32} {V : GV} {y z : Nat → Nat} (C0 : lw_At p s m meth c b 6 xs) (hg : ∀ w ∈ gw, w.before #[Value.ref b] s = true) (hK : va_K V.1 vwCl (tyV V) s) (hE : En V (fun q : Nat => s.heap.size ≤ q) s s.heap) {H : Heap} {locs : List Loc} (hP : va_P V.1 vwCl (xW V y ++ mW V z) H) (hD : va_D (fun q : Nat => s.heap.size ≤ q) (xW V y ++ mW V z)) (hS : va_S (fun q : Nat => s.heap.size ≤ q) s.heap H locs) {ls : Array Slot} (hl : lv_has ls 4 [(0, .ref b), (1, .ref (y 0)), (2, .ref (z 0)), (3, .int 0)]) : W p l e room_1 s m #[Value.ref b] below meth c H locs 84 223324 (lw_Z below #[Value.ref b] s) (F0 m 1526 ls []) := by
  obtain ⟨hx, hb, hr, hml, hown, hts, hX, hbl, hlocks, hgv⟩ := id C0
  have hA : ∀ q : Nat, s.heap.size ≤ q → (fun q : Nat => s.heap.size ≤ q) q := fun _ h => h
  have hbA : ¬ (fun q : Nat => s.heap.size ≤ q) b := Nat.not_le.mpr hbl
  refine lv_aload_n hx hb dL_law_1526 rfl (lv_at hl 1 rfl) ?_
  refine lv_aload_n hx hb dL_law_1527 rfl (lv_at hl 0 rfl) ?_
  refine lv_iload_n hx hb dL_law_1528 rfl (lv_at hl 3 rfl) ?_
  refine lv_iconst (v := 1) hx hb dL_law_1529 (by decide) ?_
  refine lv_iadd hx hb dL_law_1530 ?_
  refine tpi (y := 1) (by decide +kernel) ?_
  refine va_sld hx hb hX hbl hbA hS (vin (by decide +kernel)) dL_law_1531 ?_
  refine tpi (y := xs 1) rfl ?_
  refine jnI (wr := mW V z) (rnV (rest := []) ⟨hx, hb, hml, hown, hg⟩ (c_X9_count_0 l V y ((xs 1))) mt_X9_count q_5_209 ⟨Nat.le_of_ble_eq_true rfl, Nat.le_of_ble_eq_true rfl⟩ hK hP hD hS hA hE [0, 2, 26] rfl rfl 0 rfl rfl rfl rfl hl.1 rfl (Nat.le_of_ble_eq_true rfl) dL_law_1532 ⟨Nat.le_of_ble_eq_true rfl, Nat.le_of_ble_eq_true rfl⟩) hP hD hS hA [0, 2, 26] [59, 60, 61, 62, 63, 64, 65, 66, 67, 68, 69, 70, 71, 72, 73, 74, 75, 76, 77, 78, 79, 80, 81, 82, 83] rfl rfl rfl (by decide) (fun r w H locs hw hP hD hS => ?_)
  refine W.widen (k := 84) (n := 223324) (Nat.le_of_ble_eq_true rfl) (Nat.le_of_ble_eq_true rfl) ?_
  have hP : va_P V.1 vwCl (mW V z) H := takeP hP
  have hD : va_D (fun q : Nat => s.heap.size ≤ q) (mW V z) := takeD hD
  refine lv_aload_n hx hb dL_law_1535 rfl (lv_at hl 2 rfl) ?_
  refine lv_aload_n hx hb dL_law_1536 rfl (lv_at hl 0 rfl) ?_
  refine lv_iload_n hx hb dL_law_1537 rfl (lv_at hl 3 rfl) ?_
  refine lv_iconst (v := 1) hx hb dL_law_1538 (by decide) ?_
  refine lv_iadd hx hb dL_law_1539 ?_
  refine tpi (y := 1) (by decide +kernel) ?_
  refine va_sld hx hb hX hbl hbA hS (vin (by decide +kernel)) dL_law_1540 ?_
  refine tpi (y := xs 1) rfl ?_
  refine jnI (wr := []) (rnV (rest := [.int r]) ⟨hx, hb, hml, hown, hg⟩ (c_X10_count_0 l V z ((xs 1))) mt_X10_count q_8_155 ⟨Nat.le_of_ble_eq_true rfl, Nat.le_of_ble_eq_true rfl⟩ hK hP hD hS hA hE [0, 24] rfl rfl 0 rfl rfl rfl rfl hl.1 rfl (Nat.le_of_ble_eq_true rfl) dL_law_1541 ⟨Nat.le_of_ble_eq_true rfl, Nat.le_of_ble_eq_true rfl⟩) hP hD hS hA [0, 24] [] rfl rfl rfl (by decide) (fun r2 w2 H locs hw2 hP hD hS => ?_)
  refine W.widen (k := 84) (n := 223324) (Nat.le_of_ble_eq_true rfl) (Nat.le_of_ble_eq_true rfl) ?_
  have e9 : r = r2 := by
    rcases hw with ⟨f_1, ex, -⟩ | ⟨f_2, f_3, ex, -⟩ | ⟨f_4, f_5, f_6, ex, -⟩ | ⟨f_7, f_8, f_9, f_10, ex, -⟩ | ⟨f_11, f_12, f_13, f_14, f_15, ex, -⟩ | ⟨f_16, f_17, f_18, f_19, f_20, f_21, ex, -⟩ | ⟨f_22, f_23, f_24, f_25, f_26, f_27, f_28, ex, -⟩ | ⟨f_29, f_30, f_31, f_32, f_33, f_34, f_35, f_36, ex, -⟩ | ⟨f_37, f_38, f_39, f_40, f_41, f_42, f_43, f_44, f_45, ex, -⟩ | ⟨f_46, f_47, f_48, f_49, f_50, f_51, f_52, f_53, f_54, f_55, ex, -⟩ | ⟨f_56, f_57, f_58, f_59, f_60, f_61, f_62, f_63, f_64, f_65, ex, -⟩
    · rcases hw2 with ⟨f_66, em, -⟩ | ⟨f_67, f_68, em, -⟩ | ⟨f_69, f_70, f_71, em, -⟩ | ⟨f_72, f_73, f_74, f_75, em, -⟩ | ⟨f_76, f_77, f_78, f_79, f_80, em, -⟩ | ⟨f_81, f_82, f_83, f_84, f_85, f_86, em, -⟩ | ⟨f_87, f_88, f_89, f_90, f_91, f_92, f_93, em, -⟩ | ⟨f_94, f_95, f_96, f_97, f_98, f_99, f_100, f_101, em, -⟩ | ⟨f_102, f_103, f_104, f_105, f_106, f_107, f_108, f_109, f_110, em, -⟩ | ⟨f_111, f_112, f_113, f_114, f_115, f_116, f_117, f_118, f_119, f_120, em, -⟩ | ⟨f_121, f_122, f_123, f_124, f_125, f_126, f_127, f_128, f_129, f_130, em, -⟩
      · exact ex.trans em.symm
      · exact ex.trans em.symm
      · exact ex.trans em.symm
      · exact ex.trans em.symm
      · exact ex.trans em.symm
      · exact ex.trans em.symm
      · exact ex.trans em.symm
      · exact ex.trans em.symm
      · exact ex.trans em.symm
      · exact ex.trans em.symm
      · exact False.elim (by simp only [tI_lt, tI_le, tI_eq, tL_lt, tL_le, tL_eq, tWx, (by decide : (0 : Int32).toInt = 0), (by decide : (1 : Int32).toInt = 1), (by decide : (2 : Int32).toInt = 2), (by decide : (3 : Int32).toInt = 3), (by decide : (4 : Int32).toInt = 4), (by decide : (5 : Int32).toInt = 5), (by decide : (6 : Int32).toInt = 6), (by decide : (7 : Int32).toInt = 7), (by decide : (8 : Int32).toInt = 8), (by decide : (9 : Int32).toInt = 9)] at f_1 f_121 f_122 f_123 f_124 f_125 f_126 f_127 f_128 f_129 f_130; omega)
    · rcases hw2 with ⟨f_66, em, -⟩ | ⟨f_67, f_68, em, -⟩ | ⟨f_69, f_70, f_71, em, -⟩ | ⟨f_72, f_73, f_74, f_75, em, -⟩ | ⟨f_76, f_77, f_78, f_79, f_80, em, -⟩ | ⟨f_81, f_82, f_83, f_84, f_85, f_86, em, -⟩ | ⟨f_87, f_88, f_89, f_90, f_91, f_92, f_93, em, -⟩ | ⟨f_94, f_95, f_96, f_97, f_98, f_99, f_100, f_101, em, -⟩ | ⟨f_102, f_103, f_104, f_105, f_106, f_107, f_108, f_109, f_110, em, -⟩ | ⟨f_111, f_112, f_113, f_114, f_115, f_116, f_117, f_118, f_119, f_120, em, -⟩ | ⟨f_121, f_122, f_123, f_124, f_125, f_126, f_127, f_128, f_129, f_130, em, -⟩
      · exact ex.trans em.symm
      · exact ex.trans em.symm
      · exact ex.trans em.symm
      · exact ex.trans em.symm
      · exact ex.trans em.symm
      · exact ex.trans em.symm
      · exact ex.trans em.symm
      · exact ex.trans em.symm
      · exact ex.trans em.symm
      · exact ex.trans em.symm
      · exact False.elim (by simp only [tI_lt, tI_le, tI_eq, tL_lt, tL_le, tL_eq, tWx, (by decide : (0 : Int32).toInt = 0), (by decide : (1 : Int32).toInt = 1), (by decide : (2 : Int32).toInt = 2), (by decide : (3 : Int32).toInt = 3), (by decide : (4 : Int32).toInt = 4), (by decide : (5 : Int32).toInt = 5), (by decide : (6 : Int32).toInt = 6), (by decide : (7 : Int32).toInt = 7), (by decide : (8 : Int32).toInt = 8), (by decide : (9 : Int32).toInt = 9)] at f_2 f_3 f_121 f_122 f_123 f_124 f_125 f_126 f_127 f_128 f_129 f_130; omega)
    · rcases hw2 with ⟨f_66, em, -⟩ | ⟨f_67, f_68, em, -⟩ | ⟨f_69, f_70, f_71, em, -⟩ | ⟨f_72, f_73, f_74, f_75, em, -⟩ | ⟨f_76, f_77, f_78, f_79, f_80, em, -⟩ | ⟨f_81, f_82, f_83, f_84, f_85, f_86, em, -⟩ | ⟨f_87, f_88, f_89, f_90, f_91, f_92, f_93, em, -⟩ | ⟨f_94, f_95, f_96, f_97, f_98, f_99, f_100, f_101, em, -⟩ | ⟨f_102, f_103, f_104, f_105, f_106, f_107, f_108, f_109, f_110, em, -⟩ | ⟨f_111, f_112, f_113, f_114, f_115, f_116, f_117, f_118, f_119, f_120, em, -⟩ | ⟨f_121, f_122, f_123, f_124, f_125, f_126, f_127, f_128, f_129, f_130, em, -⟩
      · exact ex.trans em.symm
      · exact ex.trans em.symm
      · exact ex.trans em.symm
      · exact ex.trans em.symm
      · exact ex.trans em.symm
      · exact ex.trans em.symm
      · exact ex.trans em.symm
      · exact ex.trans em.symm
      · exact ex.trans em.symm
      · exact ex.trans em.symm
      · exact False.elim (by simp only [tI_lt, tI_le, tI_eq, tL_lt, tL_le, tL_eq, tWx, (by decide : (0 : Int32).toInt = 0), (by decide : (1 : Int32).toInt = 1), (by decide : (2 : Int32).toInt = 2), (by decide : (3 : Int32).toInt = 3), (by decide : (4 : Int32).toInt = 4), (by decide : (5 : Int32).toInt = 5), (by decide : (6 : Int32).toInt = 6), (by decide : (7 : Int32).toInt = 7), (by decide : (8 : Int32).toInt = 8), (by decide : (9 : Int32).toInt = 9)] at f_4 f_5 f_6 f_121 f_122 f_123 f_124 f_125 f_126 f_127 f_128 f_129 f_130; omega)
    · rcases hw2 with ⟨f_66, em, -⟩ | ⟨f_67, f_68, em, -⟩ | ⟨f_69, f_70, f_71, em, -⟩ | ⟨f_72, f_73, f_74, f_75, em, -⟩ | ⟨f_76, f_77, f_78, f_79, f_80, em, -⟩ | ⟨f_81, f_82, f_83, f_84, f_85, f_86, em, -⟩ | ⟨f_87, f_88, f_89, f_90, f_91, f_92, f_93, em, -⟩ | ⟨f_94, f_95, f_96, f_97, f_98, f_99, f_100, f_101, em, -⟩ | ⟨f_102, f_103, f_104, f_105, f_106, f_107, f_108, f_109, f_110, em, -⟩ | ⟨f_111, f_112, f_113, f_114, f_115, f_116, f_117, f_118, f_119, f_120, em, -⟩ | ⟨f_121, f_122, f_123, f_124, f_125, f_126, f_127, f_128, f_129, f_130, em, -⟩
      · exact ex.trans em.symm
      · exact ex.trans em.symm
      · exact ex.trans em.symm
      · exact ex.trans em.symm
      · exact ex.trans em.symm
      · exact ex.trans em.symm
      · exact ex.trans em.symm
      · exact ex.trans em.symm
      · exact ex.trans em.symm
      · exact ex.trans em.symm
      · exact False.elim (by simp only [tI_lt, tI_le, tI_eq, tL_lt, tL_le, tL_eq, tWx, (by decide : (0 : Int32).toInt = 0), (by decide : (1 : Int32).toInt = 1), (by decide : (2 : Int32).toInt = 2), (by decide : (3 : Int32).toInt = 3), (by decide : (4 : Int32).toInt = 4), (by decide : (5 : Int32).toInt = 5), (by decide : (6 : Int32).toInt = 6), (by decide : (7 : Int32).toInt = 7), (by decide : (8 : Int32).toInt = 8), (by decide : (9 : Int32).toInt = 9)] at f_7 f_8 f_9 f_10 f_121 f_122 f_123 f_124 f_125 f_126 f_127 f_128 f_129 f_130; omega)
    · rcases hw2 with ⟨f_66, em, -⟩ | ⟨f_67, f_68, em, -⟩ | ⟨f_69, f_70, f_71, em, -⟩ | ⟨f_72, f_73, f_74, f_75, em, -⟩ | ⟨f_76, f_77, f_78, f_79, f_80, em, -⟩ | ⟨f_81, f_82, f_83, f_84, f_85, f_86, em, -⟩ | ⟨f_87, f_88, f_89, f_90, f_91, f_92, f_93, em, -⟩ | ⟨f_94, f_95, f_96, f_97, f_98, f_99, f_100, f_101, em, -⟩ | ⟨f_102, f_103, f_104, f_105, f_106, f_107, f_108, f_109, f_110, em, -⟩ | ⟨f_111, f_112, f_113, f_114, f_115, f_116, f_117, f_118, f_119, f_120, em, -⟩ | ⟨f_121, f_122, f_123, f_124, f_125, f_126, f_127, f_128, f_129, f_130, em, -⟩
      · exact ex.trans em.symm
      · exact ex.trans em.symm
      · exact ex.trans em.symm
      · exact ex.trans em.symm
      · exact ex.trans em.symm
      · exact ex.trans em.symm
      · exact ex.trans em.symm
      · exact ex.trans em.symm
      · exact ex.trans em.symm
      · exact ex.trans em.symm
      · exact False.elim (by simp only [tI_lt, tI_le, tI_eq, tL_lt, tL_le, tL_eq, tWx, (by decide : (0 : Int32).toInt = 0), (by decide : (1 : Int32).toInt = 1), (by decide : (2 : Int32).toInt = 2), (by decide : (3 : Int32).toInt = 3), (by decide : (4 : Int32).toInt = 4), (by decide : (5 : Int32).toInt = 5), (by decide : (6 : Int32).toInt = 6), (by decide : (7 : Int32).toInt = 7), (by decide : (8 : Int32).toInt = 8), (by decide : (9 : Int32).toInt = 9)] at f_11 f_12 f_13 f_14 f_15 f_121 f_122 f_123 f_124 f_125 f_126 f_127 f_128 f_129 f_130; omega)
    · rcases hw2 with ⟨f_66, em, -⟩ | ⟨f_67, f_68, em, -⟩ | ⟨f_69, f_70, f_71, em, -⟩ | ⟨f_72, f_73, f_74, f_75, em, -⟩ | ⟨f_76, f_77, f_78, f_79, f_80, em, -⟩ | ⟨f_81, f_82, f_83, f_84, f_85, f_86, em, -⟩ | ⟨f_87, f_88, f_89, f_90, f_91, f_92, f_93, em, -⟩ | ⟨f_94, f_95, f_96, f_97, f_98, f_99, f_100, f_101, em, -⟩ | ⟨f_102, f_103, f_104, f_105, f_106, f_107, f_108, f_109, f_110, em, -⟩ | ⟨f_111, f_112, f_113, f_114, f_115, f_116, f_117, f_118, f_119, f_120, em, -⟩ | ⟨f_121, f_122, f_123, f_124, f_125, f_126, f_127, f_128, f_129, f_130, em, -⟩
      · exact ex.trans em.symm
      · exact ex.trans em.symm
      · exact ex.trans em.symm
      · exact ex.trans em.symm
      · exact ex.trans em.symm
      · exact ex.trans em.symm
      · exact ex.trans em.symm
      · exact ex.trans em.symm
      · exact ex.trans em.symm
      · exact ex.trans em.symm
      · exact False.elim (by simp only [tI_lt, tI_le, tI_eq, tL_lt, tL_le, tL_eq, tWx, (by decide : (0 : Int32).toInt = 0), (by decide : (1 : Int32).toInt = 1), (by decide : (2 : Int32).toInt = 2), (by decide : (3 : Int32).toInt = 3), (by decide : (4 : Int32).toInt = 4), (by decide : (5 : Int32).toInt = 5), (by decide : (6 : Int32).toInt = 6), (by decide : (7 : Int32).toInt = 7), (by decide : (8 : Int32).toInt = 8), (by decide : (9 : Int32).toInt = 9)] at f_16 f_17 f_18 f_19 f_20 f_21 f_121 f_122 f_123 f_124 f_125 f_126 f_127 f_128 f_129 f_130; omega)
    · rcases hw2 with ⟨f_66, em, -⟩ | ⟨f_67, f_68, em, -⟩ | ⟨f_69, f_70, f_71, em, -⟩ | ⟨f_72, f_73, f_74, f_75, em, -⟩ | ⟨f_76, f_77, f_78, f_79, f_80, em, -⟩ | ⟨f_81, f_82, f_83, f_84, f_85, f_86, em, -⟩ | ⟨f_87, f_88, f_89, f_90, f_91, f_92, f_93, em, -⟩ | ⟨f_94, f_95, f_96, f_97, f_98, f_99, f_100, f_101, em, -⟩ | ⟨f_102, f_103, f_104, f_105, f_106, f_107, f_108, f_109, f_110, em, -⟩ | ⟨f_111, f_112, f_113, f_114, f_115, f_116, f_117, f_118, f_119, f_120, em, -⟩ | ⟨f_121, f_122, f_123, f_124, f_125, f_126, f_127, f_128, f_129, f_130, em, -⟩
      · exact ex.trans em.symm
      · exact ex.trans em.symm
      · exact ex.trans em.symm
      · exact ex.trans em.symm
      · exact ex.trans em.symm
      · exact ex.trans em.symm
      · exact ex.trans em.symm
      · exact ex.trans em.symm
      · exact ex.trans em.symm
      · exact ex.trans em.symm
      · exact False.elim (by simp only [tI_lt, tI_le, tI_eq, tL_lt, tL_le, tL_eq, tWx, (by decide : (0 : Int32).toInt = 0), (by decide : (1 : Int32).toInt = 1), (by decide : (2 : Int32).toInt = 2), (by decide : (3 : Int32).toInt = 3), (by decide : (4 : Int32).toInt = 4), (by decide : (5 : Int32).toInt = 5), (by decide : (6 : Int32).toInt = 6), (by decide : (7 : Int32).toInt = 7), (by decide : (8 : Int32).toInt = 8), (by decide : (9 : Int32).toInt = 9)] at f_22 f_23 f_24 f_25 f_26 f_27 f_28 f_121 f_122 f_123 f_124 f_125 f_126 f_127 f_128 f_129 f_130; omega)
    · rcases hw2 with ⟨f_66, em, -⟩ | ⟨f_67, f_68, em, -⟩ | ⟨f_69, f_70, f_71, em, -⟩ | ⟨f_72, f_73, f_74, f_75, em, -⟩ | ⟨f_76, f_77, f_78, f_79, f_80, em, -⟩ | ⟨f_81, f_82, f_83, f_84, f_85, f_86, em, -⟩ | ⟨f_87, f_88, f_89, f_90, f_91, f_92, f_93, em, -⟩ | ⟨f_94, f_95, f_96, f_97, f_98, f_99, f_100, f_101, em, -⟩ | ⟨f_102, f_103, f_104, f_105, f_106, f_107, f_108, f_109, f_110, em, -⟩ | ⟨f_111, f_112, f_113, f_114, f_115, f_116, f_117, f_118, f_119, f_120, em, -⟩ | ⟨f_121, f_122, f_123, f_124, f_125, f_126, f_127, f_128, f_129, f_130, em, -⟩
      · exact ex.trans em.symm
      · exact ex.trans em.symm
      · exact ex.trans em.symm
      · exact ex.trans em.symm
      · exact ex.trans em.symm
      · exact ex.trans em.symm
      · exact ex.trans em.symm
      · exact ex.trans em.symm
      · exact ex.trans em.symm
      · exact ex.trans em.symm
      · exact False.elim (by simp only [tI_lt, tI_le, tI_eq, tL_lt, tL_le, tL_eq, tWx, (by decide : (0 : Int32).toInt = 0), (by decide : (1 : Int32).toInt = 1), (by decide : (2 : Int32).toInt = 2), (by decide : (3 : Int32).toInt = 3), (by decide : (4 : Int32).toInt = 4), (by decide : (5 : Int32).toInt = 5), (by decide : (6 : Int32).toInt = 6), (by decide : (7 : Int32).toInt = 7), (by decide : (8 : Int32).toInt = 8), (by decide : (9 : Int32).toInt = 9)] at f_29 f_30 f_31 f_32 f_33 f_34 f_35 f_36 f_121 f_122 f_123 f_124 f_125 f_126 f_127 f_128 f_129 f_130; omega)
    · rcases hw2 with ⟨f_66, em, -⟩ | ⟨f_67, f_68, em, -⟩ | ⟨f_69, f_70, f_71, em, -⟩ | ⟨f_72, f_73, f_74, f_75, em, -⟩ | ⟨f_76, f_77, f_78, f_79, f_80, em, -⟩ | ⟨f_81, f_82, f_83, f_84, f_85, f_86, em, -⟩ | ⟨f_87, f_88, f_89, f_90, f_91, f_92, f_93, em, -⟩ | ⟨f_94, f_95, f_96, f_97, f_98, f_99, f_100, f_101, em, -⟩ | ⟨f_102, f_103, f_104, f_105, f_106, f_107, f_108, f_109, f_110, em, -⟩ | ⟨f_111, f_112, f_113, f_114, f_115, f_116, f_117, f_118, f_119, f_120, em, -⟩ | ⟨f_121, f_122, f_123, f_124, f_125, f_126, f_127, f_128, f_129, f_130, em, -⟩
      · exact ex.trans em.symm
      · exact ex.trans em.symm
      · exact ex.trans em.symm
      · exact ex.trans em.symm
      · exact ex.trans em.symm
      · exact ex.trans em.symm
      · exact ex.trans em.symm
      · exact ex.trans em.symm
      · exact ex.trans em.symm
      · exact ex.trans em.symm
      · exact False.elim (by simp only [tI_lt, tI_le, tI_eq, tL_lt, tL_le, tL_eq, tWx, (by decide : (0 : Int32).toInt = 0), (by decide : (1 : Int32).toInt = 1), (by decide : (2 : Int32).toInt = 2), (by decide : (3 : Int32).toInt = 3), (by decide : (4 : Int32).toInt = 4), (by decide : (5 : Int32).toInt = 5), (by decide : (6 : Int32).toInt = 6), (by decide : (7 : Int32).toInt = 7), (by decide : (8 : Int32).toInt = 8), (by decide : (9 : Int32).toInt = 9)] at f_37 f_38 f_39 f_40 f_41 f_42 f_43 f_44 f_45 f_121 f_122 f_123 f_124 f_125 f_126 f_127 f_128 f_129 f_130; omega)
    · rcases hw2 with ⟨f_66, em, -⟩ | ⟨f_67, f_68, em, -⟩ | ⟨f_69, f_70, f_71, em, -⟩ | ⟨f_72, f_73, f_74, f_75, em, -⟩ | ⟨f_76, f_77, f_78, f_79, f_80, em, -⟩ | ⟨f_81, f_82, f_83, f_84, f_85, f_86, em, -⟩ | ⟨f_87, f_88, f_89, f_90, f_91, f_92, f_93, em, -⟩ | ⟨f_94, f_95, f_96, f_97, f_98, f_99, f_100, f_101, em, -⟩ | ⟨f_102, f_103, f_104, f_105, f_106, f_107, f_108, f_109, f_110, em, -⟩ | ⟨f_111, f_112, f_113, f_114, f_115, f_116, f_117, f_118, f_119, f_120, em, -⟩ | ⟨f_121, f_122, f_123, f_124, f_125, f_126, f_127, f_128, f_129, f_130, em, -⟩
      · exact ex.trans em.symm
      · exact ex.trans em.symm
      · exact ex.trans em.symm
      · exact ex.trans em.symm
      · exact ex.trans em.symm
      · exact ex.trans em.symm
      · exact ex.trans em.symm
      · exact ex.trans em.symm
      · exact ex.trans em.symm
      · exact ex.trans em.symm
      · exact False.elim (by simp only [tI_lt, tI_le, tI_eq, tL_lt, tL_le, tL_eq, tWx, (by decide : (0 : Int32).toInt = 0), (by decide : (1 : Int32).toInt = 1), (by decide : (2 : Int32).toInt = 2), (by decide : (3 : Int32).toInt = 3), (by decide : (4 : Int32).toInt = 4), (by decide : (5 : Int32).toInt = 5), (by decide : (6 : Int32).toInt = 6), (by decide : (7 : Int32).toInt = 7), (by decide : (8 : Int32).toInt = 8), (by decide : (9 : Int32).toInt = 9)] at f_46 f_47 f_48 f_49 f_50 f_51 f_52 f_53 f_54 f_55 f_121 f_122 f_123 f_124 f_125 f_126 f_127 f_128 f_129 f_130; omega)
    · rcases hw2 with ⟨f_66, em, -⟩ | ⟨f_67, f_68, em, -⟩ | ⟨f_69, f_70, f_71, em, -⟩ | ⟨f_72, f_73, f_74, f_75, em, -⟩ | ⟨f_76, f_77, f_78, f_79, f_80, em, -⟩ | ⟨f_81, f_82, f_83, f_84, f_85, f_86, em, -⟩ | ⟨f_87, f_88, f_89, f_90, f_91, f_92, f_93, em, -⟩ | ⟨f_94, f_95, f_96, f_97, f_98, f_99, f_100, f_101, em, -⟩ | ⟨f_102, f_103, f_104, f_105, f_106, f_107, f_108, f_109, f_110, em, -⟩ | ⟨f_111, f_112, f_113, f_114, f_115, f_116, f_117, f_118, f_119, f_120, em, -⟩ | ⟨f_121, f_122, f_123, f_124, f_125, f_126, f_127, f_128, f_129, f_130, em, -⟩
      · exact False.elim (by simp only [tI_lt, tI_le, tI_eq, tL_lt, tL_le, tL_eq, tWx, (by decide : (0 : Int32).toInt = 0), (by decide : (1 : Int32).toInt = 1), (by decide : (2 : Int32).toInt = 2), (by decide : (3 : Int32).toInt = 3), (by decide : (4 : Int32).toInt = 4), (by decide : (5 : Int32).toInt = 5), (by decide : (6 : Int32).toInt = 6), (by decide : (7 : Int32).toInt = 7), (by decide : (8 : Int32).toInt = 8), (by decide : (9 : Int32).toInt = 9)] at f_56 f_57 f_58 f_59 f_60 f_61 f_62 f_63 f_64 f_65 f_66; omega)
      · exact False.elim (by simp only [tI_lt, tI_le, tI_eq, tL_lt, tL_le, tL_eq, tWx, (by decide : (0 : Int32).toInt = 0), (by decide : (1 : Int32).toInt = 1), (by decide : (2 : Int32).toInt = 2), (by decide : (3 : Int32).toInt = 3), (by decide : (4 : Int32).toInt = 4), (by decide : (5 : Int32).toInt = 5), (by decide : (6 : Int32).toInt = 6), (by decide : (7 : Int32).toInt = 7), (by decide : (8 : Int32).toInt = 8), (by decide : (9 : Int32).toInt = 9)] at f_56 f_57 f_58 f_59 f_60 f_61 f_62 f_63 f_64 f_65 f_67 f_68; omega)
      · exact False.elim (by simp only [tI_lt, tI_le, tI_eq, tL_lt, tL_le, tL_eq, tWx, (by decide : (0 : Int32).toInt = 0), (by decide : (1 : Int32).toInt = 1), (by decide : (2 : Int32).toInt = 2), (by decide : (3 : Int32).toInt = 3), (by decide : (4 : Int32).toInt = 4), (by decide : (5 : Int32).toInt = 5), (by decide : (6 : Int32).toInt = 6), (by decide : (7 : Int32).toInt = 7), (by decide : (8 : Int32).toInt = 8), (by decide : (9 : Int32).toInt = 9)] at f_56 f_57 f_58 f_59 f_60 f_61 f_62 f_63 f_64 f_65 f_69 f_70 f_71; omega)
      · exact False.elim (by simp only [tI_lt, tI_le, tI_eq, tL_lt, tL_le, tL_eq, tWx, (by decide : (0 : Int32).toInt = 0), (by decide : (1 : Int32).toInt = 1), (by decide : (2 : Int32).toInt = 2), (by decide : (3 : Int32).toInt = 3), (by decide : (4 : Int32).toInt = 4), (by decide : (5 : Int32).toInt = 5), (by decide : (6 : Int32).toInt = 6), (by decide : (7 : Int32).toInt = 7), (by decide : (8 : Int32).toInt = 8), (by decide : (9 : Int32).toInt = 9)] at f_56 f_57 f_58 f_59 f_60 f_61 f_62 f_63 f_64 f_65 f_72 f_73 f_74 f_75; omega)
      · exact False.elim (by simp only [tI_lt, tI_le, tI_eq, tL_lt, tL_le, tL_eq, tWx, (by decide : (0 : Int32).toInt = 0), (by decide : (1 : Int32).toInt = 1), (by decide : (2 : Int32).toInt = 2), (by decide : (3 : Int32).toInt = 3), (by decide : (4 : Int32).toInt = 4), (by decide : (5 : Int32).toInt = 5), (by decide : (6 : Int32).toInt = 6), (by decide : (7 : Int32).toInt = 7), (by decide : (8 : Int32).toInt = 8), (by decide : (9 : Int32).toInt = 9)] at f_56 f_57 f_58 f_59 f_60 f_61 f_62 f_63 f_64 f_65 f_76 f_77 f_78 f_79 f_80; omega)
      · exact False.elim (by simp only [tI_lt, tI_le, tI_eq, tL_lt, tL_le, tL_eq, tWx, (by decide : (0 : Int32).toInt = 0), (by decide : (1 : Int32).toInt = 1), (by decide : (2 : Int32).toInt = 2), (by decide : (3 : Int32).toInt = 3), (by decide : (4 : Int32).toInt = 4), (by decide : (5 : Int32).toInt = 5), (by decide : (6 : Int32).toInt = 6), (by decide : (7 : Int32).toInt = 7), (by decide : (8 : Int32).toInt = 8), (by decide : (9 : Int32).toInt = 9)] at f_56 f_57 f_58 f_59 f_60 f_61 f_62 f_63 f_64 f_65 f_81 f_82 f_83 f_84 f_85 f_86; omega)
      · exact False.elim (by simp only [tI_lt, tI_le, tI_eq, tL_lt, tL_le, tL_eq, tWx, (by decide : (0 : Int32).toInt = 0), (by decide : (1 : Int32).toInt = 1), (by decide : (2 : Int32).toInt = 2), (by decide : (3 : Int32).toInt = 3), (by decide : (4 : Int32).toInt = 4), (by decide : (5 : Int32).toInt = 5), (by decide : (6 : Int32).toInt = 6), (by decide : (7 : Int32).toInt = 7), (by decide : (8 : Int32).toInt = 8), (by decide : (9 : Int32).toInt = 9)] at f_56 f_57 f_58 f_59 f_60 f_61 f_62 f_63 f_64 f_65 f_87 f_88 f_89 f_90 f_91 f_92 f_93; omega)
      · exact False.elim (by simp only [tI_lt, tI_le, tI_eq, tL_lt, tL_le, tL_eq, tWx, (by decide : (0 : Int32).toInt = 0), (by decide : (1 : Int32).toInt = 1), (by decide : (2 : Int32).toInt = 2), (by decide : (3 : Int32).toInt = 3), (by decide : (4 : Int32).toInt = 4), (by decide : (5 : Int32).toInt = 5), (by decide : (6 : Int32).toInt = 6), (by decide : (7 : Int32).toInt = 7), (by decide : (8 : Int32).toInt = 8), (by decide : (9 : Int32).toInt = 9)] at f_56 f_57 f_58 f_59 f_60 f_61 f_62 f_63 f_64 f_65 f_94 f_95 f_96 f_97 f_98 f_99 f_100 f_101; omega)
      · exact False.elim (by simp only [tI_lt, tI_le, tI_eq, tL_lt, tL_le, tL_eq, tWx, (by decide : (0 : Int32).toInt = 0), (by decide : (1 : Int32).toInt = 1), (by decide : (2 : Int32).toInt = 2), (by decide : (3 : Int32).toInt = 3), (by decide : (4 : Int32).toInt = 4), (by decide : (5 : Int32).toInt = 5), (by decide : (6 : Int32).toInt = 6), (by decide : (7 : Int32).toInt = 7), (by decide : (8 : Int32).toInt = 8), (by decide : (9 : Int32).toInt = 9)] at f_56 f_57 f_58 f_59 f_60 f_61 f_62 f_63 f_64 f_65 f_102 f_103 f_104 f_105 f_106 f_107 f_108 f_109 f_110; omega)
      · exact False.elim (by simp only [tI_lt, tI_le, tI_eq, tL_lt, tL_le, tL_eq, tWx, (by decide : (0 : Int32).toInt = 0), (by decide : (1 : Int32).toInt = 1), (by decide : (2 : Int32).toInt = 2), (by decide : (3 : Int32).toInt = 3), (by decide : (4 : Int32).toInt = 4), (by decide : (5 : Int32).toInt = 5), (by decide : (6 : Int32).toInt = 6), (by decide : (7 : Int32).toInt = 7), (by decide : (8 : Int32).toInt = 8), (by decide : (9 : Int32).toInt = 9)] at f_56 f_57 f_58 f_59 f_60 f_61 f_62 f_63 f_64 f_65 f_111 f_112 f_113 f_114 f_115 f_116 f_117 f_118 f_119 f_120; omega)
      · exact ex.trans em.symm
  refine lv_icmp_eq (tgt := 1549) hx hb dL_law_1544 (by decide) (fun _ => ?_) (fun c_1 => absurd e9 c_1)
  exact law_end C0 (Nat.le_of_ble_eq_true rfl) (Nat.le_of_ble_eq_true rfl) hS (lv_sub hl [0, 3] rfl)
