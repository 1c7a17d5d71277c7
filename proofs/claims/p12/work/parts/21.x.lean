set_option maxHeartbeats 4000000 in
set_option maxRecDepth 100000 in
theorem k_X9_rows_3 (l : Launch) (V : GV) (n : Nat) (L : Nat) (Yw : Nat → Nat) (y : Nat → Nat) (D9 : Nat → Int32) (a1 : Int32) (a2 : Int32) (a3 : Int32) (py0_1 : Int32) (o11 : Value) (py0_12 : Int32) (py0_13 : Int32) (py0_14 : Int32) (py2_0 : Int32) (py2_1 : Int32) (py2_2 : Int32) (py2_3 : Int32) (py2_4 : Int32) (py2_5 : Int32) (py2_13 : Int32) (py2_14 : Int32) (py2_15 : Int32) (py2_16 : Int32) (py2_17 : Int32) (fy3 : Nat → Int32) (fy9 : Nat → Int32) (fy20 : Nat → Int32) (fy21 : Nat → Int32) (fy22 : Nat → Int32) (pYw0_0 : Int32) (wa : Nat) (pYw0_5 : Int32) (pYw0_6 : Int32) (wb : Nat) (pYw0_14 : Int32) (pYw0_15 : Int32) (pYw0_16 : Int32) (fYw1 : Nat → Int32) (fYw2 : Nat → Int32) (fwa : Nat → Int32) (fYw4 : Nat → Int32) (fYw5 : Nat → Int32) (fYw6 : Nat → Int32) (fYw7 : Nat → Int32) (fYw8 : Nat → Int32) (fwb : Nat → Int32) (hn : 1 ≤ n ∧ n ≤ 3646) (hL : 1 ≤ L ∧ L ≤ 10000) (hq0 : pYw0_0 < py2_1) (bpy0_1 : iv 0 900 py0_1) (bpy0_12 : iv 0 9999 py0_12) (bpy0_13 : iv 0 9 py0_13) (bpy2_1 : iv 0 4 py2_1) (bpy2_2 : iv 0 4 py2_2) (bpy2_3 : iv 0 8 py2_3) (bpy2_4 : iv 0 9999 py2_4) (bpy2_5 : iv 0 9 py2_5) (bpy2_13 : iv 0 900 py2_13) (bpy2_14 : iv 0 900 py2_14) (bpy2_15 : iv 0 900 py2_15) (bpy2_16 : iv 0 900 py2_16) (bpy2_17 : iv 0 900 py2_17) (tfy20 : ∀ j, iv 0 10 (fy20 j)) (bpYw0_0 : iv 0 4 pYw0_0) (bpYw0_5 : iv 0 ((n : Int)) pYw0_5) (bpYw0_6 : iv 0 4 pYw0_6) (bpYw0_14 : iv 0 4 pYw0_14) (bpYw0_15 : iv 0 9 pYw0_15) (bpYw0_16 : iv 0 ((n : Int)) pYw0_16) (tfYw1 : ∀ j, iv 0 ((L : Int) - 1) (fYw1 j)) (tfYw4 : ∀ j, iv 0 ((n : Int)) (fYw4 j)) (tfYw5 : ∀ j, iv 0 (4 * (n : Int) - 1) (fYw5 j)) (tfYw6 : ∀ j, iv 0 ((n : Int) - 1) (fYw6 j)) (tfYw7 : ∀ j, iv 0 ((n : Int) - 1) (fYw7 j)) (hf0 : WA pYw0_5 fYw4 fYw1) (hf1 : WB pYw0_16 pYw0_6 pYw0_5 fYw6) (hf2 : WC pYw0_5 fYw2) (hf3 : 0 ≤ (a1 : Int32).toInt) (hf4 : (a1 : Int32).toInt < (py2_1 : Int32).toInt) (hf5 : 0 ≤ (a2 : Int32).toInt) (hf6 : (a2 : Int32).toInt ≤ 4) (hf7 : 0 ≤ (a3 : Int32).toInt) (hf8 : (a3 : Int32).toInt ≤ 12) (hL9 : LW D9 fy3 fy9 py2_14 py2_15 py2_16 py2_17) (hK9 : KN D9 fy20) : Ct l V yX9_rows (.code yX9_rows cX9_rows 5 (some .long)) 8 [.ref (y 0), .int a1, .int a2, .int a3] [(y 0, .inr (9, o9_rirrrrrrrrrviii (y 1) py0_1 (y 2) (y 10) (y 19) (y 25) (y 26) (y 30) (y 31) (y 32) (Yw 0) o11 py0_12 py0_13 py0_14)), (y 2, .inr (1, o1_iiiiiirrrrrrriiiii py2_0 py2_1 py2_2 py2_3 py2_4 py2_5 (y 3) (y 4) (y 5) (y 6) (y 7) (y 8) (y 9) py2_13 py2_14 py2_15 py2_16 py2_17)), (y 3, aI V 4 fy3), (y 9, aI V 900 fy9), (y 19, .inr (4, o4_rrrrrr (y 2) (y 20) (y 21) (y 22) (y 23) (y 24))), (y 20, aI V 2000 fy20), (y 21, aI V 6 fy21), (y 22, aI V 64 fy22), (Yw 0, .inr (8, o8_iirrriirrrrrrriii pYw0_0 (nI n) (Yw 1) (Yw 2) wa pYw0_5 pYw0_6 (y 19) (Yw 4) (Yw 5) (Yw 6) (Yw 7) (Yw 8) wb pYw0_14 pYw0_15 pYw0_16)), (Yw 1, aI V n fYw1), (Yw 2, aI V n fYw2), (wa, aI V n fwa), (Yw 4, aI V L fYw4), (Yw 5, aI V n fYw5), (Yw 6, aI V (n * 4) fYw6), (Yw 7, aI V n fYw7), (Yw 8, aI V 4 fYw8), (wb, aI V n fwb)] 10 46481 (QL V (fun (r : Int64) (w : va_W) => ∃ (n : Nat) (L : Nat) (Yw : Nat → Nat) (wa : Nat) (wb : Nat) (g0 : Nat → Int32) (g1 : Nat → Int32) (g2 : Nat → Int32) (ww0 : Int32) (ww5 : Int32) (ww6 : Int32) (ww14 : Int32) (ww15 : Int32) (ww16 : Int32) (wew1 : Nat → Int32) (wew2 : Nat → Int32) (wew3 : Nat → Int32) (wew4 : Nat → Int32) (wew5 : Nat → Int32) (wew6 : Nat → Int32) (wew7 : Nat → Int32) (wew8 : Nat → Int32) (wew9 : Nat → Int32), (1 ≤ n ∧ n ≤ 3646) ∧ (1 ≤ L ∧ L ≤ 10000) ∧ (∀ j, iv 0 10 (g0 j)) ∧ iv 0 4 ww0 ∧ iv 0 ((n : Int)) ww5 ∧ iv 0 4 ww6 ∧ iv 0 4 ww14 ∧ iv 0 9 ww15 ∧ iv 0 ((n : Int)) ww16 ∧ (∀ j, iv 0 ((L : Int) - 1) (wew1 j)) ∧ (∀ j, iv 0 ((n : Int)) (wew4 j)) ∧ (∀ j, iv 0 (4 * (n : Int) - 1) (wew5 j)) ∧ (∀ j, iv 0 ((n : Int) - 1) (wew6 j)) ∧ (∀ j, iv 0 ((n : Int) - 1) (wew7 j)) ∧ (WA ww5 wew4 wew1) ∧ (WB ww16 ww6 ww5 wew6) ∧ (WC ww5 wew2) ∧ (ww0 = py2_1) ∧ KN D9 g0 ∧ w = [(y 0, .inr (9, o9_rirrrrrrrrrviii (y 1) py0_1 (y 2) (y 10) (y 19) (y 25) (y 26) (y 30) (y 31) (y 32) (Yw 0) o11 py0_12 py0_13 py0_14)), (y 2, .inr (1, o1_iiiiiirrrrrrriiiii py2_0 py2_1 py2_2 py2_3 py2_4 py2_5 (y 3) (y 4) (y 5) (y 6) (y 7) (y 8) (y 9) py2_13 py2_14 py2_15 py2_16 py2_17)), (y 3, aI V 4 fy3), (y 9, aI V 900 fy9), (y 19, .inr (4, o4_rrrrrr (y 2) (y 20) (y 21) (y 22) (y 23) (y 24))), (y 20, aI V 2000 g0), (y 21, aI V 6 g1), (y 22, aI V 64 g2), (Yw 0, .inr (8, o8_iirrriirrrrrrriii ww0 (nI n) (Yw 1) (Yw 2) wa ww5 ww6 (y 19) (Yw 4) (Yw 5) (Yw 6) (Yw 7) (Yw 8) wb ww14 ww15 ww16)), (Yw 1, aI V n wew1), (Yw 2, aI V n wew2), (wa, aI V n wew3), (Yw 4, aI V L wew4), (Yw 5, aI V n wew5), (Yw 6, aI V (n * 4) wew6), (Yw 7, aI V n wew7), (Yw 8, aI V 4 wew8), (wb, aI V n wew9)])) := by
  refine Ct.of (by decide) (Nat.le_of_ble_eq_true rfl) (fun p e s m below meth c A ls hx hb hr hml hown hlk hnm hg hP hK hD hE hA hS hl => ?_)
  have hl : lv_has ls 5 [(0, .ref (y 0)), (1, .int a1), (2, .int a2), (3, .int a3)] := hl
  refine lv_aload_n hx hb dX9_rows_0 rfl (lv_at hl 0 rfl) ?_
  refine lv_iload_n hx hb dX9_rows_1 rfl (lv_at hl 1 rfl) ?_
  refine jnI (wr := [(y 3, aI V 4 fy3), (y 9, aI V 900 fy9), (y 19, .inr (4, o4_rrrrrr (y 2) (y 20) (y 21) (y 22) (y 23) (y 24))), (y 20, aI V 2000 fy20), (y 21, aI V 6 fy21), (y 22, aI V 64 fy22), (Yw 0, .inr (8, o8_iirrriirrrrrrriii pYw0_0 (nI n) (Yw 1) (Yw 2) wa pYw0_5 pYw0_6 (y 19) (Yw 4) (Yw 5) (Yw 6) (Yw 7) (Yw 8) wb pYw0_14 pYw0_15 pYw0_16)), (Yw 1, aI V n fYw1), (Yw 2, aI V n fYw2), (wa, aI V n fwa), (Yw 4, aI V L fYw4), (Yw 5, aI V n fYw5), (Yw 6, aI V (n * 4) fYw6), (Yw 7, aI V n fYw7), (Yw 8, aI V 4 fYw8), (wb, aI V n fwb)]) (rnV (rest := []) ⟨hx, hb, hml, hown, hg⟩ (k_X9_isHill_0 l V y a1 py0_1 (.ref (Yw 0)) o11 py0_12 py0_13 py0_14 py2_0 py2_1 py2_2 py2_3 py2_4 py2_5 py2_13 py2_14 py2_15 py2_16 py2_17 bpy0_1 bpy0_12 bpy0_13 bpy2_1 bpy2_2 bpy2_3 bpy2_4 bpy2_5 bpy2_13 bpy2_14 bpy2_15 bpy2_16 bpy2_17) mt_X9_isHill q_3_122 ⟨Nat.le_of_ble_eq_true rfl, Nat.le_of_ble_eq_true rfl⟩ hK hP hD hS hA hE [0, 1] rfl rfl 0 rfl rfl rfl rfl hl.1 rfl (Nat.le_of_ble_eq_true rfl) dX9_rows_2 ⟨Nat.le_of_ble_eq_true rfl, Nat.le_of_ble_eq_true rfl⟩) hP hD hS hA [0, 1] [2, 3, 4, 5, 6, 7, 8, 9, 10, 11, 12, 13, 14, 15, 16, 17] rfl rfl rfl (by decide) (fun r_1 w H locs hw hP hD hS => ?_)
  rcases hw with ⟨c_2, rfl, et_3, rfl⟩ | ⟨c_4, c_5, rfl, et_6, rfl⟩ | ⟨c_7, c_8, rfl, et_9, rfl⟩
  · have hP : va_P V.1 vwCl [(y 3, aI V 4 fy3), (y 9, aI V 900 fy9), (y 19, .inr (4, o4_rrrrrr (y 2) (y 20) (y 21) (y 22) (y 23) (y 24))), (y 20, aI V 2000 fy20), (y 21, aI V 6 fy21), (y 22, aI V 64 fy22), (Yw 0, .inr (8, o8_iirrriirrrrrrriii pYw0_0 (nI n) (Yw 1) (Yw 2) wa pYw0_5 pYw0_6 (y 19) (Yw 4) (Yw 5) (Yw 6) (Yw 7) (Yw 8) wb pYw0_14 pYw0_15 pYw0_16)), (Yw 1, aI V n fYw1), (Yw 2, aI V n fYw2), (wa, aI V n fwa), (Yw 4, aI V L fYw4), (Yw 5, aI V n fYw5), (Yw 6, aI V (n * 4) fYw6), (Yw 7, aI V n fYw7), (Yw 8, aI V 4 fYw8), (wb, aI V n fwb), (y 0, .inr (9, o9_rirrrrrrrrrviii (y 1) py0_1 (y 2) (y 10) (y 19) (y 25) (y 26) (y 30) (y 31) (y 32) (Yw 0) o11 py0_12 py0_13 py0_14)), (y 2, .inr (1, o1_iiiiiirrrrrrriiiii py2_0 py2_1 py2_2 py2_3 py2_4 py2_5 (y 3) (y 4) (y 5) (y 6) (y 7) (y 8) (y 9) py2_13 py2_14 py2_15 py2_16 py2_17))] H := hP
    have hD := cpD hP hD
    have b_10 : iv (-2147483648) (-1) a1 := iv_l1 c_2 (iv_top a1) (iv_c (0 : Int32) (a := 0) (b := 0) (by decide)) (by first | decide | omega)
    refine lv_if_ne (tgt := 12) hx hb dX9_rows_5 (by decide) (fun c_12 => absurd c_12 (by decide)) (fun _ => ?_)
    refine lv_ldc2 (v := (-2)) hx hb hown (hg _ q_4_162) dX9_rows_8 ?_
    have z_0 := Int32.lt_iff_toInt_lt.mp hq0
    have z_1 := Int32.lt_iff_toInt_lt.mp c_2
    have k_0 : (0 : Int32).toInt = 0 := (by decide)
    exfalso
    have g_0 := hf3
    have g_1 := hf4
    have g_2 := hf5
    have g_3 := hf6
    have g_4 := hf7
    have g_5 := hf8
    omega
  · have hP : va_P V.1 vwCl [(y 3, aI V 4 fy3), (y 9, aI V 900 fy9), (y 19, .inr (4, o4_rrrrrr (y 2) (y 20) (y 21) (y 22) (y 23) (y 24))), (y 20, aI V 2000 fy20), (y 21, aI V 6 fy21), (y 22, aI V 64 fy22), (Yw 0, .inr (8, o8_iirrriirrrrrrriii pYw0_0 (nI n) (Yw 1) (Yw 2) wa pYw0_5 pYw0_6 (y 19) (Yw 4) (Yw 5) (Yw 6) (Yw 7) (Yw 8) wb pYw0_14 pYw0_15 pYw0_16)), (Yw 1, aI V n fYw1), (Yw 2, aI V n fYw2), (wa, aI V n fwa), (Yw 4, aI V L fYw4), (Yw 5, aI V n fYw5), (Yw 6, aI V (n * 4) fYw6), (Yw 7, aI V n fYw7), (Yw 8, aI V 4 fYw8), (wb, aI V n fwb), (y 0, .inr (9, o9_rirrrrrrrrrviii (y 1) py0_1 (y 2) (y 10) (y 19) (y 25) (y 26) (y 30) (y 31) (y 32) (Yw 0) o11 py0_12 py0_13 py0_14)), (y 2, .inr (1, o1_iiiiiirrrrrrriiiii py2_0 py2_1 py2_2 py2_3 py2_4 py2_5 (y 3) (y 4) (y 5) (y 6) (y 7) (y 8) (y 9) py2_13 py2_14 py2_15 py2_16 py2_17))] H := hP
    have hD := cpD hP hD
    have b_13 : iv 0 2147483647 a1 := iv_e2 (Int32.not_lt.mp c_4) (iv_c (0 : Int32) (a := 0) (b := 0) (by decide)) (iv_top a1) (by first | decide | omega)
    refine lv_if_ne (tgt := 12) hx hb dX9_rows_5 (by decide) (fun c_15 => absurd c_15 (by decide)) (fun _ => ?_)
    refine lv_ldc2 (v := (-2)) hx hb hown (hg _ q_4_162) dX9_rows_8 ?_
    have z_0 := Int32.lt_iff_toInt_lt.mp hq0
    have z_1 := Int32.le_iff_toInt_le.mp (Int32.not_lt.mp c_4)
    have z_2 := Int32.le_iff_toInt_le.mp c_5
    have k_0 : (0 : Int32).toInt = 0 := (by decide)
    exfalso
    have g_0 := hf3
    have g_1 := hf4
    have g_2 := hf5
    have g_3 := hf6
    have g_4 := hf7
    have g_5 := hf8
    omega
  · have hP : va_P V.1 vwCl [(y 3, aI V 4 fy3), (y 9, aI V 900 fy9), (y 19, .inr (4, o4_rrrrrr (y 2) (y 20) (y 21) (y 22) (y 23) (y 24))), (y 20, aI V 2000 fy20), (y 21, aI V 6 fy21), (y 22, aI V 64 fy22), (Yw 0, .inr (8, o8_iirrriirrrrrrriii pYw0_0 (nI n) (Yw 1) (Yw 2) wa pYw0_5 pYw0_6 (y 19) (Yw 4) (Yw 5) (Yw 6) (Yw 7) (Yw 8) wb pYw0_14 pYw0_15 pYw0_16)), (Yw 1, aI V n fYw1), (Yw 2, aI V n fYw2), (wa, aI V n fwa), (Yw 4, aI V L fYw4), (Yw 5, aI V n fYw5), (Yw 6, aI V (n * 4) fYw6), (Yw 7, aI V n fYw7), (Yw 8, aI V 4 fYw8), (wb, aI V n fwb), (y 0, .inr (9, o9_rirrrrrrrrrviii (y 1) py0_1 (y 2) (y 10) (y 19) (y 25) (y 26) (y 30) (y 31) (y 32) (Yw 0) o11 py0_12 py0_13 py0_14)), (y 2, .inr (1, o1_iiiiiirrrrrrriiiii py2_0 py2_1 py2_2 py2_3 py2_4 py2_5 (y 3) (y 4) (y 5) (y 6) (y 7) (y 8) (y 9) py2_13 py2_14 py2_15 py2_16 py2_17))] H := hP
    have hD := cpD hP hD
    have b_16 : iv 0 2147483647 a1 := iv_e2 (Int32.not_lt.mp c_7) (iv_c (0 : Int32) (a := 0) (b := 0) (by decide)) (iv_top a1) (by first | decide | omega)
    have b_17 : iv 0 3 a1 := iv_l1 (Int32.not_le.mp c_8) b_16 bpy2_1 (by first | decide | omega)
    have b_18 : iv 1 4 py2_1 := iv_l2 (Int32.not_le.mp c_8) b_16 bpy2_1 (by first | decide | omega)
    refine lv_if_ne (tgt := 12) hx hb dX9_rows_5 (by decide) (fun _ => ?_) (fun c_20 => absurd c_20 (by decide))
    refine lv_iload_n hx hb dX9_rows_12 rfl (lv_at hl 2 rfl) ?_
    refine jnI (wr := [(y 3, aI V 4 fy3), (y 9, aI V 900 fy9), (y 19, .inr (4, o4_rrrrrr (y 2) (y 20) (y 21) (y 22) (y 23) (y 24))), (y 20, aI V 2000 fy20), (y 21, aI V 6 fy21), (y 22, aI V 64 fy22), (Yw 0, .inr (8, o8_iirrriirrrrrrriii pYw0_0 (nI n) (Yw 1) (Yw 2) wa pYw0_5 pYw0_6 (y 19) (Yw 4) (Yw 5) (Yw 6) (Yw 7) (Yw 8) wb pYw0_14 pYw0_15 pYw0_16)), (Yw 1, aI V n fYw1), (Yw 2, aI V n fYw2), (wa, aI V n fwa), (Yw 4, aI V L fYw4), (Yw 5, aI V n fYw5), (Yw 6, aI V (n * 4) fYw6), (Yw 7, aI V n fYw7), (Yw 8, aI V 4 fYw8), (wb, aI V n fwb), (y 0, .inr (9, o9_rirrrrrrrrrviii (y 1) py0_1 (y 2) (y 10) (y 19) (y 25) (y 26) (y 30) (y 31) (y 32) (Yw 0) o11 py0_12 py0_13 py0_14)), (y 2, .inr (1, o1_iiiiiirrrrrrriiiii py2_0 py2_1 py2_2 py2_3 py2_4 py2_5 (y 3) (y 4) (y 5) (y 6) (y 7) (y 8) (y 9) py2_13 py2_14 py2_15 py2_16 py2_17))]) (rnS (rest := []) ⟨hx, hb, hml, hown, hg⟩ (k_X9_isHeight_0 l V a2) mt_X9_isHeight q_4_49 ⟨Nat.le_of_ble_eq_true rfl, Nat.le_of_ble_eq_true rfl⟩ hK hP hD hS hA hE [] rfl rfl rfl hl.1 rfl (Nat.le_of_ble_eq_true rfl) dX9_rows_13 ⟨Nat.le_of_ble_eq_true rfl, Nat.le_of_ble_eq_true rfl⟩) hP hD hS hA [] [0, 1, 2, 3, 4, 5, 6, 7, 8, 9, 10, 11, 12, 13, 14, 15, 16, 17] rfl rfl rfl (by decide) (fun r_21 w H locs hw hP hD hS => ?_)
    rcases hw with ⟨c_22, rfl, rfl⟩ | ⟨c_23, c_24, rfl, rfl⟩ | ⟨c_25, c_26, rfl, rfl⟩
    · have hP : va_P V.1 vwCl [(y 3, aI V 4 fy3), (y 9, aI V 900 fy9), (y 19, .inr (4, o4_rrrrrr (y 2) (y 20) (y 21) (y 22) (y 23) (y 24))), (y 20, aI V 2000 fy20), (y 21, aI V 6 fy21), (y 22, aI V 64 fy22), (Yw 0, .inr (8, o8_iirrriirrrrrrriii pYw0_0 (nI n) (Yw 1) (Yw 2) wa pYw0_5 pYw0_6 (y 19) (Yw 4) (Yw 5) (Yw 6) (Yw 7) (Yw 8) wb pYw0_14 pYw0_15 pYw0_16)), (Yw 1, aI V n fYw1), (Yw 2, aI V n fYw2), (wa, aI V n fwa), (Yw 4, aI V L fYw4), (Yw 5, aI V n fYw5), (Yw 6, aI V (n * 4) fYw6), (Yw 7, aI V n fYw7), (Yw 8, aI V 4 fYw8), (wb, aI V n fwb), (y 0, .inr (9, o9_rirrrrrrrrrviii (y 1) py0_1 (y 2) (y 10) (y 19) (y 25) (y 26) (y 30) (y 31) (y 32) (Yw 0) o11 py0_12 py0_13 py0_14)), (y 2, .inr (1, o1_iiiiiirrrrrrriiiii py2_0 py2_1 py2_2 py2_3 py2_4 py2_5 (y 3) (y 4) (y 5) (y 6) (y 7) (y 8) (y 9) py2_13 py2_14 py2_15 py2_16 py2_17))] H := hP
      have hD := cpD hP hD
      have b_27 : iv (-2147483648) (-1) a2 := iv_l1 c_22 (iv_top a2) (iv_c (0 : Int32) (a := 0) (b := 0) (by decide)) (by first | decide | omega)
      refine lv_if_eq (tgt := 29) hx hb dX9_rows_16 (by decide) (fun _ => ?_) (fun c_29 => absurd c_29 (by decide))
      refine lv_ldc2 (v := (-3)) hx hb hown (hg _ q_4_163) dX9_rows_29 ?_
      have z_0 := Int32.lt_iff_toInt_lt.mp hq0
      have z_1 := Int32.le_iff_toInt_le.mp (Int32.not_lt.mp c_7)
      have z_2 := Int32.lt_iff_toInt_lt.mp (Int32.not_le.mp c_8)
      have z_3 := Int32.lt_iff_toInt_lt.mp c_22
      have k_0 : (0 : Int32).toInt = 0 := (by decide)
      exfalso
      have g_0 := hf3
      have g_1 := hf4
      have g_2 := hf5
      have g_3 := hf6
      have g_4 := hf7
      have g_5 := hf8
      omega
    · have hP : va_P V.1 vwCl [(y 3, aI V 4 fy3), (y 9, aI V 900 fy9), (y 19, .inr (4, o4_rrrrrr (y 2) (y 20) (y 21) (y 22) (y 23) (y 24))), (y 20, aI V 2000 fy20), (y 21, aI V 6 fy21), (y 22, aI V 64 fy22), (Yw 0, .inr (8, o8_iirrriirrrrrrriii pYw0_0 (nI n) (Yw 1) (Yw 2) wa pYw0_5 pYw0_6 (y 19) (Yw 4) (Yw 5) (Yw 6) (Yw 7) (Yw 8) wb pYw0_14 pYw0_15 pYw0_16)), (Yw 1, aI V n fYw1), (Yw 2, aI V n fYw2), (wa, aI V n fwa), (Yw 4, aI V L fYw4), (Yw 5, aI V n fYw5), (Yw 6, aI V (n * 4) fYw6), (Yw 7, aI V n fYw7), (Yw 8, aI V 4 fYw8), (wb, aI V n fwb), (y 0, .inr (9, o9_rirrrrrrrrrviii (y 1) py0_1 (y 2) (y 10) (y 19) (y 25) (y 26) (y 30) (y 31) (y 32) (Yw 0) o11 py0_12 py0_13 py0_14)), (y 2, .inr (1, o1_iiiiiirrrrrrriiiii py2_0 py2_1 py2_2 py2_3 py2_4 py2_5 (y 3) (y 4) (y 5) (y 6) (y 7) (y 8) (y 9) py2_13 py2_14 py2_15 py2_16 py2_17))] H := hP
      have hD := cpD hP hD
      have b_30 : iv 0 2147483647 a2 := iv_e2 (Int32.not_lt.mp c_23) (iv_c (0 : Int32) (a := 0) (b := 0) (by decide)) (iv_top a2) (by first | decide | omega)
      have b_31 : iv 5 2147483647 a2 := iv_l2 c_24 (iv_c (4 : Int32) (a := 4) (b := 4) (by decide)) b_30 (by first | decide | omega)
      refine lv_if_eq (tgt := 29) hx hb dX9_rows_16 (by decide) (fun _ => ?_) (fun c_33 => absurd c_33 (by decide))
      refine lv_ldc2 (v := (-3)) hx hb hown (hg _ q_4_163) dX9_rows_29 ?_
      have z_0 := Int32.lt_iff_toInt_lt.mp hq0
      have z_1 := Int32.le_iff_toInt_le.mp (Int32.not_lt.mp c_7)
      have z_2 := Int32.lt_iff_toInt_lt.mp (Int32.not_le.mp c_8)
      have z_3 := Int32.le_iff_toInt_le.mp (Int32.not_lt.mp c_23)
      have z_4 := Int32.lt_iff_toInt_lt.mp c_24
      have k_0 : (0 : Int32).toInt = 0 := (by decide)
      have k_4 : (4 : Int32).toInt = 4 := (by decide)
      exfalso
      have g_0 := hf3
      have g_1 := hf4
      have g_2 := hf5
      have g_3 := hf6
      have g_4 := hf7
      have g_5 := hf8
      omega
    · have hP : va_P V.1 vwCl [(y 3, aI V 4 fy3), (y 9, aI V 900 fy9), (y 19, .inr (4, o4_rrrrrr (y 2) (y 20) (y 21) (y 22) (y 23) (y 24))), (y 20, aI V 2000 fy20), (y 21, aI V 6 fy21), (y 22, aI V 64 fy22), (Yw 0, .inr (8, o8_iirrriirrrrrrriii pYw0_0 (nI n) (Yw 1) (Yw 2) wa pYw0_5 pYw0_6 (y 19) (Yw 4) (Yw 5) (Yw 6) (Yw 7) (Yw 8) wb pYw0_14 pYw0_15 pYw0_16)), (Yw 1, aI V n fYw1), (Yw 2, aI V n fYw2), (wa, aI V n fwa), (Yw 4, aI V L fYw4), (Yw 5, aI V n fYw5), (Yw 6, aI V (n * 4) fYw6), (Yw 7, aI V n fYw7), (Yw 8, aI V 4 fYw8), (wb, aI V n fwb), (y 0, .inr (9, o9_rirrrrrrrrrviii (y 1) py0_1 (y 2) (y 10) (y 19) (y 25) (y 26) (y 30) (y 31) (y 32) (Yw 0) o11 py0_12 py0_13 py0_14)), (y 2, .inr (1, o1_iiiiiirrrrrrriiiii py2_0 py2_1 py2_2 py2_3 py2_4 py2_5 (y 3) (y 4) (y 5) (y 6) (y 7) (y 8) (y 9) py2_13 py2_14 py2_15 py2_16 py2_17))] H := hP
      have hD := cpD hP hD
      have b_34 : iv 0 2147483647 a2 := iv_e2 (Int32.not_lt.mp c_25) (iv_c (0 : Int32) (a := 0) (b := 0) (by decide)) (iv_top a2) (by first | decide | omega)
      have b_35 : iv 0 4 a2 := iv_e1 (Int32.not_lt.mp c_26) b_34 (iv_c (4 : Int32) (a := 4) (b := 4) (by decide)) (by first | decide | omega)
      refine lv_if_eq (tgt := 29) hx hb dX9_rows_16 (by decide) (fun c_37 => absurd c_37 (by decide)) (fun _ => ?_)
      refine lv_iload_n hx hb dX9_rows_19 rfl (lv_at hl 3 rfl) ?_
      refine lv_if_lt (tgt := 29) hx hb dX9_rows_20 (by decide) (fun c_38 => ?_) (fun c_38 => ?_)
      · have b_39 : iv (-2147483648) (-1) a3 := iv_l1 c_38 (iv_top a3) (iv_c (0 : Int32) (a := 0) (b := 0) (by decide)) (by first | decide | omega)
        refine lv_ldc2 (v := (-3)) hx hb hown (hg _ q_4_163) dX9_rows_29 ?_
        have z_0 := Int32.lt_iff_toInt_lt.mp hq0
        have z_1 := Int32.le_iff_toInt_le.mp (Int32.not_lt.mp c_7)
        have z_2 := Int32.lt_iff_toInt_lt.mp (Int32.not_le.mp c_8)
        have z_3 := Int32.le_iff_toInt_le.mp (Int32.not_lt.mp c_25)
        have z_4 := Int32.le_iff_toInt_le.mp (Int32.not_lt.mp c_26)
        have z_5 := Int32.lt_iff_toInt_lt.mp c_38
        have k_0 : (0 : Int32).toInt = 0 := (by decide)
        have k_4 : (4 : Int32).toInt = 4 := (by decide)
        exfalso
        have g_0 := hf3
        have g_1 := hf4
        have g_2 := hf5
        have g_3 := hf6
        have g_4 := hf7
        have g_5 := hf8
        omega
      · have b_40 : iv 0 2147483647 a3 := iv_e2 (Int32.not_lt.mp c_38) (iv_c (0 : Int32) (a := 0) (b := 0) (by decide)) (iv_top a3) (by first | decide | omega)
        refine lv_iload_n hx hb dX9_rows_23 rfl (lv_at hl 3 rfl) ?_
        refine lv_bipush (v := 12) hx hb dX9_rows_24 (by decide) ?_
        refine lv_icmp_le (tgt := 33) hx hb dX9_rows_26 (by decide) (fun c_41 => ?_) (fun c_41 => ?_)
        · have b_42 : iv 0 12 a3 := iv_e1 c_41 b_40 (iv_c (12 : Int32) (a := 12) (b := 12) (by decide)) (by first | decide | omega)
          refine lv_aload_n hx hb dX9_rows_33 rfl (lv_at hl 0 rfl) ?_
          refine lv_iload_n hx hb dX9_rows_34 rfl (lv_at hl 3 rfl) ?_
          refine jnR (wr := []) (rnV (rest := []) ⟨hx, hb, hml, hown, hg⟩ (k_X9_waysFromNow_2 l V n L Yw y D9 a3 fy3 fy9 fy20 fy21 fy22 pYw0_0 wa pYw0_5 pYw0_6 wb pYw0_14 pYw0_15 pYw0_16 fYw1 fYw2 fwa fYw4 fYw5 fYw6 fYw7 fYw8 fwb py0_1 o11 py0_12 py0_13 py0_14 py2_0 py2_1 py2_2 py2_3 py2_4 py2_5 py2_13 py2_14 py2_15 py2_16 py2_17 hn hL hq0 tfy20 bpYw0_0 bpYw0_5 bpYw0_6 bpYw0_14 bpYw0_15 bpYw0_16 tfYw1 tfYw4 tfYw5 tfYw6 tfYw7 bpy0_1 bpy0_12 bpy0_13 (iv_w b_18 (by first | decide | omega)) bpy2_2 bpy2_3 bpy2_4 bpy2_5 bpy2_13 bpy2_14 bpy2_15 bpy2_16 bpy2_17 hf0 hf1 hf2 hL9 hK9) mt_X9_waysFromNow q_4_52 ⟨Nat.le_of_ble_eq_true rfl, Nat.le_of_ble_eq_true rfl⟩ hK hP hD hS hA hE [0, 1, 2, 3, 4, 5, 6, 7, 8, 9, 10, 11, 12, 13, 14, 15, 16, 17] rfl rfl 16 rfl rfl rfl rfl hl.1 rfl (Nat.le_of_ble_eq_true rfl) dX9_rows_35 ⟨Nat.le_of_ble_eq_true rfl, Nat.le_of_ble_eq_true rfl⟩) hP hD hS hA [0, 1, 2, 3, 4, 5, 6, 7, 8, 9, 10, 11, 12, 13, 14, 15, 16, 17] [] rfl rfl rfl (by decide) (fun r_43 w H locs hw hP hD hS => ?_)
          refine W.widen (k := 10) (n := 46481) (Nat.le_of_ble_eq_true rfl) (Nat.le_of_ble_eq_true rfl) ?_
          obtain ⟨n, L, Yw, wa_44, wb_45, f_46, f_47, f_48, v_49, v_50, v_51, v_52, v_53, v_54, f_55, f_56, f_57, f_58, f_59, f_60, f_61, f_62, f_63, hn, hL, tf_46, bv_49, bv_50, bv_51, bv_52, bv_53, bv_54, tf_55, tf_58, tf_59, tf_60, tf_61, eW, g_64, g_65, g_66, g_67, g_68, kn_69, rfl⟩ := hw
          have hP : va_P V.1 vwCl [(y 3, aI V 4 fy3), (y 9, aI V 900 fy9), (y 19, .inr (4, o4_rrrrrr (y 2) (y 20) (y 21) (y 22) (y 23) (y 24))), (y 20, aI V 2000 f_46), (y 21, aI V 6 f_47), (y 22, aI V 64 f_48), (y 0, .inr (9, o9_rirrrrrrrrrviii (y 1) py0_1 (y 2) (y 10) (y 19) (y 25) (y 26) (y 30) (y 31) (y 32) (Yw 0) o11 py0_12 py0_13 py0_14)), (y 2, .inr (1, o1_iiiiiirrrrrrriiiii py2_0 py2_1 py2_2 py2_3 py2_4 py2_5 (y 3) (y 4) (y 5) (y 6) (y 7) (y 8) (y 9) py2_13 py2_14 py2_15 py2_16 py2_17)), (Yw 0, .inr (8, o8_iirrriirrrrrrriii v_49 (nI n) (Yw 1) (Yw 2) wa_44 v_50 v_51 (y 19) (Yw 4) (Yw 5) (Yw 6) (Yw 7) (Yw 8) wb_45 v_52 v_53 v_54)), (Yw 1, aI V n f_55), (Yw 2, aI V n f_56), (wa_44, aI V n f_57), (Yw 4, aI V L f_58), (Yw 5, aI V n f_59), (Yw 6, aI V (n * 4) f_60), (Yw 7, aI V n f_61), (Yw 8, aI V 4 f_62), (wb_45, aI V n f_63)] H := hP
          have hD := cpD hP hD
          rw [← eW]
          refine lv_astore (lv' := [(4, .ref (Yw 0)), (0, .ref (y 0)), (1, .int a1), (2, .int a2), (3, .int a3)]) hx hb dX9_rows_38 hl (by decide) rfl (fun ls hl => ?_)
          refine lv_aload hx hb dX9_rows_40 (lv_at hl 0 rfl) ?_
          refine lv_iload_n hx hb dX9_rows_42 rfl (lv_at hl 4 rfl) ?_
          refine lv_iconst (v := 1) hx hb dX9_rows_43 (by decide) ?_
          refine jnV (wr := [(y 3, aI V 4 fy3), (y 9, aI V 900 fy9), (y 19, .inr (4, o4_rrrrrr (y 2) (y 20) (y 21) (y 22) (y 23) (y 24))), (y 20, aI V 2000 f_46), (y 21, aI V 6 f_47), (y 22, aI V 64 f_48), (y 0, .inr (9, o9_rirrrrrrrrrviii (y 1) py0_1 (y 2) (y 10) (y 19) (y 25) (y 26) (y 30) (y 31) (y 32) (Yw 0) o11 py0_12 py0_13 py0_14)), (y 2, .inr (1, o1_iiiiiirrrrrrriiiii py2_0 py2_1 py2_2 py2_3 py2_4 py2_5 (y 3) (y 4) (y 5) (y 6) (y 7) (y 8) (y 9) py2_13 py2_14 py2_15 py2_16 py2_17)), (Yw 1, aI V n f_55), (Yw 4, aI V L f_58), (Yw 5, aI V n f_59), (Yw 7, aI V n f_61), (Yw 8, aI V 4 f_62)]) (rnV (rest := []) ⟨hx, hb, hml, hown, hg⟩ (k_X8_spread_0 l V n Yw y a3 1 v_49 wa_44 v_50 v_51 wb_45 v_52 v_53 v_54 f_56 f_57 f_60 f_63 hn bv_49 bv_50 bv_51 bv_52 bv_53 bv_54 tf_60) mt_X8_spread q_4_164 ⟨Nat.le_of_ble_eq_true rfl, Nat.le_of_ble_eq_true rfl⟩ hK hP hD hS hA hE [8, 10, 11, 14, 17] rfl rfl 8 rfl rfl rfl rfl hl.1 rfl (Nat.le_of_ble_eq_true rfl) dX9_rows_44 ⟨Nat.le_of_ble_eq_true rfl, Nat.le_of_ble_eq_true rfl⟩) hP hD hS hA [8, 10, 11, 14, 17] [0, 1, 2, 3, 4, 5, 6, 7, 9, 12, 13, 15, 16] rfl rfl rfl (by decide) (fun  w H locs hw hP hD hS => ?_)
          obtain ⟨wa_70, wb_71, f_72, f_73, rfl⟩ := hw
          have hP : va_P V.1 vwCl [(y 3, aI V 4 fy3), (y 9, aI V 900 fy9), (y 19, .inr (4, o4_rrrrrr (y 2) (y 20) (y 21) (y 22) (y 23) (y 24))), (y 20, aI V 2000 f_46), (y 21, aI V 6 f_47), (y 22, aI V 64 f_48), (y 0, .inr (9, o9_rirrrrrrrrrviii (y 1) py0_1 (y 2) (y 10) (y 19) (y 25) (y 26) (y 30) (y 31) (y 32) (Yw 0) o11 py0_12 py0_13 py0_14)), (y 2, .inr (1, o1_iiiiiirrrrrrriiiii py2_0 py2_1 py2_2 py2_3 py2_4 py2_5 (y 3) (y 4) (y 5) (y 6) (y 7) (y 8) (y 9) py2_13 py2_14 py2_15 py2_16 py2_17)), (Yw 1, aI V n f_55), (Yw 4, aI V L f_58), (Yw 5, aI V n f_59), (Yw 7, aI V n f_61), (Yw 8, aI V 4 f_62), (Yw 0, .inr (8, o8_iirrriirrrrrrriii v_49 (nI n) (Yw 1) (Yw 2) wa_70 v_50 v_51 (y 19) (Yw 4) (Yw 5) (Yw 6) (Yw 7) (Yw 8) wb_71 v_52 v_53 v_54)), (Yw 2, aI V n f_56), (wa_70, aI V n f_72), (Yw 6, aI V (n * 4) f_60), (wb_71, aI V n f_73)] H := hP
          have hD := cpD hP hD
          refine lv_aload hx hb dX9_rows_47 (lv_at hl 0 rfl) ?_
          refine lv_iload_n hx hb dX9_rows_49 rfl (lv_at hl 2 rfl) ?_
          refine lv_iload_n hx hb dX9_rows_50 rfl (lv_at hl 3 rfl) ?_
          refine lv_iload_n hx hb dX9_rows_51 rfl (lv_at hl 3 rfl) ?_
          refine jnI (wr := [(y 3, aI V 4 fy3), (y 9, aI V 900 fy9), (y 19, .inr (4, o4_rrrrrr (y 2) (y 20) (y 21) (y 22) (y 23) (y 24))), (y 20, aI V 2000 f_46), (y 21, aI V 6 f_47), (y 22, aI V 64 f_48), (y 0, .inr (9, o9_rirrrrrrrrrviii (y 1) py0_1 (y 2) (y 10) (y 19) (y 25) (y 26) (y 30) (y 31) (y 32) (Yw 0) o11 py0_12 py0_13 py0_14)), (y 2, .inr (1, o1_iiiiiirrrrrrriiiii py2_0 py2_1 py2_2 py2_3 py2_4 py2_5 (y 3) (y 4) (y 5) (y 6) (y 7) (y 8) (y 9) py2_13 py2_14 py2_15 py2_16 py2_17)), (Yw 4, aI V L f_58), (Yw 5, aI V n f_59), (Yw 7, aI V n f_61), (Yw 8, aI V 4 f_62), (Yw 2, aI V n f_56), (Yw 6, aI V (n * 4) f_60), (wb_71, aI V n f_73)]) (rnV (rest := []) ⟨hx, hb, hml, hown, hg⟩ (k_X8_weightOf_0 l V n L Yw y a1 a2 a2 v_49 wa_70 v_50 v_51 wb_71 v_52 v_53 v_54 f_55 f_72 hn hL b_17 bv_49 bv_50 bv_51 bv_52 bv_53 bv_54 tf_55) mt_X8_weightOf q_4_186 ⟨Nat.le_of_ble_eq_true rfl, Nat.le_of_ble_eq_true rfl⟩ hK hP hD hS hA hE [13, 8, 15] rfl rfl 13 rfl rfl rfl rfl hl.1 rfl (Nat.le_of_ble_eq_true rfl) dX9_rows_52 ⟨Nat.le_of_ble_eq_true rfl, Nat.le_of_ble_eq_true rfl⟩) hP hD hS hA [13, 8, 15] [0, 1, 2, 3, 4, 5, 6, 7, 9, 10, 11, 12, 14, 16, 17] rfl rfl rfl (by decide) (fun r_74 w H locs hw hP hD hS => ?_)
          subst hw
          have hP : va_P V.1 vwCl [(y 3, aI V 4 fy3), (y 9, aI V 900 fy9), (y 19, .inr (4, o4_rrrrrr (y 2) (y 20) (y 21) (y 22) (y 23) (y 24))), (y 20, aI V 2000 f_46), (y 21, aI V 6 f_47), (y 22, aI V 64 f_48), (y 0, .inr (9, o9_rirrrrrrrrrviii (y 1) py0_1 (y 2) (y 10) (y 19) (y 25) (y 26) (y 30) (y 31) (y 32) (Yw 0) o11 py0_12 py0_13 py0_14)), (y 2, .inr (1, o1_iiiiiirrrrrrriiiii py2_0 py2_1 py2_2 py2_3 py2_4 py2_5 (y 3) (y 4) (y 5) (y 6) (y 7) (y 8) (y 9) py2_13 py2_14 py2_15 py2_16 py2_17)), (Yw 4, aI V L f_58), (Yw 5, aI V n f_59), (Yw 7, aI V n f_61), (Yw 8, aI V 4 f_62), (Yw 2, aI V n f_56), (Yw 6, aI V (n * 4) f_60), (wb_71, aI V n f_73), (Yw 0, .inr (8, o8_iirrriirrrrrrriii v_49 (nI n) (Yw 1) (Yw 2) wa_70 v_50 v_51 (y 19) (Yw 4) (Yw 5) (Yw 6) (Yw 7) (Yw 8) wb_71 v_52 v_53 v_54)), (Yw 1, aI V n f_55), (wa_70, aI V n f_72)] H := hP
          have hD := cpD hP hD
          refine lv_i2l hx hb dX9_rows_55 rfl ?_
          refine lv_topl (fun j_75 ej_75 => ?_)
          have hP := subP (ws' := [(y 0, .inr (9, o9_rirrrrrrrrrviii (y 1) py0_1 (y 2) (y 10) (y 19) (y 25) (y 26) (y 30) (y 31) (y 32) (Yw 0) o11 py0_12 py0_13 py0_14)), (y 2, .inr (1, o1_iiiiiirrrrrrriiiii py2_0 py2_1 py2_2 py2_3 py2_4 py2_5 (y 3) (y 4) (y 5) (y 6) (y 7) (y 8) (y 9) py2_13 py2_14 py2_15 py2_16 py2_17)), (y 3, aI V 4 fy3), (y 9, aI V 900 fy9), (y 19, .inr (4, o4_rrrrrr (y 2) (y 20) (y 21) (y 22) (y 23) (y 24))), (y 20, aI V 2000 f_46), (y 21, aI V 6 f_47), (y 22, aI V 64 f_48), (Yw 0, .inr (8, o8_iirrriirrrrrrriii v_49 (nI n) (Yw 1) (Yw 2) wa_70 v_50 v_51 (y 19) (Yw 4) (Yw 5) (Yw 6) (Yw 7) (Yw 8) wb_71 v_52 v_53 v_54)), (Yw 1, aI V n f_55), (Yw 2, aI V n f_56), (wa_70, aI V n f_72), (Yw 4, aI V L f_58), (Yw 5, aI V n f_59), (Yw 6, aI V (n * 4) f_60), (Yw 7, aI V n f_61), (Yw 8, aI V 4 f_62), (wb_71, aI V n f_73)]) hP [6, 7, 0, 1, 2, 3, 4, 5, 15, 16, 12, 17, 8, 9, 13, 10, 11, 14] rfl
          have hD := subD hP hD [6, 7, 0, 1, 2, 3, 4, 5, 15, 16, 12, 17, 8, 9, 13, 10, 11, 14] rfl rfl
          exact fiL hx hb hr hlk hK (subP (ws' := [(y 0, .inr (9, o9_rirrrrrrrrrviii (y 1) py0_1 (y 2) (y 10) (y 19) (y 25) (y 26) (y 30) (y 31) (y 32) (Yw 0) o11 py0_12 py0_13 py0_14)), (y 2, .inr (1, o1_iiiiiirrrrrrriiiii py2_0 py2_1 py2_2 py2_3 py2_4 py2_5 (y 3) (y 4) (y 5) (y 6) (y 7) (y 8) (y 9) py2_13 py2_14 py2_15 py2_16 py2_17)), (y 3, aI V 4 fy3), (y 9, aI V 900 fy9), (y 19, .inr (4, o4_rrrrrr (y 2) (y 20) (y 21) (y 22) (y 23) (y 24))), (y 20, aI V 2000 f_46), (y 21, aI V 6 f_47), (y 22, aI V 64 f_48), (Yw 0, .inr (8, o8_iirrriirrrrrrriii v_49 (nI n) (Yw 1) (Yw 2) wa_70 v_50 v_51 (y 19) (Yw 4) (Yw 5) (Yw 6) (Yw 7) (Yw 8) wb_71 v_52 v_53 v_54)), (Yw 1, aI V n f_55), (Yw 2, aI V n f_56), (wa_70, aI V n f_72), (Yw 4, aI V L f_58), (Yw 5, aI V n f_59), (Yw 6, aI V (n * 4) f_60), (Yw 7, aI V n f_61), (Yw 8, aI V 4 f_62), (wb_71, aI V n f_73)]) hP [0, 1, 2, 3, 4, 5, 6, 7, 8, 9, 10, 11, 12, 13, 14, 15, 16, 17] rfl) (hD.sub [0, 1, 2, 3, 4, 5, 6, 7, 8, 9, 10, 11, 12, 13, 14, 15, 16, 17] rfl rfl) hS dX9_rows_56 (Nat.le_of_ble_eq_true rfl) (Nat.le_of_ble_eq_true rfl) (⟨n, L, Yw, wa_70, wb_71, f_46, f_47, f_48, v_49, v_50, v_51, v_52, v_53, v_54, f_55, f_56, f_72, f_58, f_59, f_60, f_61, f_62, f_73, hn, hL, tf_46, bv_49, bv_50, bv_51, bv_52, bv_53, bv_54, tf_55, tf_58, tf_59, tf_60, tf_61, g_64, g_65, g_66, g_68, kn_69, rfl⟩)
        · have b_76 : iv 13 2147483647 a3 := iv_l2 (Int32.not_le.mp c_41) (iv_c (12 : Int32) (a := 12) (b := 12) (by decide)) b_40 (by first | decide | omega)
          refine lv_ldc2 (v := (-3)) hx hb hown (hg _ q_4_163) dX9_rows_29 ?_
          have z_0 := Int32.lt_iff_toInt_lt.mp hq0
          have z_1 := Int32.le_iff_toInt_le.mp (Int32.not_lt.mp c_7)
          have z_2 := Int32.lt_iff_toInt_lt.mp (Int32.not_le.mp c_8)
          have z_3 := Int32.le_iff_toInt_le.mp (Int32.not_lt.mp c_25)
          have z_4 := Int32.le_iff_toInt_le.mp (Int32.not_lt.mp c_26)
          have z_5 := Int32.le_iff_toInt_le.mp (Int32.not_lt.mp c_38)
          have z_6 := Int32.lt_iff_toInt_lt.mp (Int32.not_le.mp c_41)
          have k_0 : (0 : Int32).toInt = 0 := (by decide)
          have k_4 : (4 : Int32).toInt = 4 := (by decide)
          have k_12 : (12 : Int32).toInt = 12 := (by decide)
          exfalso
          have g_0 := hf3
          have g_1 := hf4
          have g_2 := hf5
          have g_3 := hf6
          have g_4 := hf7
          have g_5 := hf8
          omega
set_option maxHeartbeats 4000000 in
set_option maxRecDepth 100000 in
theorem k_X9_keeps_1 (l : Launch) (V : GV) (y : Nat → Nat) (a1 : Int32) (hf0 : ¬ (0 ≤ (a1 : Int32).toInt ∧ (a1 : Int32).toInt ≤ 4)) : Ct l V yX9_keeps (.code yX9_keeps cX9_keeps 2 (some .int)) 2 [.ref (y 0), .int a1] [] 0 0 (QI V (fun (r : Int32) (w : va_W) => r = (-3) ∧ w = [])) := by
  refine Ct.of (by decide) (Nat.le_of_ble_eq_true rfl) (fun p e s m below meth c A ls hx hb hr hml hown hlk hnm hg hP hK hD hE hA hS hl => ?_)
  have hl : lv_has ls 2 [(0, .ref (y 0)), (1, .int a1)] := hl
  refine lv_iload_n hx hb dX9_keeps_0 rfl (lv_at hl 1 rfl) ?_
  refine jnI (wr := []) (rnS (rest := []) ⟨hx, hb, hml, hown, hg⟩ (k_X9_isHeight_0 l V a1) mt_X9_isHeight q_4_49 ⟨Nat.le_of_ble_eq_true rfl, Nat.le_of_ble_eq_true rfl⟩ hK hP hD hS hA hE [] rfl rfl rfl hl.1 rfl (Nat.le_of_ble_eq_true rfl) dX9_keeps_1 ⟨Nat.le_of_ble_eq_true rfl, Nat.le_of_ble_eq_true rfl⟩) hP hD hS hA [] [] rfl rfl rfl (by decide) (fun r_1 w H locs hw hP hD hS => ?_)
  rcases hw with ⟨c_2, rfl, rfl⟩ | ⟨c_3, c_4, rfl, rfl⟩ | ⟨c_5, c_6, rfl, rfl⟩
  · have hP : va_P V.1 vwCl [] H := hP
    have hD := cpD hP hD
    have b_7 : iv (-2147483648) (-1) a1 := iv_l1 c_2 (iv_top a1) (iv_c (0 : Int32) (a := 0) (b := 0) (by decide)) (by decide)
    refine lv_if_eq (tgt := 21) hx hb dX9_keeps_4 (by decide) (fun _ => ?_) (fun c_9 => absurd c_9 (by decide))
    refine lv_bipush (v := (-3)) hx hb dX9_keeps_21 (by decide) ?_
    exact fiI hx hb hr hlk hK hP hD hS dX9_keeps_23 (Nat.le_of_ble_eq_true rfl) (Nat.le_of_ble_eq_true rfl) (⟨rfl, rfl⟩)
  · have hP : va_P V.1 vwCl [] H := hP
    have hD := cpD hP hD
    have b_10 : iv 0 2147483647 a1 := iv_e2 (Int32.not_lt.mp c_3) (iv_c (0 : Int32) (a := 0) (b := 0) (by decide)) (iv_top a1) (by decide)
    have b_11 : iv 5 2147483647 a1 := iv_l2 c_4 (iv_c (4 : Int32) (a := 4) (b := 4) (by decide)) b_10 (by decide)
    refine lv_if_eq (tgt := 21) hx hb dX9_keeps_4 (by decide) (fun _ => ?_) (fun c_13 => absurd c_13 (by decide))
    refine lv_bipush (v := (-3)) hx hb dX9_keeps_21 (by decide) ?_
    exact fiI hx hb hr hlk hK hP hD hS dX9_keeps_23 (Nat.le_of_ble_eq_true rfl) (Nat.le_of_ble_eq_true rfl) (⟨rfl, rfl⟩)
  · have hP : va_P V.1 vwCl [] H := hP
    have hD := cpD hP hD
    have b_14 : iv 0 2147483647 a1 := iv_e2 (Int32.not_lt.mp c_5) (iv_c (0 : Int32) (a := 0) (b := 0) (by decide)) (iv_top a1) (by decide)
    have b_15 : iv 0 4 a1 := iv_e1 (Int32.not_lt.mp c_6) b_14 (iv_c (4 : Int32) (a := 4) (b := 4) (by decide)) (by decide)
    refine lv_if_eq (tgt := 21) hx hb dX9_keeps_4 (by decide) (fun c_17 => absurd c_17 (by decide)) (fun _ => ?_)
    refine lv_aload_n hx hb dX9_keeps_7 rfl (lv_at hl 0 rfl) ?_
    refine lv_ldcw (v := 1000000) hx hb hown (hg _ q_4_194) dX9_keeps_8 ?_
    have z_0 := Int32.le_iff_toInt_le.mp (Int32.not_lt.mp c_5)
    have z_1 := Int32.le_iff_toInt_le.mp (Int32.not_lt.mp c_6)
    have k_0 : (0 : Int32).toInt = 0 := (by decide)
    have k_4 : (4 : Int32).toInt = 4 := (by decide)
    exact absurd (⟨by omega, by omega⟩) hf0
set_option maxHeartbeats 4000000 in
set_option maxRecDepth 100000 in
theorem k_X9_keeps_2 (l : Launch) (V : GV) (y : Nat → Nat) (D9 : Nat → Int32) (a1 : Int32) (py0_1 : Int32) (o11 : Value) (py0_12 : Int32) (py0_13 : Int32) (py0_14 : Int32) (py2_0 : Int32) (py2_1 : Int32) (py2_2 : Int32) (py2_3 : Int32) (py2_4 : Int32) (py2_5 : Int32) (py2_13 : Int32) (py2_14 : Int32) (py2_15 : Int32) (py2_16 : Int32) (py2_17 : Int32) (fy3 : Nat → Int32) (fy9 : Nat → Int32) (fy20 : Nat → Int32) (fy21 : Nat → Int32) (fy22 : Nat → Int32) (bpy0_1 : iv 0 900 py0_1) (bpy0_12 : iv 0 9999 py0_12) (bpy0_13 : iv 0 9 py0_13) (bpy2_1 : iv 0 4 py2_1) (bpy2_2 : iv 0 4 py2_2) (bpy2_3 : iv 0 8 py2_3) (bpy2_4 : iv 0 9999 py2_4) (bpy2_5 : iv 0 9 py2_5) (bpy2_13 : iv 0 900 py2_13) (bpy2_14 : iv 0 900 py2_14) (bpy2_15 : iv 0 900 py2_15) (bpy2_16 : iv 0 900 py2_16) (bpy2_17 : iv 0 900 py2_17) (tfy20 : ∀ j, iv 0 10 (fy20 j)) (hf0 : 0 ≤ (a1 : Int32).toInt) (hf1 : (a1 : Int32).toInt ≤ 4) (hL9 : LW D9 fy3 fy9 py2_14 py2_15 py2_16 py2_17) (hK9 : KN D9 fy20) : Ct l V yX9_keeps (.code yX9_keeps cX9_keeps 2 (some .int)) 8 [.ref (y 0), .int a1] [(y 0, .inr (9, o9_rirrrrrrrrnviii (y 1) py0_1 (y 2) (y 10) (y 19) (y 25) (y 26) (y 30) (y 31) (y 32) o11 py0_12 py0_13 py0_14)), (y 2, .inr (1, o1_iiiiiirrrrrrriiiii py2_0 py2_1 py2_2 py2_3 py2_4 py2_5 (y 3) (y 4) (y 5) (y 6) (y 7) (y 8) (y 9) py2_13 py2_14 py2_15 py2_16 py2_17)), (y 3, aI V 4 fy3), (y 9, aI V 900 fy9), (y 19, .inr (4, o4_rrrrrr (y 2) (y 20) (y 21) (y 22) (y 23) (y 24))), (y 20, aI V 2000 fy20), (y 21, aI V 6 fy21), (y 22, aI V 64 fy22)] 10 46481 (QI V (fun (r : Int32) (w : va_W) => ∃ (n : Nat) (L : Nat) (Yw : Nat → Nat) (wa : Nat) (wb : Nat) (g0 : Nat → Int32) (g1 : Nat → Int32) (g2 : Nat → Int32) (ww0 : Int32) (ww5 : Int32) (ww6 : Int32) (ww14 : Int32) (ww15 : Int32) (ww16 : Int32) (wew1 : Nat → Int32) (wew2 : Nat → Int32) (wew3 : Nat → Int32) (wew4 : Nat → Int32) (wew5 : Nat → Int32) (wew6 : Nat → Int32) (wew7 : Nat → Int32) (wew8 : Nat → Int32) (wew9 : Nat → Int32), (1 ≤ n ∧ n ≤ 3646) ∧ (1 ≤ L ∧ L ≤ 10000) ∧ (∀ j, iv 0 10 (g0 j)) ∧ iv 0 4 ww0 ∧ iv 0 ((n : Int)) ww5 ∧ iv 0 4 ww6 ∧ iv 0 4 ww14 ∧ iv 0 9 ww15 ∧ iv 0 ((n : Int)) ww16 ∧ (∀ j, iv 0 ((L : Int) - 1) (wew1 j)) ∧ (∀ j, iv 0 ((n : Int)) (wew4 j)) ∧ (∀ j, iv 0 (4 * (n : Int) - 1) (wew5 j)) ∧ (∀ j, iv 0 ((n : Int) - 1) (wew6 j)) ∧ (∀ j, iv 0 ((n : Int) - 1) (wew7 j)) ∧ (WA ww5 wew4 wew1) ∧ (WB ww16 ww6 ww5 wew6) ∧ (WC ww5 wew2) ∧ (ww0 = py2_1) ∧ KN D9 g0 ∧ w = [(y 0, .inr (9, o9_rirrrrrrrrrviii (y 1) py0_1 (y 2) (y 10) (y 19) (y 25) (y 26) (y 30) (y 31) (y 32) (Yw 0) o11 py0_12 py0_13 py0_14)), (y 2, .inr (1, o1_iiiiiirrrrrrriiiii py2_0 py2_1 py2_2 py2_3 py2_4 py2_5 (y 3) (y 4) (y 5) (y 6) (y 7) (y 8) (y 9) py2_13 py2_14 py2_15 py2_16 py2_17)), (y 3, aI V 4 fy3), (y 9, aI V 900 fy9), (y 19, .inr (4, o4_rrrrrr (y 2) (y 20) (y 21) (y 22) (y 23) (y 24))), (y 20, aI V 2000 g0), (y 21, aI V 6 g1), (y 22, aI V 64 g2), (Yw 0, .inr (8, o8_iirrriirrrrrrriii ww0 (nI n) (Yw 1) (Yw 2) wa ww5 ww6 (y 19) (Yw 4) (Yw 5) (Yw 6) (Yw 7) (Yw 8) wb ww14 ww15 ww16)), (Yw 1, aI V n wew1), (Yw 2, aI V n wew2), (wa, aI V n wew3), (Yw 4, aI V L wew4), (Yw 5, aI V n wew5), (Yw 6, aI V (n * 4) wew6), (Yw 7, aI V n wew7), (Yw 8, aI V 4 wew8), (wb, aI V n wew9)])) := by
  refine Ct.of (by decide) (Nat.le_of_ble_eq_true rfl) (fun p e s m below meth c A ls hx hb hr hml hown hlk hnm hg hP hK hD hE hA hS hl => ?_)
  have hl : lv_has ls 2 [(0, .ref (y 0)), (1, .int a1)] := hl
  refine lv_iload_n hx hb dX9_keeps_0 rfl (lv_at hl 1 rfl) ?_
  refine jnI (wr := [(y 0, .inr (9, o9_rirrrrrrrrnviii (y 1) py0_1 (y 2) (y 10) (y 19) (y 25) (y 26) (y 30) (y 31) (y 32) o11 py0_12 py0_13 py0_14)), (y 2, .inr (1, o1_iiiiiirrrrrrriiiii py2_0 py2_1 py2_2 py2_3 py2_4 py2_5 (y 3) (y 4) (y 5) (y 6) (y 7) (y 8) (y 9) py2_13 py2_14 py2_15 py2_16 py2_17)), (y 3, aI V 4 fy3), (y 9, aI V 900 fy9), (y 19, .inr (4, o4_rrrrrr (y 2) (y 20) (y 21) (y 22) (y 23) (y 24))), (y 20, aI V 2000 fy20), (y 21, aI V 6 fy21), (y 22, aI V 64 fy22)]) (rnS (rest := []) ⟨hx, hb, hml, hown, hg⟩ (k_X9_isHeight_0 l V a1) mt_X9_isHeight q_4_49 ⟨Nat.le_of_ble_eq_true rfl, Nat.le_of_ble_eq_true rfl⟩ hK hP hD hS hA hE [] rfl rfl rfl hl.1 rfl (Nat.le_of_ble_eq_true rfl) dX9_keeps_1 ⟨Nat.le_of_ble_eq_true rfl, Nat.le_of_ble_eq_true rfl⟩) hP hD hS hA [] [0, 1, 2, 3, 4, 5, 6, 7] rfl rfl rfl (by decide) (fun r_1 w H locs hw hP hD hS => ?_)
  rcases hw with ⟨c_2, rfl, rfl⟩ | ⟨c_3, c_4, rfl, rfl⟩ | ⟨c_5, c_6, rfl, rfl⟩
  · have hP : va_P V.1 vwCl [(y 0, .inr (9, o9_rirrrrrrrrnviii (y 1) py0_1 (y 2) (y 10) (y 19) (y 25) (y 26) (y 30) (y 31) (y 32) o11 py0_12 py0_13 py0_14)), (y 2, .inr (1, o1_iiiiiirrrrrrriiiii py2_0 py2_1 py2_2 py2_3 py2_4 py2_5 (y 3) (y 4) (y 5) (y 6) (y 7) (y 8) (y 9) py2_13 py2_14 py2_15 py2_16 py2_17)), (y 3, aI V 4 fy3), (y 9, aI V 900 fy9), (y 19, .inr (4, o4_rrrrrr (y 2) (y 20) (y 21) (y 22) (y 23) (y 24))), (y 20, aI V 2000 fy20), (y 21, aI V 6 fy21), (y 22, aI V 64 fy22)] H := hP
    have hD := cpD hP hD
    have b_7 : iv (-2147483648) (-1) a1 := iv_l1 c_2 (iv_top a1) (iv_c (0 : Int32) (a := 0) (b := 0) (by decide)) (by first | decide | omega)
    refine lv_if_eq (tgt := 21) hx hb dX9_keeps_4 (by decide) (fun _ => ?_) (fun c_9 => absurd c_9 (by decide))
    refine lv_bipush (v := (-3)) hx hb dX9_keeps_21 (by decide) ?_
    have z_0 := Int32.lt_iff_toInt_lt.mp c_2
    have k_0 : (0 : Int32).toInt = 0 := (by decide)
    exfalso
    have g_0 := hf0
    have g_1 := hf1
    omega
  · have hP : va_P V.1 vwCl [(y 0, .inr (9, o9_rirrrrrrrrnviii (y 1) py0_1 (y 2) (y 10) (y 19) (y 25) (y 26) (y 30) (y 31) (y 32) o11 py0_12 py0_13 py0_14)), (y 2, .inr (1, o1_iiiiiirrrrrrriiiii py2_0 py2_1 py2_2 py2_3 py2_4 py2_5 (y 3) (y 4) (y 5) (y 6) (y 7) (y 8) (y 9) py2_13 py2_14 py2_15 py2_16 py2_17)), (y 3, aI V 4 fy3), (y 9, aI V 900 fy9), (y 19, .inr (4, o4_rrrrrr (y 2) (y 20) (y 21) (y 22) (y 23) (y 24))), (y 20, aI V 2000 fy20), (y 21, aI V 6 fy21), (y 22, aI V 64 fy22)] H := hP
    have hD := cpD hP hD
    have b_10 : iv 0 2147483647 a1 := iv_e2 (Int32.not_lt.mp c_3) (iv_c (0 : Int32) (a := 0) (b := 0) (by decide)) (iv_top a1) (by first | decide | omega)
    have b_11 : iv 5 2147483647 a1 := iv_l2 c_4 (iv_c (4 : Int32) (a := 4) (b := 4) (by decide)) b_10 (by first | decide | omega)
    refine lv_if_eq (tgt := 21) hx hb dX9_keeps_4 (by decide) (fun _ => ?_) (fun c_13 => absurd c_13 (by decide))
    refine lv_bipush (v := (-3)) hx hb dX9_keeps_21 (by decide) ?_
    have z_0 := Int32.le_iff_toInt_le.mp (Int32.not_lt.mp c_3)
    have z_1 := Int32.lt_iff_toInt_lt.mp c_4
    have k_0 : (0 : Int32).toInt = 0 := (by decide)
    have k_4 : (4 : Int32).toInt = 4 := (by decide)
    exfalso
    have g_0 := hf0
    have g_1 := hf1
    omega
  · have hP : va_P V.1 vwCl [(y 0, .inr (9, o9_rirrrrrrrrnviii (y 1) py0_1 (y 2) (y 10) (y 19) (y 25) (y 26) (y 30) (y 31) (y 32) o11 py0_12 py0_13 py0_14)), (y 2, .inr (1, o1_iiiiiirrrrrrriiiii py2_0 py2_1 py2_2 py2_3 py2_4 py2_5 (y 3) (y 4) (y 5) (y 6) (y 7) (y 8) (y 9) py2_13 py2_14 py2_15 py2_16 py2_17)), (y 3, aI V 4 fy3), (y 9, aI V 900 fy9), (y 19, .inr (4, o4_rrrrrr (y 2) (y 20) (y 21) (y 22) (y 23) (y 24))), (y 20, aI V 2000 fy20), (y 21, aI V 6 fy21), (y 22, aI V 64 fy22)] H := hP
    have hD := cpD hP hD
    have b_14 : iv 0 2147483647 a1 := iv_e2 (Int32.not_lt.mp c_5) (iv_c (0 : Int32) (a := 0) (b := 0) (by decide)) (iv_top a1) (by first | decide | omega)
    have b_15 : iv 0 4 a1 := iv_e1 (Int32.not_lt.mp c_6) b_14 (iv_c (4 : Int32) (a := 4) (b := 4) (by decide)) (by first | decide | omega)
    refine lv_if_eq (tgt := 21) hx hb dX9_keeps_4 (by decide) (fun c_17 => absurd c_17 (by decide)) (fun _ => ?_)
    refine lv_aload_n hx hb dX9_keeps_7 rfl (lv_at hl 0 rfl) ?_
    refine lv_ldcw (v := 1000000) hx hb hown (hg _ q_4_194) dX9_keeps_8 ?_
    refine jnR (wr := []) (rnV (rest := []) ⟨hx, hb, hml, hown, hg⟩ (k_X9_waysFromNow_1 l V y D9 1000000 fy3 fy9 fy20 fy21 fy22 py0_1 o11 py0_12 py0_13 py0_14 py2_0 py2_1 py2_2 py2_3 py2_4 py2_5 py2_13 py2_14 py2_15 py2_16 py2_17 tfy20 bpy0_1 bpy0_12 bpy0_13 bpy2_1 bpy2_2 bpy2_3 bpy2_4 bpy2_5 bpy2_13 bpy2_14 bpy2_15 bpy2_16 bpy2_17 hL9 hK9) mt_X9_waysFromNow q_4_52 ⟨Nat.le_of_ble_eq_true rfl, Nat.le_of_ble_eq_true rfl⟩ hK hP hD hS hA hE [2, 3, 4, 5, 6, 7, 0, 1] rfl rfl 0 rfl rfl rfl rfl hl.1 rfl (Nat.le_of_ble_eq_true rfl) dX9_keeps_11 ⟨Nat.le_of_ble_eq_true rfl, Nat.le_of_ble_eq_true rfl⟩) hP hD hS hA [2, 3, 4, 5, 6, 7, 0, 1] [] rfl rfl rfl (by decide) (fun r_18 w H locs hw hP hD hS => ?_)
    refine W.widen (k := 10) (n := 46481) (Nat.le_of_ble_eq_true rfl) (Nat.le_of_ble_eq_true rfl) ?_
    obtain ⟨n, L, Yw, wa_19, wb_20, f_21, f_22, f_23, v_24, v_25, v_26, v_27, v_28, v_29, f_30, f_31, f_32, f_33, f_34, f_35, f_36, f_37, f_38, hn, hL, tf_21, bv_24, bv_25, bv_26, bv_27, bv_28, bv_29, tf_30, tf_33, tf_34, tf_35, tf_36, eW, g_39, g_40, g_41, g_42, g_43, kn_44, rfl⟩ := hw
    have hP : va_P V.1 vwCl [(y 3, aI V 4 fy3), (y 9, aI V 900 fy9), (y 19, .inr (4, o4_rrrrrr (y 2) (y 20) (y 21) (y 22) (y 23) (y 24))), (y 20, aI V 2000 f_21), (y 21, aI V 6 f_22), (y 22, aI V 64 f_23), (y 0, .inr (9, o9_rirrrrrrrrrviii (y 1) py0_1 (y 2) (y 10) (y 19) (y 25) (y 26) (y 30) (y 31) (y 32) (Yw 0) o11 py0_12 py0_13 py0_14)), (y 2, .inr (1, o1_iiiiiirrrrrrriiiii py2_0 py2_1 py2_2 py2_3 py2_4 py2_5 (y 3) (y 4) (y 5) (y 6) (y 7) (y 8) (y 9) py2_13 py2_14 py2_15 py2_16 py2_17)), (Yw 0, .inr (8, o8_iirrriirrrrrrriii v_24 (nI n) (Yw 1) (Yw 2) wa_19 v_25 v_26 (y 19) (Yw 4) (Yw 5) (Yw 6) (Yw 7) (Yw 8) wb_20 v_27 v_28 v_29)), (Yw 1, aI V n f_30), (Yw 2, aI V n f_31), (wa_19, aI V n f_32), (Yw 4, aI V L f_33), (Yw 5, aI V n f_34), (Yw 6, aI V (n * 4) f_35), (Yw 7, aI V n f_36), (Yw 8, aI V 4 f_37), (wb_20, aI V n f_38)] H := hP
    have hD := cpD hP hD
    rw [← eW]
    refine lv_iload_n hx hb dX9_keeps_14 rfl (lv_at hl 1 rfl) ?_
    refine jnI (wr := [(y 0, .inr (9, o9_rirrrrrrrrrviii (y 1) py0_1 (y 2) (y 10) (y 19) (y 25) (y 26) (y 30) (y 31) (y 32) (Yw 0) o11 py0_12 py0_13 py0_14))]) (rnV (rest := []) ⟨hx, hb, hml, hown, hg⟩ (k_X8_longestAbove_0 l V n L Yw y D9 a1 py2_0 py2_1 py2_2 py2_3 py2_4 py2_5 py2_13 py2_14 py2_15 py2_16 py2_17 fy3 fy9 f_21 f_22 f_23 v_24 wa_19 v_25 v_26 wb_20 v_27 v_28 v_29 f_30 f_31 f_32 f_33 f_34 f_35 f_36 f_37 f_38 hn hL bpy2_1 bpy2_2 bpy2_3 bpy2_4 bpy2_5 bpy2_13 bpy2_14 bpy2_15 bpy2_16 bpy2_17 tf_21 bv_24 bv_25 bv_26 bv_27 bv_28 bv_29 tf_30 tf_33 tf_34 tf_35 tf_36 g_39 g_40 g_41 hL9 kn_44) mt_X8_longestAbove q_4_195 ⟨Nat.le_of_ble_eq_true rfl, Nat.le_of_ble_eq_true rfl⟩ hK hP hD hS hA hE [7, 0, 1, 2, 3, 4, 5, 8, 9, 10, 11, 12, 13, 14, 15, 16, 17] rfl rfl 8 rfl rfl rfl rfl hl.1 rfl (Nat.le_of_ble_eq_true rfl) dX9_keeps_15 ⟨Nat.le_of_ble_eq_true rfl, Nat.le_of_ble_eq_true rfl⟩) hP hD hS hA [7, 0, 1, 2, 3, 4, 5, 8, 9, 10, 11, 12, 13, 14, 15, 16, 17] [6] rfl rfl rfl (by decide) (fun r_45 w H locs hw hP hD hS => ?_)
    obtain ⟨f_46, f_47, f_48, v_49, v_50, f_51, f_52, f_53, f_54, f_55, f_56, f_57, f_58, f_59, tf_46, bv_49, bv_50, tf_51, tf_54, tf_55, tf_56, tf_57, g_60, g_61, g_62, kn_63, rfl⟩ := hw
    have hP : va_P V.1 vwCl [(y 0, .inr (9, o9_rirrrrrrrrrviii (y 1) py0_1 (y 2) (y 10) (y 19) (y 25) (y 26) (y 30) (y 31) (y 32) (Yw 0) o11 py0_12 py0_13 py0_14)), (y 2, .inr (1, o1_iiiiiirrrrrrriiiii py2_0 py2_1 py2_2 py2_3 py2_4 py2_5 (y 3) (y 4) (y 5) (y 6) (y 7) (y 8) (y 9) py2_13 py2_14 py2_15 py2_16 py2_17)), (y 3, aI V 4 fy3), (y 9, aI V 900 fy9), (y 19, .inr (4, o4_rrrrrr (y 2) (y 20) (y 21) (y 22) (y 23) (y 24))), (y 20, aI V 2000 f_46), (y 21, aI V 6 f_47), (y 22, aI V 64 f_48), (Yw 0, .inr (8, o8_iirrriirrrrrrriii v_24 (nI n) (Yw 1) (Yw 2) wa_19 v_49 v_26 (y 19) (Yw 4) (Yw 5) (Yw 6) (Yw 7) (Yw 8) wb_20 v_27 v_28 v_50)), (Yw 1, aI V n f_51), (Yw 2, aI V n f_52), (wa_19, aI V n f_53), (Yw 4, aI V L f_54), (Yw 5, aI V n f_55), (Yw 6, aI V (n * 4) f_56), (Yw 7, aI V n f_57), (Yw 8, aI V 4 f_58), (wb_20, aI V n f_59)] H := hP
    have hD := cpD hP hD
    refine lv_goto (tgt := 23) hx hb dX9_keeps_18 (by decide) ?_
    exact fiI hx hb hr hlk hK (subP (ws' := [(y 0, .inr (9, o9_rirrrrrrrrrviii (y 1) py0_1 (y 2) (y 10) (y 19) (y 25) (y 26) (y 30) (y 31) (y 32) (Yw 0) o11 py0_12 py0_13 py0_14)), (y 2, .inr (1, o1_iiiiiirrrrrrriiiii py2_0 py2_1 py2_2 py2_3 py2_4 py2_5 (y 3) (y 4) (y 5) (y 6) (y 7) (y 8) (y 9) py2_13 py2_14 py2_15 py2_16 py2_17)), (y 3, aI V 4 fy3), (y 9, aI V 900 fy9), (y 19, .inr (4, o4_rrrrrr (y 2) (y 20) (y 21) (y 22) (y 23) (y 24))), (y 20, aI V 2000 f_46), (y 21, aI V 6 f_47), (y 22, aI V 64 f_48), (Yw 0, .inr (8, o8_iirrriirrrrrrriii v_24 (nI n) (Yw 1) (Yw 2) wa_19 v_49 v_26 (y 19) (Yw 4) (Yw 5) (Yw 6) (Yw 7) (Yw 8) wb_20 v_27 v_28 v_50)), (Yw 1, aI V n f_51), (Yw 2, aI V n f_52), (wa_19, aI V n f_53), (Yw 4, aI V L f_54), (Yw 5, aI V n f_55), (Yw 6, aI V (n * 4) f_56), (Yw 7, aI V n f_57), (Yw 8, aI V 4 f_58), (wb_20, aI V n f_59)]) hP [0, 1, 2, 3, 4, 5, 6, 7, 8, 9, 10, 11, 12, 13, 14, 15, 16, 17] rfl) (hD.sub [0, 1, 2, 3, 4, 5, 6, 7, 8, 9, 10, 11, 12, 13, 14, 15, 16, 17] rfl rfl) hS dX9_keeps_23 (Nat.le_of_ble_eq_true rfl) (Nat.le_of_ble_eq_true rfl) (⟨n, L, Yw, wa_19, wb_20, f_46, f_47, f_48, v_24, v_49, v_26, v_27, v_28, v_50, f_51, f_52, f_53, f_54, f_55, f_56, f_57, f_58, f_59, hn, hL, tf_46, bv_24, bv_49, bv_26, bv_27, bv_28, bv_50, tf_51, tf_54, tf_55, tf_56, tf_57, g_60, g_61, g_62, g_43, kn_63, rfl⟩)
set_option maxHeartbeats 4000000 in
set_option maxRecDepth 100000 in
theorem k_X9_keeps_3 (l : Launch) (V : GV) (n : Nat) (L : Nat) (Yw : Nat → Nat) (y : Nat → Nat) (D9 : Nat → Int32) (a1 : Int32) (py0_1 : Int32) (o11 : Value) (py0_12 : Int32) (py0_13 : Int32) (py0_14 : Int32) (py2_0 : Int32) (py2_1 : Int32) (py2_2 : Int32) (py2_3 : Int32) (py2_4 : Int32) (py2_5 : Int32) (py2_13 : Int32) (py2_14 : Int32) (py2_15 : Int32) (py2_16 : Int32) (py2_17 : Int32) (fy3 : Nat → Int32) (fy9 : Nat → Int32) (fy20 : Nat → Int32) (fy21 : Nat → Int32) (fy22 : Nat → Int32) (pYw0_0 : Int32) (wa : Nat) (pYw0_5 : Int32) (pYw0_6 : Int32) (wb : Nat) (pYw0_14 : Int32) (pYw0_15 : Int32) (pYw0_16 : Int32) (fYw1 : Nat → Int32) (fYw2 : Nat → Int32) (fwa : Nat → Int32) (fYw4 : Nat → Int32) (fYw5 : Nat → Int32) (fYw6 : Nat → Int32) (fYw7 : Nat → Int32) (fYw8 : Nat → Int32) (fwb : Nat → Int32) (hn : 1 ≤ n ∧ n ≤ 3646) (hL : 1 ≤ L ∧ L ≤ 10000) (hq0 : pYw0_0 < py2_1) (bpy0_1 : iv 0 900 py0_1) (bpy0_12 : iv 0 9999 py0_12) (bpy0_13 : iv 0 9 py0_13) (bpy2_1 : iv 0 4 py2_1) (bpy2_2 : iv 0 4 py2_2) (bpy2_3 : iv 0 8 py2_3) (bpy2_4 : iv 0 9999 py2_4) (bpy2_5 : iv 0 9 py2_5) (bpy2_13 : iv 0 900 py2_13) (bpy2_14 : iv 0 900 py2_14) (bpy2_15 : iv 0 900 py2_15) (bpy2_16 : iv 0 900 py2_16) (bpy2_17 : iv 0 900 py2_17) (tfy20 : ∀ j, iv 0 10 (fy20 j)) (bpYw0_0 : iv 0 4 pYw0_0) (bpYw0_5 : iv 0 ((n : Int)) pYw0_5) (bpYw0_6 : iv 0 4 pYw0_6) (bpYw0_14 : iv 0 4 pYw0_14) (bpYw0_15 : iv 0 9 pYw0_15) (bpYw0_16 : iv 0 ((n : Int)) pYw0_16) (tfYw1 : ∀ j, iv 0 ((L : Int) - 1) (fYw1 j)) (tfYw4 : ∀ j, iv 0 ((n : Int)) (fYw4 j)) (tfYw5 : ∀ j, iv 0 (4 * (n : Int) - 1) (fYw5 j)) (tfYw6 : ∀ j, iv 0 ((n : Int) - 1) (fYw6 j)) (tfYw7 : ∀ j, iv 0 ((n : Int) - 1) (fYw7 j)) (hf0 : WA pYw0_5 fYw4 fYw1) (hf1 : WB pYw0_16 pYw0_6 pYw0_5 fYw6) (hf2 : WC pYw0_5 fYw2) (hf3 : 0 ≤ (a1 : Int32).toInt) (hf4 : (a1 : Int32).toInt ≤ 4) (hL9 : LW D9 fy3 fy9 py2_14 py2_15 py2_16 py2_17) (hK9 : KN D9 fy20) : Ct l V yX9_keeps (.code yX9_keeps cX9_keeps 2 (some .int)) 8 [.ref (y 0), .int a1] [(y 0, .inr (9, o9_rirrrrrrrrrviii (y 1) py0_1 (y 2) (y 10) (y 19) (y 25) (y 26) (y 30) (y 31) (y 32) (Yw 0) o11 py0_12 py0_13 py0_14)), (y 2, .inr (1, o1_iiiiiirrrrrrriiiii py2_0 py2_1 py2_2 py2_3 py2_4 py2_5 (y 3) (y 4) (y 5) (y 6) (y 7) (y 8) (y 9) py2_13 py2_14 py2_15 py2_16 py2_17)), (y 3, aI V 4 fy3), (y 9, aI V 900 fy9), (y 19, .inr (4, o4_rrrrrr (y 2) (y 20) (y 21) (y 22) (y 23) (y 24))), (y 20, aI V 2000 fy20), (y 21, aI V 6 fy21), (y 22, aI V 64 fy22), (Yw 0, .inr (8, o8_iirrriirrrrrrriii pYw0_0 (nI n) (Yw 1) (Yw 2) wa pYw0_5 pYw0_6 (y 19) (Yw 4) (Yw 5) (Yw 6) (Yw 7) (Yw 8) wb pYw0_14 pYw0_15 pYw0_16)), (Yw 1, aI V n fYw1), (Yw 2, aI V n fYw2), (wa, aI V n fwa), (Yw 4, aI V L fYw4), (Yw 5, aI V n fYw5), (Yw 6, aI V (n * 4) fYw6), (Yw 7, aI V n fYw7), (Yw 8, aI V 4 fYw8), (wb, aI V n fwb)] 10 46481 (QI V (fun (r : Int32) (w : va_W) => ∃ (n : Nat) (L : Nat) (Yw : Nat → Nat) (wa : Nat) (wb : Nat) (g0 : Nat → Int32) (g1 : Nat → Int32) (g2 : Nat → Int32) (ww0 : Int32) (ww5 : Int32) (ww6 : Int32) (ww14 : Int32) (ww15 : Int32) (ww16 : Int32) (wew1 : Nat → Int32) (wew2 : Nat → Int32) (wew3 : Nat → Int32) (wew4 : Nat → Int32) (wew5 : Nat → Int32) (wew6 : Nat → Int32) (wew7 : Nat → Int32) (wew8 : Nat → Int32) (wew9 : Nat → Int32), (1 ≤ n ∧ n ≤ 3646) ∧ (1 ≤ L ∧ L ≤ 10000) ∧ (∀ j, iv 0 10 (g0 j)) ∧ iv 0 4 ww0 ∧ iv 0 ((n : Int)) ww5 ∧ iv 0 4 ww6 ∧ iv 0 4 ww14 ∧ iv 0 9 ww15 ∧ iv 0 ((n : Int)) ww16 ∧ (∀ j, iv 0 ((L : Int) - 1) (wew1 j)) ∧ (∀ j, iv 0 ((n : Int)) (wew4 j)) ∧ (∀ j, iv 0 (4 * (n : Int) - 1) (wew5 j)) ∧ (∀ j, iv 0 ((n : Int) - 1) (wew6 j)) ∧ (∀ j, iv 0 ((n : Int) - 1) (wew7 j)) ∧ (WA ww5 wew4 wew1) ∧ (WB ww16 ww6 ww5 wew6) ∧ (WC ww5 wew2) ∧ (ww0 = py2_1) ∧ KN D9 g0 ∧ w = [(y 0, .inr (9, o9_rirrrrrrrrrviii (y 1) py0_1 (y 2) (y 10) (y 19) (y 25) (y 26) (y 30) (y 31) (y 32) (Yw 0) o11 py0_12 py0_13 py0_14)), (y 2, .inr (1, o1_iiiiiirrrrrrriiiii py2_0 py2_1 py2_2 py2_3 py2_4 py2_5 (y 3) (y 4) (y 5) (y 6) (y 7) (y 8) (y 9) py2_13 py2_14 py2_15 py2_16 py2_17)), (y 3, aI V 4 fy3), (y 9, aI V 900 fy9), (y 19, .inr (4, o4_rrrrrr (y 2) (y 20) (y 21) (y 22) (y 23) (y 24))), (y 20, aI V 2000 g0), (y 21, aI V 6 g1), (y 22, aI V 64 g2), (Yw 0, .inr (8, o8_iirrriirrrrrrriii ww0 (nI n) (Yw 1) (Yw 2) wa ww5 ww6 (y 19) (Yw 4) (Yw 5) (Yw 6) (Yw 7) (Yw 8) wb ww14 ww15 ww16)), (Yw 1, aI V n wew1), (Yw 2, aI V n wew2), (wa, aI V n wew3), (Yw 4, aI V L wew4), (Yw 5, aI V n wew5), (Yw 6, aI V (n * 4) wew6), (Yw 7, aI V n wew7), (Yw 8, aI V 4 wew8), (wb, aI V n wew9)])) := by
  refine Ct.of (by decide) (Nat.le_of_ble_eq_true rfl) (fun p e s m below meth c A ls hx hb hr hml hown hlk hnm hg hP hK hD hE hA hS hl => ?_)
  have hl : lv_has ls 2 [(0, .ref (y 0)), (1, .int a1)] := hl
  refine lv_iload_n hx hb dX9_keeps_0 rfl (lv_at hl 1 rfl) ?_
  refine jnI (wr := [(y 0, .inr (9, o9_rirrrrrrrrrviii (y 1) py0_1 (y 2) (y 10) (y 19) (y 25) (y 26) (y 30) (y 31) (y 32) (Yw 0) o11 py0_12 py0_13 py0_14)), (y 2, .inr (1, o1_iiiiiirrrrrrriiiii py2_0 py2_1 py2_2 py2_3 py2_4 py2_5 (y 3) (y 4) (y 5) (y 6) (y 7) (y 8) (y 9) py2_13 py2_14 py2_15 py2_16 py2_17)), (y 3, aI V 4 fy3), (y 9, aI V 900 fy9), (y 19, .inr (4, o4_rrrrrr (y 2) (y 20) (y 21) (y 22) (y 23) (y 24))), (y 20, aI V 2000 fy20), (y 21, aI V 6 fy21), (y 22, aI V 64 fy22), (Yw 0, .inr (8, o8_iirrriirrrrrrriii pYw0_0 (nI n) (Yw 1) (Yw 2) wa pYw0_5 pYw0_6 (y 19) (Yw 4) (Yw 5) (Yw 6) (Yw 7) (Yw 8) wb pYw0_14 pYw0_15 pYw0_16)), (Yw 1, aI V n fYw1), (Yw 2, aI V n fYw2), (wa, aI V n fwa), (Yw 4, aI V L fYw4), (Yw 5, aI V n fYw5), (Yw 6, aI V (n * 4) fYw6), (Yw 7, aI V n fYw7), (Yw 8, aI V 4 fYw8), (wb, aI V n fwb)]) (rnS (rest := []) ⟨hx, hb, hml, hown, hg⟩ (k_X9_isHeight_0 l V a1) mt_X9_isHeight q_4_49 ⟨Nat.le_of_ble_eq_true rfl, Nat.le_of_ble_eq_true rfl⟩ hK hP hD hS hA hE [] rfl rfl rfl hl.1 rfl (Nat.le_of_ble_eq_true rfl) dX9_keeps_1 ⟨Nat.le_of_ble_eq_true rfl, Nat.le_of_ble_eq_true rfl⟩) hP hD hS hA [] [0, 1, 2, 3, 4, 5, 6, 7, 8, 9, 10, 11, 12, 13, 14, 15, 16, 17] rfl rfl rfl (by decide) (fun r_1 w H locs hw hP hD hS => ?_)
  rcases hw with ⟨c_2, rfl, rfl⟩ | ⟨c_3, c_4, rfl, rfl⟩ | ⟨c_5, c_6, rfl, rfl⟩
  · have hP : va_P V.1 vwCl [(y 0, .inr (9, o9_rirrrrrrrrrviii (y 1) py0_1 (y 2) (y 10) (y 19) (y 25) (y 26) (y 30) (y 31) (y 32) (Yw 0) o11 py0_12 py0_13 py0_14)), (y 2, .inr (1, o1_iiiiiirrrrrrriiiii py2_0 py2_1 py2_2 py2_3 py2_4 py2_5 (y 3) (y 4) (y 5) (y 6) (y 7) (y 8) (y 9) py2_13 py2_14 py2_15 py2_16 py2_17)), (y 3, aI V 4 fy3), (y 9, aI V 900 fy9), (y 19, .inr (4, o4_rrrrrr (y 2) (y 20) (y 21) (y 22) (y 23) (y 24))), (y 20, aI V 2000 fy20), (y 21, aI V 6 fy21), (y 22, aI V 64 fy22), (Yw 0, .inr (8, o8_iirrriirrrrrrriii pYw0_0 (nI n) (Yw 1) (Yw 2) wa pYw0_5 pYw0_6 (y 19) (Yw 4) (Yw 5) (Yw 6) (Yw 7) (Yw 8) wb pYw0_14 pYw0_15 pYw0_16)), (Yw 1, aI V n fYw1), (Yw 2, aI V n fYw2), (wa, aI V n fwa), (Yw 4, aI V L fYw4), (Yw 5, aI V n fYw5), (Yw 6, aI V (n * 4) fYw6), (Yw 7, aI V n fYw7), (Yw 8, aI V 4 fYw8), (wb, aI V n fwb)] H := hP
    have hD := cpD hP hD
    have b_7 : iv (-2147483648) (-1) a1 := iv_l1 c_2 (iv_top a1) (iv_c (0 : Int32) (a := 0) (b := 0) (by decide)) (by first | decide | omega)
    refine lv_if_eq (tgt := 21) hx hb dX9_keeps_4 (by decide) (fun _ => ?_) (fun c_9 => absurd c_9 (by decide))
    refine lv_bipush (v := (-3)) hx hb dX9_keeps_21 (by decide) ?_
    have z_0 := Int32.lt_iff_toInt_lt.mp hq0
    have z_1 := Int32.lt_iff_toInt_lt.mp c_2
    have k_0 : (0 : Int32).toInt = 0 := (by decide)
    exfalso
    have g_0 := hf3
    have g_1 := hf4
    omega
  · have hP : va_P V.1 vwCl [(y 0, .inr (9, o9_rirrrrrrrrrviii (y 1) py0_1 (y 2) (y 10) (y 19) (y 25) (y 26) (y 30) (y 31) (y 32) (Yw 0) o11 py0_12 py0_13 py0_14)), (y 2, .inr (1, o1_iiiiiirrrrrrriiiii py2_0 py2_1 py2_2 py2_3 py2_4 py2_5 (y 3) (y 4) (y 5) (y 6) (y 7) (y 8) (y 9) py2_13 py2_14 py2_15 py2_16 py2_17)), (y 3, aI V 4 fy3), (y 9, aI V 900 fy9), (y 19, .inr (4, o4_rrrrrr (y 2) (y 20) (y 21) (y 22) (y 23) (y 24))), (y 20, aI V 2000 fy20), (y 21, aI V 6 fy21), (y 22, aI V 64 fy22), (Yw 0, .inr (8, o8_iirrriirrrrrrriii pYw0_0 (nI n) (Yw 1) (Yw 2) wa pYw0_5 pYw0_6 (y 19) (Yw 4) (Yw 5) (Yw 6) (Yw 7) (Yw 8) wb pYw0_14 pYw0_15 pYw0_16)), (Yw 1, aI V n fYw1), (Yw 2, aI V n fYw2), (wa, aI V n fwa), (Yw 4, aI V L fYw4), (Yw 5, aI V n fYw5), (Yw 6, aI V (n * 4) fYw6), (Yw 7, aI V n fYw7), (Yw 8, aI V 4 fYw8), (wb, aI V n fwb)] H := hP
    have hD := cpD hP hD
    have b_10 : iv 0 2147483647 a1 := iv_e2 (Int32.not_lt.mp c_3) (iv_c (0 : Int32) (a := 0) (b := 0) (by decide)) (iv_top a1) (by first | decide | omega)
    have b_11 : iv 5 2147483647 a1 := iv_l2 c_4 (iv_c (4 : Int32) (a := 4) (b := 4) (by decide)) b_10 (by first | decide | omega)
    refine lv_if_eq (tgt := 21) hx hb dX9_keeps_4 (by decide) (fun _ => ?_) (fun c_13 => absurd c_13 (by decide))
    refine lv_bipush (v := (-3)) hx hb dX9_keeps_21 (by decide) ?_
    have z_0 := Int32.lt_iff_toInt_lt.mp hq0
    have z_1 := Int32.le_iff_toInt_le.mp (Int32.not_lt.mp c_3)
    have z_2 := Int32.lt_iff_toInt_lt.mp c_4
    have k_0 : (0 : Int32).toInt = 0 := (by decide)
    have k_4 : (4 : Int32).toInt = 4 := (by decide)
    exfalso
    have g_0 := hf3
    have g_1 := hf4
    omega
  · have hP : va_P V.1 vwCl [(y 0, .inr (9, o9_rirrrrrrrrrviii (y 1) py0_1 (y 2) (y 10) (y 19) (y 25) (y 26) (y 30) (y 31) (y 32) (Yw 0) o11 py0_12 py0_13 py0_14)), (y 2, .inr (1, o1_iiiiiirrrrrrriiiii py2_0 py2_1 py2_2 py2_3 py2_4 py2_5 (y 3) (y 4) (y 5) (y 6) (y 7) (y 8) (y 9) py2_13 py2_14 py2_15 py2_16 py2_17)), (y 3, aI V 4 fy3), (y 9, aI V 900 fy9), (y 19, .inr (4, o4_rrrrrr (y 2) (y 20) (y 21) (y 22) (y 23) (y 24))), (y 20, aI V 2000 fy20), (y 21, aI V 6 fy21), (y 22, aI V 64 fy22), (Yw 0, .inr (8, o8_iirrriirrrrrrriii pYw0_0 (nI n) (Yw 1) (Yw 2) wa pYw0_5 pYw0_6 (y 19) (Yw 4) (Yw 5) (Yw 6) (Yw 7) (Yw 8) wb pYw0_14 pYw0_15 pYw0_16)), (Yw 1, aI V n fYw1), (Yw 2, aI V n fYw2), (wa, aI V n fwa), (Yw 4, aI V L fYw4), (Yw 5, aI V n fYw5), (Yw 6, aI V (n * 4) fYw6), (Yw 7, aI V n fYw7), (Yw 8, aI V 4 fYw8), (wb, aI V n fwb)] H := hP
    have hD := cpD hP hD
    have b_14 : iv 0 2147483647 a1 := iv_e2 (Int32.not_lt.mp c_5) (iv_c (0 : Int32) (a := 0) (b := 0) (by decide)) (iv_top a1) (by first | decide | omega)
    have b_15 : iv 0 4 a1 := iv_e1 (Int32.not_lt.mp c_6) b_14 (iv_c (4 : Int32) (a := 4) (b := 4) (by decide)) (by first | decide | omega)
    refine lv_if_eq (tgt := 21) hx hb dX9_keeps_4 (by decide) (fun c_17 => absurd c_17 (by decide)) (fun _ => ?_)
    refine lv_aload_n hx hb dX9_keeps_7 rfl (lv_at hl 0 rfl) ?_
    refine lv_ldcw (v := 1000000) hx hb hown (hg _ q_4_194) dX9_keeps_8 ?_
    refine jnR (wr := []) (rnV (rest := []) ⟨hx, hb, hml, hown, hg⟩ (k_X9_waysFromNow_2 l V n L Yw y D9 1000000 fy3 fy9 fy20 fy21 fy22 pYw0_0 wa pYw0_5 pYw0_6 wb pYw0_14 pYw0_15 pYw0_16 fYw1 fYw2 fwa fYw4 fYw5 fYw6 fYw7 fYw8 fwb py0_1 o11 py0_12 py0_13 py0_14 py2_0 py2_1 py2_2 py2_3 py2_4 py2_5 py2_13 py2_14 py2_15 py2_16 py2_17 hn hL hq0 tfy20 bpYw0_0 bpYw0_5 bpYw0_6 bpYw0_14 bpYw0_15 bpYw0_16 tfYw1 tfYw4 tfYw5 tfYw6 tfYw7 bpy0_1 bpy0_12 bpy0_13 bpy2_1 bpy2_2 bpy2_3 bpy2_4 bpy2_5 bpy2_13 bpy2_14 bpy2_15 bpy2_16 bpy2_17 hf0 hf1 hf2 hL9 hK9) mt_X9_waysFromNow q_4_52 ⟨Nat.le_of_ble_eq_true rfl, Nat.le_of_ble_eq_true rfl⟩ hK hP hD hS hA hE [2, 3, 4, 5, 6, 7, 8, 9, 10, 11, 12, 13, 14, 15, 16, 17, 0, 1] rfl rfl 0 rfl rfl rfl rfl hl.1 rfl (Nat.le_of_ble_eq_true rfl) dX9_keeps_11 ⟨Nat.le_of_ble_eq_true rfl, Nat.le_of_ble_eq_true rfl⟩) hP hD hS hA [2, 3, 4, 5, 6, 7, 8, 9, 10, 11, 12, 13, 14, 15, 16, 17, 0, 1] [] rfl rfl rfl (by decide) (fun r_18 w H locs hw hP hD hS => ?_)
    refine W.widen (k := 10) (n := 46481) (Nat.le_of_ble_eq_true rfl) (Nat.le_of_ble_eq_true rfl) ?_
    obtain ⟨n, L, Yw, wa_19, wb_20, f_21, f_22, f_23, v_24, v_25, v_26, v_27, v_28, v_29, f_30, f_31, f_32, f_33, f_34, f_35, f_36, f_37, f_38, hn, hL, tf_21, bv_24, bv_25, bv_26, bv_27, bv_28, bv_29, tf_30, tf_33, tf_34, tf_35, tf_36, eW, g_39, g_40, g_41, g_42, g_43, kn_44, rfl⟩ := hw
    have hP : va_P V.1 vwCl [(y 3, aI V 4 fy3), (y 9, aI V 900 fy9), (y 19, .inr (4, o4_rrrrrr (y 2) (y 20) (y 21) (y 22) (y 23) (y 24))), (y 20, aI V 2000 f_21), (y 21, aI V 6 f_22), (y 22, aI V 64 f_23), (y 0, .inr (9, o9_rirrrrrrrrrviii (y 1) py0_1 (y 2) (y 10) (y 19) (y 25) (y 26) (y 30) (y 31) (y 32) (Yw 0) o11 py0_12 py0_13 py0_14)), (y 2, .inr (1, o1_iiiiiirrrrrrriiiii py2_0 py2_1 py2_2 py2_3 py2_4 py2_5 (y 3) (y 4) (y 5) (y 6) (y 7) (y 8) (y 9) py2_13 py2_14 py2_15 py2_16 py2_17)), (Yw 0, .inr (8, o8_iirrriirrrrrrriii v_24 (nI n) (Yw 1) (Yw 2) wa_19 v_25 v_26 (y 19) (Yw 4) (Yw 5) (Yw 6) (Yw 7) (Yw 8) wb_20 v_27 v_28 v_29)), (Yw 1, aI V n f_30), (Yw 2, aI V n f_31), (wa_19, aI V n f_32), (Yw 4, aI V L f_33), (Yw 5, aI V n f_34), (Yw 6, aI V (n * 4) f_35), (Yw 7, aI V n f_36), (Yw 8, aI V 4 f_37), (wb_20, aI V n f_38)] H := hP
    have hD := cpD hP hD
    rw [← eW]
    refine lv_iload_n hx hb dX9_keeps_14 rfl (lv_at hl 1 rfl) ?_
    refine jnI (wr := [(y 0, .inr (9, o9_rirrrrrrrrrviii (y 1) py0_1 (y 2) (y 10) (y 19) (y 25) (y 26) (y 30) (y 31) (y 32) (Yw 0) o11 py0_12 py0_13 py0_14))]) (rnV (rest := []) ⟨hx, hb, hml, hown, hg⟩ (k_X8_longestAbove_0 l V n L Yw y D9 a1 py2_0 py2_1 py2_2 py2_3 py2_4 py2_5 py2_13 py2_14 py2_15 py2_16 py2_17 fy3 fy9 f_21 f_22 f_23 v_24 wa_19 v_25 v_26 wb_20 v_27 v_28 v_29 f_30 f_31 f_32 f_33 f_34 f_35 f_36 f_37 f_38 hn hL bpy2_1 bpy2_2 bpy2_3 bpy2_4 bpy2_5 bpy2_13 bpy2_14 bpy2_15 bpy2_16 bpy2_17 tf_21 bv_24 bv_25 bv_26 bv_27 bv_28 bv_29 tf_30 tf_33 tf_34 tf_35 tf_36 g_39 g_40 g_41 hL9 kn_44) mt_X8_longestAbove q_4_195 ⟨Nat.le_of_ble_eq_true rfl, Nat.le_of_ble_eq_true rfl⟩ hK hP hD hS hA hE [7, 0, 1, 2, 3, 4, 5, 8, 9, 10, 11, 12, 13, 14, 15, 16, 17] rfl rfl 8 rfl rfl rfl rfl hl.1 rfl (Nat.le_of_ble_eq_true rfl) dX9_keeps_15 ⟨Nat.le_of_ble_eq_true rfl, Nat.le_of_ble_eq_true rfl⟩) hP hD hS hA [7, 0, 1, 2, 3, 4, 5, 8, 9, 10, 11, 12, 13, 14, 15, 16, 17] [6] rfl rfl rfl (by decide) (fun r_45 w H locs hw hP hD hS => ?_)
    obtain ⟨f_46, f_47, f_48, v_49, v_50, f_51, f_52, f_53, f_54, f_55, f_56, f_57, f_58, f_59, tf_46, bv_49, bv_50, tf_51, tf_54, tf_55, tf_56, tf_57, g_60, g_61, g_62, kn_63, rfl⟩ := hw
    have hP : va_P V.1 vwCl [(y 0, .inr (9, o9_rirrrrrrrrrviii (y 1) py0_1 (y 2) (y 10) (y 19) (y 25) (y 26) (y 30) (y 31) (y 32) (Yw 0) o11 py0_12 py0_13 py0_14)), (y 2, .inr (1, o1_iiiiiirrrrrrriiiii py2_0 py2_1 py2_2 py2_3 py2_4 py2_5 (y 3) (y 4) (y 5) (y 6) (y 7) (y 8) (y 9) py2_13 py2_14 py2_15 py2_16 py2_17)), (y 3, aI V 4 fy3), (y 9, aI V 900 fy9), (y 19, .inr (4, o4_rrrrrr (y 2) (y 20) (y 21) (y 22) (y 23) (y 24))), (y 20, aI V 2000 f_46), (y 21, aI V 6 f_47), (y 22, aI V 64 f_48), (Yw 0, .inr (8, o8_iirrriirrrrrrriii v_24 (nI n) (Yw 1) (Yw 2) wa_19 v_49 v_26 (y 19) (Yw 4) (Yw 5) (Yw 6) (Yw 7) (Yw 8) wb_20 v_27 v_28 v_50)), (Yw 1, aI V n f_51), (Yw 2, aI V n f_52), (wa_19, aI V n f_53), (Yw 4, aI V L f_54), (Yw 5, aI V n f_55), (Yw 6, aI V (n * 4) f_56), (Yw 7, aI V n f_57), (Yw 8, aI V 4 f_58), (wb_20, aI V n f_59)] H := hP
    have hD := cpD hP hD
    refine lv_goto (tgt := 23) hx hb dX9_keeps_18 (by decide) ?_
    exact fiI hx hb hr hlk hK (subP (ws' := [(y 0, .inr (9, o9_rirrrrrrrrrviii (y 1) py0_1 (y 2) (y 10) (y 19) (y 25) (y 26) (y 30) (y 31) (y 32) (Yw 0) o11 py0_12 py0_13 py0_14)), (y 2, .inr (1, o1_iiiiiirrrrrrriiiii py2_0 py2_1 py2_2 py2_3 py2_4 py2_5 (y 3) (y 4) (y 5) (y 6) (y 7) (y 8) (y 9) py2_13 py2_14 py2_15 py2_16 py2_17)), (y 3, aI V 4 fy3), (y 9, aI V 900 fy9), (y 19, .inr (4, o4_rrrrrr (y 2) (y 20) (y 21) (y 22) (y 23) (y 24))), (y 20, aI V 2000 f_46), (y 21, aI V 6 f_47), (y 22, aI V 64 f_48), (Yw 0, .inr (8, o8_iirrriirrrrrrriii v_24 (nI n) (Yw 1) (Yw 2) wa_19 v_49 v_26 (y 19) (Yw 4) (Yw 5) (Yw 6) (Yw 7) (Yw 8) wb_20 v_27 v_28 v_50)), (Yw 1, aI V n f_51), (Yw 2, aI V n f_52), (wa_19, aI V n f_53), (Yw 4, aI V L f_54), (Yw 5, aI V n f_55), (Yw 6, aI V (n * 4) f_56), (Yw 7, aI V n f_57), (Yw 8, aI V 4 f_58), (wb_20, aI V n f_59)]) hP [0, 1, 2, 3, 4, 5, 6, 7, 8, 9, 10, 11, 12, 13, 14, 15, 16, 17] rfl) (hD.sub [0, 1, 2, 3, 4, 5, 6, 7, 8, 9, 10, 11, 12, 13, 14, 15, 16, 17] rfl rfl) hS dX9_keeps_23 (Nat.le_of_ble_eq_true rfl) (Nat.le_of_ble_eq_true rfl) (⟨n, L, Yw, wa_19, wb_20, f_46, f_47, f_48, v_24, v_49, v_26, v_27, v_28, v_50, f_51, f_52, f_53, f_54, f_55, f_56, f_57, f_58, f_59, hn, hL, tf_46, bv_24, bv_49, bv_26, bv_27, bv_28, bv_50, tf_51, tf_54, tf_55, tf_56, tf_57, g_60, g_61, g_62, g_43, kn_63, rfl⟩)
set_option maxHeartbeats 4000000 in
set_option maxRecDepth 100000 in
theorem k_X9_reaches_1 (l : Launch) (V : GV) (y : Nat → Nat) (a1 : Int32) (a2 : Int32) (py0_1 : Int32) (o10 : Value) (o11 : Value) (py0_12 : Int32) (py0_13 : Int32) (py0_14 : Int32) (py2_0 : Int32) (py2_1 : Int32) (py2_2 : Int32) (py2_3 : Int32) (py2_4 : Int32) (py2_5 : Int32) (py2_13 : Int32) (py2_14 : Int32) (py2_15 : Int32) (py2_16 : Int32) (py2_17 : Int32) (bpy0_1 : iv 0 900 py0_1) (bpy0_12 : iv 0 9999 py0_12) (bpy0_13 : iv 0 9 py0_13) (bpy2_1 : iv 0 4 py2_1) (bpy2_2 : iv 0 4 py2_2) (bpy2_3 : iv 0 8 py2_3) (bpy2_4 : iv 0 9999 py2_4) (bpy2_5 : iv 0 9 py2_5) (bpy2_13 : iv 0 900 py2_13) (bpy2_14 : iv 0 900 py2_14) (bpy2_15 : iv 0 900 py2_15) (bpy2_16 : iv 0 900 py2_16) (bpy2_17 : iv 0 900 py2_17) (hf0 : ¬ (0 ≤ (a1 : Int32).toInt ∧ (a1 : Int32).toInt < (py2_1 : Int32).toInt ∧ 0 ≤ (a2 : Int32).toInt ∧ (a2 : Int32).toInt ≤ 1)) : Ct l V yX9_reaches (.code yX9_reaches cX9_reaches 7 (some .int)) 2 [.ref (y 0), .int a1, .int a2] [(y 0, .inr (9, o9_rirrrrrrrrvviii (y 1) py0_1 (y 2) (y 10) (y 19) (y 25) (y 26) (y 30) (y 31) (y 32) o10 o11 py0_12 py0_13 py0_14)), (y 2, .inr (1, o1_iiiiiirrrrrrriiiii py2_0 py2_1 py2_2 py2_3 py2_4 py2_5 (y 3) (y 4) (y 5) (y 6) (y 7) (y 8) (y 9) py2_13 py2_14 py2_15 py2_16 py2_17))] 0 0 (QI V (fun (r : Int32) (w : va_W) => r = (-2) ∧ w = [(y 0, .inr (9, o9_rirrrrrrrrvviii (y 1) py0_1 (y 2) (y 10) (y 19) (y 25) (y 26) (y 30) (y 31) (y 32) o10 o11 py0_12 py0_13 py0_14)), (y 2, .inr (1, o1_iiiiiirrrrrrriiiii py2_0 py2_1 py2_2 py2_3 py2_4 py2_5 (y 3) (y 4) (y 5) (y 6) (y 7) (y 8) (y 9) py2_13 py2_14 py2_15 py2_16 py2_17))])) := by
  refine Ct.of (by decide) (Nat.le_of_ble_eq_true rfl) (fun p e s m below meth c A ls hx hb hr hml hown hlk hnm hg hP hK hD hE hA hS hl => ?_)
  have hl : lv_has ls 7 [(0, .ref (y 0)), (1, .int a1), (2, .int a2)] := hl
  refine lv_aload_n hx hb dX9_reaches_0 rfl (lv_at hl 0 rfl) ?_
  refine lv_iload_n hx hb dX9_reaches_1 rfl (lv_at hl 1 rfl) ?_
  refine jnI (wr := []) (rnV (rest := []) ⟨hx, hb, hml, hown, hg⟩ (k_X9_isHill_0 l V y a1 py0_1 o10 o11 py0_12 py0_13 py0_14 py2_0 py2_1 py2_2 py2_3 py2_4 py2_5 py2_13 py2_14 py2_15 py2_16 py2_17 bpy0_1 bpy0_12 bpy0_13 bpy2_1 bpy2_2 bpy2_3 bpy2_4 bpy2_5 bpy2_13 bpy2_14 bpy2_15 bpy2_16 bpy2_17) mt_X9_isHill q_3_122 ⟨Nat.le_of_ble_eq_true rfl, Nat.le_of_ble_eq_true rfl⟩ hK hP hD hS hA hE [0, 1] rfl rfl 0 rfl rfl rfl rfl hl.1 rfl (Nat.le_of_ble_eq_true rfl) dX9_reaches_2 ⟨Nat.le_of_ble_eq_true rfl, Nat.le_of_ble_eq_true rfl⟩) hP hD hS hA [0, 1] [] rfl rfl rfl (by decide) (fun r_1 w H locs hw hP hD hS => ?_)
  rcases hw with ⟨c_2, rfl, et_3, rfl⟩ | ⟨c_4, c_5, rfl, et_6, rfl⟩ | ⟨c_7, c_8, rfl, et_9, rfl⟩
  · have hP : va_P V.1 vwCl [(y 0, .inr (9, o9_rirrrrrrrrvviii (y 1) py0_1 (y 2) (y 10) (y 19) (y 25) (y 26) (y 30) (y 31) (y 32) o10 o11 py0_12 py0_13 py0_14)), (y 2, .inr (1, o1_iiiiiirrrrrrriiiii py2_0 py2_1 py2_2 py2_3 py2_4 py2_5 (y 3) (y 4) (y 5) (y 6) (y 7) (y 8) (y 9) py2_13 py2_14 py2_15 py2_16 py2_17))] H := hP
    have hD := cpD hP hD
    have b_10 : iv (-2147483648) (-1) a1 := iv_l1 c_2 (iv_top a1) (iv_c (0 : Int32) (a := 0) (b := 0) (by decide)) (by decide)
    refine lv_if_eq (tgt := 17) hx hb dX9_reaches_5 (by decide) (fun _ => ?_) (fun c_12 => absurd c_12 (by decide))
    refine lv_bipush (v := (-2)) hx hb dX9_reaches_17 (by decide) ?_
    exact fiI hx hb hr hlk hK hP hD hS dX9_reaches_19 (Nat.le_of_ble_eq_true rfl) (Nat.le_of_ble_eq_true rfl) (⟨rfl, rfl⟩)
  · have hP : va_P V.1 vwCl [(y 0, .inr (9, o9_rirrrrrrrrvviii (y 1) py0_1 (y 2) (y 10) (y 19) (y 25) (y 26) (y 30) (y 31) (y 32) o10 o11 py0_12 py0_13 py0_14)), (y 2, .inr (1, o1_iiiiiirrrrrrriiiii py2_0 py2_1 py2_2 py2_3 py2_4 py2_5 (y 3) (y 4) (y 5) (y 6) (y 7) (y 8) (y 9) py2_13 py2_14 py2_15 py2_16 py2_17))] H := hP
    have hD := cpD hP hD
    have b_13 : iv 0 2147483647 a1 := iv_e2 (Int32.not_lt.mp c_4) (iv_c (0 : Int32) (a := 0) (b := 0) (by decide)) (iv_top a1) (by decide)
    refine lv_if_eq (tgt := 17) hx hb dX9_reaches_5 (by decide) (fun _ => ?_) (fun c_15 => absurd c_15 (by decide))
    refine lv_bipush (v := (-2)) hx hb dX9_reaches_17 (by decide) ?_
    exact fiI hx hb hr hlk hK hP hD hS dX9_reaches_19 (Nat.le_of_ble_eq_true rfl) (Nat.le_of_ble_eq_true rfl) (⟨rfl, rfl⟩)
  · have hP : va_P V.1 vwCl [(y 0, .inr (9, o9_rirrrrrrrrvviii (y 1) py0_1 (y 2) (y 10) (y 19) (y 25) (y 26) (y 30) (y 31) (y 32) o10 o11 py0_12 py0_13 py0_14)), (y 2, .inr (1, o1_iiiiiirrrrrrriiiii py2_0 py2_1 py2_2 py2_3 py2_4 py2_5 (y 3) (y 4) (y 5) (y 6) (y 7) (y 8) (y 9) py2_13 py2_14 py2_15 py2_16 py2_17))] H := hP
    have hD := cpD hP hD
    have b_16 : iv 0 2147483647 a1 := iv_e2 (Int32.not_lt.mp c_7) (iv_c (0 : Int32) (a := 0) (b := 0) (by decide)) (iv_top a1) (by decide)
    have b_17 : iv 0 3 a1 := iv_l1 (Int32.not_le.mp c_8) b_16 bpy2_1 (by decide)
    have b_18 : iv 1 4 py2_1 := iv_l2 (Int32.not_le.mp c_8) b_16 bpy2_1 (by decide)
    refine lv_if_eq (tgt := 17) hx hb dX9_reaches_5 (by decide) (fun c_20 => absurd c_20 (by decide)) (fun _ => ?_)
    refine lv_iload_n hx hb dX9_reaches_8 rfl (lv_at hl 2 rfl) ?_
    refine lv_if_eq (tgt := 20) hx hb dX9_reaches_9 (by decide) (fun c_21 => ?_) (fun c_21 => ?_)
    · have b_22 : iv 0 0 a2 := iv_q c_21 (iv_c (0 : Int32) (a := 0) (b := 0) (by decide))
      refine lv_aload_n hx hb dX9_reaches_20 rfl (lv_at hl 0 rfl) ?_
      refine lv_ldcw (v := 1000000) hx hb hown (hg _ q_4_194) dX9_reaches_21 ?_
      have z_0 := Int32.le_iff_toInt_le.mp (Int32.not_lt.mp c_7)
      have z_1 := Int32.lt_iff_toInt_lt.mp (Int32.not_le.mp c_8)
      have z_2 := congrArg Int32.toInt c_21
      have k_0 : (0 : Int32).toInt = 0 := (by decide)
      exact absurd (⟨by omega, by omega, by omega, by omega⟩) hf0
    · refine lv_iload_n hx hb dX9_reaches_12 rfl (lv_at hl 2 rfl) ?_
      refine lv_iconst (v := 1) hx hb dX9_reaches_13 (by decide) ?_
      refine lv_icmp_eq (tgt := 20) hx hb dX9_reaches_14 (by decide) (fun c_23 => ?_) (fun c_23 => ?_)
      · have b_24 : iv 1 1 a2 := iv_q c_23 (iv_c (1 : Int32) (a := 1) (b := 1) (by decide))
        refine lv_aload_n hx hb dX9_reaches_20 rfl (lv_at hl 0 rfl) ?_
        refine lv_ldcw (v := 1000000) hx hb hown (hg _ q_4_194) dX9_reaches_21 ?_
        have z_0 := Int32.le_iff_toInt_le.mp (Int32.not_lt.mp c_7)
        have z_1 := Int32.lt_iff_toInt_lt.mp (Int32.not_le.mp c_8)
        have z_2 : ¬ ((a2 : Int32).toInt = (0 : Int32).toInt) := fun q9 => c_21 (Int32.toInt_inj.mp q9)
        have z_3 := congrArg Int32.toInt c_23
        have k_0 : (0 : Int32).toInt = 0 := (by decide)
        have k_1 : (1 : Int32).toInt = 1 := (by decide)
        exact absurd (⟨by omega, by omega, by omega, by omega⟩) hf0
      · refine lv_bipush (v := (-2)) hx hb dX9_reaches_17 (by decide) ?_
        exact fiI hx hb hr hlk hK hP hD hS dX9_reaches_19 (Nat.le_of_ble_eq_true rfl) (Nat.le_of_ble_eq_true rfl) (⟨rfl, rfl⟩)
set_option maxHeartbeats 4000000 in
set_option maxRecDepth 100000 in
theorem k_X9_reaches_2 (l : Launch) (V : GV) (y : Nat → Nat) (D9 : Nat → Int32) (a1 : Int32) (a2 : Int32) (py0_1 : Int32) (o11 : Value) (py0_12 : Int32) (py0_13 : Int32) (py0_14 : Int32) (py2_0 : Int32) (py2_1 : Int32) (py2_2 : Int32) (py2_3 : Int32) (py2_4 : Int32) (py2_5 : Int32) (py2_13 : Int32) (py2_14 : Int32) (py2_15 : Int32) (py2_16 : Int32) (py2_17 : Int32) (fy3 : Nat → Int32) (fy9 : Nat → Int32) (fy20 : Nat → Int32) (fy21 : Nat → Int32) (fy22 : Nat → Int32) (bpy0_1 : iv 0 900 py0_1) (bpy0_12 : iv 0 9999 py0_12) (bpy0_13 : iv 0 9 py0_13) (bpy2_1 : iv 0 4 py2_1) (bpy2_2 : iv 0 4 py2_2) (bpy2_3 : iv 0 8 py2_3) (bpy2_4 : iv 0 9999 py2_4) (bpy2_5 : iv 0 9 py2_5) (bpy2_13 : iv 0 900 py2_13) (bpy2_14 : iv 0 900 py2_14) (bpy2_15 : iv 0 900 py2_15) (bpy2_16 : iv 0 900 py2_16) (bpy2_17 : iv 0 900 py2_17) (tfy20 : ∀ j, iv 0 10 (fy20 j)) (hf0 : 0 ≤ (a1 : Int32).toInt) (hf1 : (a1 : Int32).toInt < (py2_1 : Int32).toInt) (hf2 : 0 ≤ (a2 : Int32).toInt) (hf3 : (a2 : Int32).toInt ≤ 1) (hL9 : LW D9 fy3 fy9 py2_14 py2_15 py2_16 py2_17) (hK9 : KN D9 fy20) : Ct l V yX9_reaches (.code yX9_reaches cX9_reaches 7 (some .int)) 8 [.ref (y 0), .int a1, .int a2] [(y 0, .inr (9, o9_rirrrrrrrrnviii (y 1) py0_1 (y 2) (y 10) (y 19) (y 25) (y 26) (y 30) (y 31) (y 32) o11 py0_12 py0_13 py0_14)), (y 2, .inr (1, o1_iiiiiirrrrrrriiiii py2_0 py2_1 py2_2 py2_3 py2_4 py2_5 (y 3) (y 4) (y 5) (y 6) (y 7) (y 8) (y 9) py2_13 py2_14 py2_15 py2_16 py2_17)), (y 3, aI V 4 fy3), (y 9, aI V 900 fy9), (y 19, .inr (4, o4_rrrrrr (y 2) (y 20) (y 21) (y 22) (y 23) (y 24))), (y 20, aI V 2000 fy20), (y 21, aI V 6 fy21), (y 22, aI V 64 fy22)] 10 46481 (QI V (fun (r : Int32) (w : va_W) => ∃ (n : Nat) (L : Nat) (Yw : Nat → Nat) (wa : Nat) (wb : Nat) (g0 : Nat → Int32) (g1 : Nat → Int32) (g2 : Nat → Int32) (ww0 : Int32) (ww5 : Int32) (ww6 : Int32) (ww14 : Int32) (ww15 : Int32) (ww16 : Int32) (wew1 : Nat → Int32) (wew2 : Nat → Int32) (wew3 : Nat → Int32) (wew4 : Nat → Int32) (wew5 : Nat → Int32) (wew6 : Nat → Int32) (wew7 : Nat → Int32) (wew8 : Nat → Int32) (wew9 : Nat → Int32), (1 ≤ n ∧ n ≤ 3646) ∧ (1 ≤ L ∧ L ≤ 10000) ∧ (∀ j, iv 0 10 (g0 j)) ∧ iv 0 4 ww0 ∧ iv 0 ((n : Int)) ww5 ∧ iv 0 4 ww6 ∧ iv 0 4 ww14 ∧ iv 0 9 ww15 ∧ iv 0 ((n : Int)) ww16 ∧ (∀ j, iv 0 ((L : Int) - 1) (wew1 j)) ∧ (∀ j, iv 0 ((n : Int)) (wew4 j)) ∧ (∀ j, iv 0 (4 * (n : Int) - 1) (wew5 j)) ∧ (∀ j, iv 0 ((n : Int) - 1) (wew6 j)) ∧ (∀ j, iv 0 ((n : Int) - 1) (wew7 j)) ∧ (WA ww5 wew4 wew1) ∧ (WB ww16 ww6 ww5 wew6) ∧ (WC ww5 wew2) ∧ (ww0 = py2_1) ∧ KN D9 g0 ∧ w = [(y 0, .inr (9, o9_rirrrrrrrrrviii (y 1) py0_1 (y 2) (y 10) (y 19) (y 25) (y 26) (y 30) (y 31) (y 32) (Yw 0) o11 py0_12 py0_13 py0_14)), (y 2, .inr (1, o1_iiiiiirrrrrrriiiii py2_0 py2_1 py2_2 py2_3 py2_4 py2_5 (y 3) (y 4) (y 5) (y 6) (y 7) (y 8) (y 9) py2_13 py2_14 py2_15 py2_16 py2_17)), (y 3, aI V 4 fy3), (y 9, aI V 900 fy9), (y 19, .inr (4, o4_rrrrrr (y 2) (y 20) (y 21) (y 22) (y 23) (y 24))), (y 20, aI V 2000 g0), (y 21, aI V 6 g1), (y 22, aI V 64 g2), (Yw 0, .inr (8, o8_iirrriirrrrrrriii ww0 (nI n) (Yw 1) (Yw 2) wa ww5 ww6 (y 19) (Yw 4) (Yw 5) (Yw 6) (Yw 7) (Yw 8) wb ww14 ww15 ww16)), (Yw 1, aI V n wew1), (Yw 2, aI V n wew2), (wa, aI V n wew3), (Yw 4, aI V L wew4), (Yw 5, aI V n wew5), (Yw 6, aI V (n * 4) wew6), (Yw 7, aI V n wew7), (Yw 8, aI V 4 wew8), (wb, aI V n wew9)])) := by
  refine Ct.of (by decide) (Nat.le_of_ble_eq_true rfl) (fun p e s m below meth c A ls hx hb hr hml hown hlk hnm hg hP hK hD hE hA hS hl => ?_)
  have hl : lv_has ls 7 [(0, .ref (y 0)), (1, .int a1), (2, .int a2)] := hl
  refine lv_aload_n hx hb dX9_reaches_0 rfl (lv_at hl 0 rfl) ?_
  refine lv_iload_n hx hb dX9_reaches_1 rfl (lv_at hl 1 rfl) ?_
  refine jnI (wr := [(y 3, aI V 4 fy3), (y 9, aI V 900 fy9), (y 19, .inr (4, o4_rrrrrr (y 2) (y 20) (y 21) (y 22) (y 23) (y 24))), (y 20, aI V 2000 fy20), (y 21, aI V 6 fy21), (y 22, aI V 64 fy22)]) (rnV (rest := []) ⟨hx, hb, hml, hown, hg⟩ (k_X9_isHill_0 l V y a1 py0_1 (.null) o11 py0_12 py0_13 py0_14 py2_0 py2_1 py2_2 py2_3 py2_4 py2_5 py2_13 py2_14 py2_15 py2_16 py2_17 bpy0_1 bpy0_12 bpy0_13 bpy2_1 bpy2_2 bpy2_3 bpy2_4 bpy2_5 bpy2_13 bpy2_14 bpy2_15 bpy2_16 bpy2_17) mt_X9_isHill q_3_122 ⟨Nat.le_of_ble_eq_true rfl, Nat.le_of_ble_eq_true rfl⟩ hK hP hD hS hA hE [0, 1] rfl rfl 0 rfl rfl rfl rfl hl.1 rfl (Nat.le_of_ble_eq_true rfl) dX9_reaches_2 ⟨Nat.le_of_ble_eq_true rfl, Nat.le_of_ble_eq_true rfl⟩) hP hD hS hA [0, 1] [2, 3, 4, 5, 6, 7] rfl rfl rfl (by decide) (fun r_1 w H locs hw hP hD hS => ?_)
  rcases hw with ⟨c_2, rfl, et_3, rfl⟩ | ⟨c_4, c_5, rfl, et_6, rfl⟩ | ⟨c_7, c_8, rfl, et_9, rfl⟩
  · have hP : va_P V.1 vwCl [(y 3, aI V 4 fy3), (y 9, aI V 900 fy9), (y 19, .inr (4, o4_rrrrrr (y 2) (y 20) (y 21) (y 22) (y 23) (y 24))), (y 20, aI V 2000 fy20), (y 21, aI V 6 fy21), (y 22, aI V 64 fy22), (y 0, .inr (9, o9_rirrrrrrrrnviii (y 1) py0_1 (y 2) (y 10) (y 19) (y 25) (y 26) (y 30) (y 31) (y 32) o11 py0_12 py0_13 py0_14)), (y 2, .inr (1, o1_iiiiiirrrrrrriiiii py2_0 py2_1 py2_2 py2_3 py2_4 py2_5 (y 3) (y 4) (y 5) (y 6) (y 7) (y 8) (y 9) py2_13 py2_14 py2_15 py2_16 py2_17))] H := hP
    have hD := cpD hP hD
    have b_10 : iv (-2147483648) (-1) a1 := iv_l1 c_2 (iv_top a1) (iv_c (0 : Int32) (a := 0) (b := 0) (by decide)) (by first | decide | omega)
    refine lv_if_eq (tgt := 17) hx hb dX9_reaches_5 (by decide) (fun _ => ?_) (fun c_12 => absurd c_12 (by decide))
    refine lv_bipush (v := (-2)) hx hb dX9_reaches_17 (by decide) ?_
    have z_0 := Int32.lt_iff_toInt_lt.mp c_2
    have k_0 : (0 : Int32).toInt = 0 := (by decide)
    exfalso
    have g_0 := hf0
    have g_1 := hf1
    have g_2 := hf2
    have g_3 := hf3
    omega
  · have hP : va_P V.1 vwCl [(y 3, aI V 4 fy3), (y 9, aI V 900 fy9), (y 19, .inr (4, o4_rrrrrr (y 2) (y 20) (y 21) (y 22) (y 23) (y 24))), (y 20, aI V 2000 fy20), (y 21, aI V 6 fy21), (y 22, aI V 64 fy22), (y 0, .inr (9, o9_rirrrrrrrrnviii (y 1) py0_1 (y 2) (y 10) (y 19) (y 25) (y 26) (y 30) (y 31) (y 32) o11 py0_12 py0_13 py0_14)), (y 2, .inr (1, o1_iiiiiirrrrrrriiiii py2_0 py2_1 py2_2 py2_3 py2_4 py2_5 (y 3) (y 4) (y 5) (y 6) (y 7) (y 8) (y 9) py2_13 py2_14 py2_15 py2_16 py2_17))] H := hP
    have hD := cpD hP hD
    have b_13 : iv 0 2147483647 a1 := iv_e2 (Int32.not_lt.mp c_4) (iv_c (0 : Int32) (a := 0) (b := 0) (by decide)) (iv_top a1) (by first | decide | omega)
    refine lv_if_eq (tgt := 17) hx hb dX9_reaches_5 (by decide) (fun _ => ?_) (fun c_15 => absurd c_15 (by decide))
    refine lv_bipush (v := (-2)) hx hb dX9_reaches_17 (by decide) ?_
    have z_0 := Int32.le_iff_toInt_le.mp (Int32.not_lt.mp c_4)
    have z_1 := Int32.le_iff_toInt_le.mp c_5
    have k_0 : (0 : Int32).toInt = 0 := (by decide)
    exfalso
    have g_0 := hf0
    have g_1 := hf1
    have g_2 := hf2
    have g_3 := hf3
    omega
  · have hP : va_P V.1 vwCl [(y 3, aI V 4 fy3), (y 9, aI V 900 fy9), (y 19, .inr (4, o4_rrrrrr (y 2) (y 20) (y 21) (y 22) (y 23) (y 24))), (y 20, aI V 2000 fy20), (y 21, aI V 6 fy21), (y 22, aI V 64 fy22), (y 0, .inr (9, o9_rirrrrrrrrnviii (y 1) py0_1 (y 2) (y 10) (y 19) (y 25) (y 26) (y 30) (y 31) (y 32) o11 py0_12 py0_13 py0_14)), (y 2, .inr (1, o1_iiiiiirrrrrrriiiii py2_0 py2_1 py2_2 py2_3 py2_4 py2_5 (y 3) (y 4) (y 5) (y 6) (y 7) (y 8) (y 9) py2_13 py2_14 py2_15 py2_16 py2_17))] H := hP
    have hD := cpD hP hD
    have b_16 : iv 0 2147483647 a1 := iv_e2 (Int32.not_lt.mp c_7) (iv_c (0 : Int32) (a := 0) (b := 0) (by decide)) (iv_top a1) (by first | decide | omega)
    have b_17 : iv 0 3 a1 := iv_l1 (Int32.not_le.mp c_8) b_16 bpy2_1 (by first | decide | omega)
    have b_18 : iv 1 4 py2_1 := iv_l2 (Int32.not_le.mp c_8) b_16 bpy2_1 (by first | decide | omega)
    refine lv_if_eq (tgt := 17) hx hb dX9_reaches_5 (by decide) (fun c_20 => absurd c_20 (by decide)) (fun _ => ?_)
    refine lv_iload_n hx hb dX9_reaches_8 rfl (lv_at hl 2 rfl) ?_
    refine lv_if_eq (tgt := 20) hx hb dX9_reaches_9 (by decide) (fun c_21 => ?_) (fun c_21 => ?_)
    · have b_22 : iv 0 0 a2 := iv_q c_21 (iv_c (0 : Int32) (a := 0) (b := 0) (by decide))
      refine lv_aload_n hx hb dX9_reaches_20 rfl (lv_at hl 0 rfl) ?_
      refine lv_ldcw (v := 1000000) hx hb hown (hg _ q_4_194) dX9_reaches_21 ?_
      refine jnR (wr := []) (rnV (rest := []) ⟨hx, hb, hml, hown, hg⟩ (k_X9_waysFromNow_1 l V y D9 1000000 fy3 fy9 fy20 fy21 fy22 py0_1 o11 py0_12 py0_13 py0_14 py2_0 py2_1 py2_2 py2_3 py2_4 py2_5 py2_13 py2_14 py2_15 py2_16 py2_17 tfy20 bpy0_1 bpy0_12 bpy0_13 (iv_w b_18 (by first | decide | omega)) bpy2_2 bpy2_3 bpy2_4 bpy2_5 bpy2_13 bpy2_14 bpy2_15 bpy2_16 bpy2_17 hL9 hK9) mt_X9_waysFromNow q_4_52 ⟨Nat.le_of_ble_eq_true rfl, Nat.le_of_ble_eq_true rfl⟩ hK hP hD hS hA hE [0, 1, 2, 3, 4, 5, 6, 7] rfl rfl 6 rfl rfl rfl rfl hl.1 rfl (Nat.le_of_ble_eq_true rfl) dX9_reaches_24 ⟨Nat.le_of_ble_eq_true rfl, Nat.le_of_ble_eq_true rfl⟩) hP hD hS hA [0, 1, 2, 3, 4, 5, 6, 7] [] rfl rfl rfl (by decide) (fun r_23 w H locs hw hP hD hS => ?_)
      refine W.widen (k := 10) (n := 46481) (Nat.le_of_ble_eq_true rfl) (Nat.le_of_ble_eq_true rfl) ?_
      obtain ⟨n, L, Yw, wa_24, wb_25, f_26, f_27, f_28, v_29, v_30, v_31, v_32, v_33, v_34, f_35, f_36, f_37, f_38, f_39, f_40, f_41, f_42, f_43, hn, hL, tf_26, bv_29, bv_30, bv_31, bv_32, bv_33, bv_34, tf_35, tf_38, tf_39, tf_40, tf_41, eW, g_44, g_45, g_46, g_47, g_48, kn_49, rfl⟩ := hw
      have hP : va_P V.1 vwCl [(y 3, aI V 4 fy3), (y 9, aI V 900 fy9), (y 19, .inr (4, o4_rrrrrr (y 2) (y 20) (y 21) (y 22) (y 23) (y 24))), (y 20, aI V 2000 f_26), (y 21, aI V 6 f_27), (y 22, aI V 64 f_28), (y 0, .inr (9, o9_rirrrrrrrrrviii (y 1) py0_1 (y 2) (y 10) (y 19) (y 25) (y 26) (y 30) (y 31) (y 32) (Yw 0) o11 py0_12 py0_13 py0_14)), (y 2, .inr (1, o1_iiiiiirrrrrrriiiii py2_0 py2_1 py2_2 py2_3 py2_4 py2_5 (y 3) (y 4) (y 5) (y 6) (y 7) (y 8) (y 9) py2_13 py2_14 py2_15 py2_16 py2_17)), (Yw 0, .inr (8, o8_iirrriirrrrrrriii v_29 (nI n) (Yw 1) (Yw 2) wa_24 v_30 v_31 (y 19) (Yw 4) (Yw 5) (Yw 6) (Yw 7) (Yw 8) wb_25 v_32 v_33 v_34)), (Yw 1, aI V n f_35), (Yw 2, aI V n f_36), (wa_24, aI V n f_37), (Yw 4, aI V L f_38), (Yw 5, aI V n f_39), (Yw 6, aI V (n * 4) f_40), (Yw 7, aI V n f_41), (Yw 8, aI V 4 f_42), (wb_25, aI V n f_43)] H := hP
      have hD := cpD hP hD
      rw [← eW]
      refine lv_astore_n (lv' := [(3, .ref (Yw 0)), (0, .ref (y 0)), (1, .int a1), (2, .int a2)]) hx hb dX9_reaches_27 rfl hl (by decide) rfl (fun ls hl => ?_)
      refine lv_aload_n hx hb dX9_reaches_28 rfl (lv_at hl 1 rfl) ?_
      refine va_get (ci := 9) (v := .int py0_12) (C := RX9) (T := TX9) (N := 15) hx hb hg inX9 hown hK hP 6 rfl rfl 12 (by decide) (hg _ q_2_48) (fun _ h9 => h9) rfl dX9_reaches_29 ?_
      refine lv_iload_n hx hb dX9_reaches_32 rfl (lv_at hl 2 rfl) ?_
      refine jnI (wr := [(y 3, aI V 4 fy3), (y 9, aI V 900 fy9), (y 19, .inr (4, o4_rrrrrr (y 2) (y 20) (y 21) (y 22) (y 23) (y 24))), (y 20, aI V 2000 f_26), (y 21, aI V 6 f_27), (y 22, aI V 64 f_28), (y 0, .inr (9, o9_rirrrrrrrrrviii (y 1) py0_1 (y 2) (y 10) (y 19) (y 25) (y 26) (y 30) (y 31) (y 32) (Yw 0) o11 py0_12 py0_13 py0_14)), (y 2, .inr (1, o1_iiiiiirrrrrrriiiii py2_0 py2_1 py2_2 py2_3 py2_4 py2_5 (y 3) (y 4) (y 5) (y 6) (y 7) (y 8) (y 9) py2_13 py2_14 py2_15 py2_16 py2_17)), (Yw 0, .inr (8, o8_iirrriirrrrrrriii v_29 (nI n) (Yw 1) (Yw 2) wa_24 v_30 v_31 (y 19) (Yw 4) (Yw 5) (Yw 6) (Yw 7) (Yw 8) wb_25 v_32 v_33 v_34)), (Yw 1, aI V n f_35), (Yw 2, aI V n f_36), (wa_24, aI V n f_37), (Yw 4, aI V L f_38), (Yw 5, aI V n f_39), (Yw 6, aI V (n * 4) f_40), (Yw 7, aI V n f_41), (Yw 8, aI V 4 f_42), (wb_25, aI V n f_43)]) (rnS (rest := []) ⟨hx, hb, hml, hown, hg⟩ (k_X9_stackIn_0 l V py0_12 a1 bpy0_12 (iv_w b_17 (by first | decide | omega))) mt_X9_stackIn q_3_126 ⟨Nat.le_of_ble_eq_true rfl, Nat.le_of_ble_eq_true rfl⟩ hK hP hD hS hA hE [] rfl rfl rfl hl.1 rfl (Nat.le_of_ble_eq_true rfl) dX9_reaches_33 ⟨Nat.le_of_ble_eq_true rfl, Nat.le_of_ble_eq_true rfl⟩) hP hD hS hA [] [0, 1, 2, 3, 4, 5, 6, 7, 8, 9, 10, 11, 12, 13, 14, 15, 16, 17] rfl rfl rfl (by decide) (fun r_50 w H locs hw hP hD hS => ?_)
      obtain ⟨br_50, er_50, et_51, rfl⟩ := hw
      have hP : va_P V.1 vwCl [(y 3, aI V 4 fy3), (y 9, aI V 900 fy9), (y 19, .inr (4, o4_rrrrrr (y 2) (y 20) (y 21) (y 22) (y 23) (y 24))), (y 20, aI V 2000 f_26), (y 21, aI V 6 f_27), (y 22, aI V 64 f_28), (y 0, .inr (9, o9_rirrrrrrrrrviii (y 1) py0_1 (y 2) (y 10) (y 19) (y 25) (y 26) (y 30) (y 31) (y 32) (Yw 0) o11 py0_12 py0_13 py0_14)), (y 2, .inr (1, o1_iiiiiirrrrrrriiiii py2_0 py2_1 py2_2 py2_3 py2_4 py2_5 (y 3) (y 4) (y 5) (y 6) (y 7) (y 8) (y 9) py2_13 py2_14 py2_15 py2_16 py2_17)), (Yw 0, .inr (8, o8_iirrriirrrrrrriii v_29 (nI n) (Yw 1) (Yw 2) wa_24 v_30 v_31 (y 19) (Yw 4) (Yw 5) (Yw 6) (Yw 7) (Yw 8) wb_25 v_32 v_33 v_34)), (Yw 1, aI V n f_35), (Yw 2, aI V n f_36), (wa_24, aI V n f_37), (Yw 4, aI V L f_38), (Yw 5, aI V n f_39), (Yw 6, aI V (n * 4) f_40), (Yw 7, aI V n f_41), (Yw 8, aI V 4 f_42), (wb_25, aI V n f_43)] H := hP
      have hD := cpD hP hD
      refine lv_istore (lv' := [(4, .int r_50), (3, .ref (Yw 0)), (0, .ref (y 0)), (1, .int a1), (2, .int a2)]) hx hb dX9_reaches_36 hl (by decide) rfl (fun ls hl => ?_)
      refine lv_iconst (v := 0) hx hb dX9_reaches_38 (by decide) ?_
      refine lv_istore (lv' := [(5, .int 0), (4, .int r_50), (3, .ref (Yw 0)), (0, .ref (y 0)), (1, .int a1), (2, .int a2)]) hx hb dX9_reaches_39 hl (by decide) rfl (fun ls hl => ?_)
      refine loopF (X := fun (n_54 : Nat) (H : Heap) (locs : List Loc) (ls : Array Slot) => ∃ (u_52 : Int32) (u_53 : Int32), (iv 0 2147483647 u_52) ∧ KN D9 f_26 ∧ n_54 = (2147483647 - (u_52 : Int32).toInt).toNat ∧ va_P V.1 vwCl [(y 3, aI V 4 fy3), (y 9, aI V 900 fy9), (y 19, .inr (4, o4_rrrrrr (y 2) (y 20) (y 21) (y 22) (y 23) (y 24))), (y 20, aI V 2000 f_26), (y 21, aI V 6 f_27), (y 22, aI V 64 f_28), (y 0, .inr (9, o9_rirrrrrrrrrviii (y 1) py0_1 (y 2) (y 10) (y 19) (y 25) (y 26) (y 30) (y 31) (y 32) (Yw 0) o11 py0_12 py0_13 py0_14)), (y 2, .inr (1, o1_iiiiiirrrrrrriiiii py2_0 py2_1 py2_2 py2_3 py2_4 py2_5 (y 3) (y 4) (y 5) (y 6) (y 7) (y 8) (y 9) py2_13 py2_14 py2_15 py2_16 py2_17)), (Yw 0, .inr (8, o8_iirrriirrrrrrriii v_29 (nI n) (Yw 1) (Yw 2) wa_24 v_30 v_31 (y 19) (Yw 4) (Yw 5) (Yw 6) (Yw 7) (Yw 8) wb_25 v_32 v_33 v_34)), (Yw 1, aI V n f_35), (Yw 2, aI V n f_36), (wa_24, aI V n f_37), (Yw 4, aI V L f_38), (Yw 5, aI V n f_39), (Yw 6, aI V (n * 4) f_40), (Yw 7, aI V n f_41), (Yw 8, aI V 4 f_42), (wb_25, aI V n f_43)] H ∧ va_D A [(y 3, aI V 4 fy3), (y 9, aI V 900 fy9), (y 19, .inr (4, o4_rrrrrr (y 2) (y 20) (y 21) (y 22) (y 23) (y 24))), (y 20, aI V 2000 f_26), (y 21, aI V 6 f_27), (y 22, aI V 64 f_28), (y 0, .inr (9, o9_rirrrrrrrrrviii (y 1) py0_1 (y 2) (y 10) (y 19) (y 25) (y 26) (y 30) (y 31) (y 32) (Yw 0) o11 py0_12 py0_13 py0_14)), (y 2, .inr (1, o1_iiiiiirrrrrrriiiii py2_0 py2_1 py2_2 py2_3 py2_4 py2_5 (y 3) (y 4) (y 5) (y 6) (y 7) (y 8) (y 9) py2_13 py2_14 py2_15 py2_16 py2_17)), (Yw 0, .inr (8, o8_iirrriirrrrrrriii v_29 (nI n) (Yw 1) (Yw 2) wa_24 v_30 v_31 (y 19) (Yw 4) (Yw 5) (Yw 6) (Yw 7) (Yw 8) wb_25 v_32 v_33 v_34)), (Yw 1, aI V n f_35), (Yw 2, aI V n f_36), (wa_24, aI V n f_37), (Yw 4, aI V L f_38), (Yw 5, aI V n f_39), (Yw 6, aI V (n * 4) f_40), (Yw 7, aI V n f_41), (Yw 8, aI V 4 f_42), (wb_25, aI V n f_43)] ∧ va_S A s.heap H locs ∧ lv_has ls 7 [(5, .int u_52), (4, .int u_53), (3, .ref (Yw 0)), (0, .ref (y 0)), (1, .int a1), (2, .int a2)]) (g := fun ls => F0 m 41 ls []) (fun n_54 H locs ls hX ihn_54 => ?_) _ ⟨0, r_50, (iv_c (0 : Int32) (by decide)), kn_49, rfl, hP, hD, hS, lv_sub hl [0, 1, 2, 3, 4, 5] rfl⟩
      obtain ⟨u_52, u_53, bu_52, knn_54, en_54, hP, hD, hS, hl⟩ := hX
      refine lv_iload hx hb dX9_reaches_41 (lv_at hl 0 rfl) ?_
      refine lv_aload_n hx hb dX9_reaches_43 rfl (lv_at hl 2 rfl) ?_
      refine va_get (ci := 8) (v := .int v_30) (C := RX8) (T := TX8) (N := 17) hx hb hg inX8 hown hK hP 8 rfl rfl 5 (by decide) (hg _ q_4_78) (fun _ h9 => h9) rfl dX9_reaches_44 ?_
      refine lv_icmp_ge (tgt := 92) hx hb dX9_reaches_47 (by decide) (fun c_55 => ?_) (fun c_55 => ?_)
      · refine lv_iload hx hb dX9_reaches_92 (lv_at hl 1 rfl) ?_
        have hP := subP (ws' := [(y 0, .inr (9, o9_rirrrrrrrrrviii (y 1) py0_1 (y 2) (y 10) (y 19) (y 25) (y 26) (y 30) (y 31) (y 32) (Yw 0) o11 py0_12 py0_13 py0_14)), (y 2, .inr (1, o1_iiiiiirrrrrrriiiii py2_0 py2_1 py2_2 py2_3 py2_4 py2_5 (y 3) (y 4) (y 5) (y 6) (y 7) (y 8) (y 9) py2_13 py2_14 py2_15 py2_16 py2_17)), (y 3, aI V 4 fy3), (y 9, aI V 900 fy9), (y 19, .inr (4, o4_rrrrrr (y 2) (y 20) (y 21) (y 22) (y 23) (y 24))), (y 20, aI V 2000 f_26), (y 21, aI V 6 f_27), (y 22, aI V 64 f_28), (Yw 0, .inr (8, o8_iirrriirrrrrrriii v_29 (nI n) (Yw 1) (Yw 2) wa_24 v_30 v_31 (y 19) (Yw 4) (Yw 5) (Yw 6) (Yw 7) (Yw 8) wb_25 v_32 v_33 v_34)), (Yw 1, aI V n f_35), (Yw 2, aI V n f_36), (wa_24, aI V n f_37), (Yw 4, aI V L f_38), (Yw 5, aI V n f_39), (Yw 6, aI V (n * 4) f_40), (Yw 7, aI V n f_41), (Yw 8, aI V 4 f_42), (wb_25, aI V n f_43)]) hP [6, 7, 0, 1, 2, 3, 4, 5, 8, 9, 10, 11, 12, 13, 14, 15, 16, 17] rfl
        have hD := subD hP hD [6, 7, 0, 1, 2, 3, 4, 5, 8, 9, 10, 11, 12, 13, 14, 15, 16, 17] rfl rfl
        exact fiI hx hb hr hlk hK (subP (ws' := [(y 0, .inr (9, o9_rirrrrrrrrrviii (y 1) py0_1 (y 2) (y 10) (y 19) (y 25) (y 26) (y 30) (y 31) (y 32) (Yw 0) o11 py0_12 py0_13 py0_14)), (y 2, .inr (1, o1_iiiiiirrrrrrriiiii py2_0 py2_1 py2_2 py2_3 py2_4 py2_5 (y 3) (y 4) (y 5) (y 6) (y 7) (y 8) (y 9) py2_13 py2_14 py2_15 py2_16 py2_17)), (y 3, aI V 4 fy3), (y 9, aI V 900 fy9), (y 19, .inr (4, o4_rrrrrr (y 2) (y 20) (y 21) (y 22) (y 23) (y 24))), (y 20, aI V 2000 f_26), (y 21, aI V 6 f_27), (y 22, aI V 64 f_28), (Yw 0, .inr (8, o8_iirrriirrrrrrriii v_29 (nI n) (Yw 1) (Yw 2) wa_24 v_30 v_31 (y 19) (Yw 4) (Yw 5) (Yw 6) (Yw 7) (Yw 8) wb_25 v_32 v_33 v_34)), (Yw 1, aI V n f_35), (Yw 2, aI V n f_36), (wa_24, aI V n f_37), (Yw 4, aI V L f_38), (Yw 5, aI V n f_39), (Yw 6, aI V (n * 4) f_40), (Yw 7, aI V n f_41), (Yw 8, aI V 4 f_42), (wb_25, aI V n f_43)]) hP [0, 1, 2, 3, 4, 5, 6, 7, 8, 9, 10, 11, 12, 13, 14, 15, 16, 17] rfl) (hD.sub [0, 1, 2, 3, 4, 5, 6, 7, 8, 9, 10, 11, 12, 13, 14, 15, 16, 17] rfl rfl) hS dX9_reaches_94 (Nat.le_of_ble_eq_true rfl) (Nat.le_of_ble_eq_true rfl) (⟨n, L, Yw, wa_24, wb_25, f_26, f_27, f_28, v_29, v_30, v_31, v_32, v_33, v_34, f_35, f_36, f_37, f_38, f_39, f_40, f_41, f_42, f_43, hn, hL, tf_26, bv_29, bv_30, bv_31, bv_32, bv_33, bv_34, tf_35, tf_38, tf_39, tf_40, tf_41, g_44, g_45, g_46, g_48, knn_54, rfl⟩)
      · have b_56 : iv 0 ((n : Int) - 1) u_52 := iv_l1 (Int32.not_le.mp c_55) bu_52 bv_30 (by first | decide | omega)
        have b_57 : iv 1 ((n : Int)) v_30 := iv_l2 (Int32.not_le.mp c_55) bu_52 bv_30 (by first | decide | omega)
        refine lv_aload_n hx hb dX9_reaches_50 rfl (lv_at hl 2 rfl) ?_
        refine va_get (ci := 8) (v := .ref (Yw 1)) (C := RX8) (T := TX8) (N := 17) hx hb hg inX8 hown hK hP 8 rfl rfl 2 (by decide) (hg _ q_4_71) (fun _ h9 => h9) rfl dX9_reaches_51 ?_
        refine lv_iload hx hb dX9_reaches_54 (lv_at hl 0 rfl) ?_
        refine va_iald hx hb hK hP 9 0 rfl rfl (iv_in b_56 (by first | decide | omega)) dX9_reaches_56 ?_
        refine lv_topi (fun x_58 ex_58 => ?_)
        have bx_58 : iv 0 ((L : Int) - 1) x_58 := by rw [ex_58]; exact tf_35 _
        refine lv_iload_n hx hb dX9_reaches_57 rfl (lv_at hl 4 rfl) ?_
        refine jnI (wr := [(y 3, aI V 4 fy3), (y 9, aI V 900 fy9), (y 19, .inr (4, o4_rrrrrr (y 2) (y 20) (y 21) (y 22) (y 23) (y 24))), (y 20, aI V 2000 f_26), (y 21, aI V 6 f_27), (y 22, aI V 64 f_28), (y 0, .inr (9, o9_rirrrrrrrrrviii (y 1) py0_1 (y 2) (y 10) (y 19) (y 25) (y 26) (y 30) (y 31) (y 32) (Yw 0) o11 py0_12 py0_13 py0_14)), (y 2, .inr (1, o1_iiiiiirrrrrrriiiii py2_0 py2_1 py2_2 py2_3 py2_4 py2_5 (y 3) (y 4) (y 5) (y 6) (y 7) (y 8) (y 9) py2_13 py2_14 py2_15 py2_16 py2_17)), (Yw 0, .inr (8, o8_iirrriirrrrrrriii v_29 (nI n) (Yw 1) (Yw 2) wa_24 v_30 v_31 (y 19) (Yw 4) (Yw 5) (Yw 6) (Yw 7) (Yw 8) wb_25 v_32 v_33 v_34)), (Yw 1, aI V n f_35), (Yw 2, aI V n f_36), (wa_24, aI V n f_37), (Yw 4, aI V L f_38), (Yw 5, aI V n f_39), (Yw 6, aI V (n * 4) f_40), (Yw 7, aI V n f_41), (Yw 8, aI V 4 f_42), (wb_25, aI V n f_43)]) (rnS (rest := []) ⟨hx, hb, hml, hown, hg⟩ (k_X9_stackIn_0 l V x_58 a1 (iv_w bx_58 (by first | decide | omega)) (iv_w b_17 (by first | decide | omega))) mt_X9_stackIn q_3_126 ⟨Nat.le_of_ble_eq_true rfl, Nat.le_of_ble_eq_true rfl⟩ hK hP hD hS hA hE [] rfl rfl rfl hl.1 rfl (Nat.le_of_ble_eq_true rfl) dX9_reaches_58 ⟨Nat.le_of_ble_eq_true rfl, Nat.le_of_ble_eq_true rfl⟩) hP hD hS hA [] [0, 1, 2, 3, 4, 5, 6, 7, 8, 9, 10, 11, 12, 13, 14, 15, 16, 17] rfl rfl rfl (by decide) (fun r_59 w H locs hw hP hD hS => ?_)
        obtain ⟨br_59, er_59, et_60, rfl⟩ := hw
        have hP : va_P V.1 vwCl [(y 3, aI V 4 fy3), (y 9, aI V 900 fy9), (y 19, .inr (4, o4_rrrrrr (y 2) (y 20) (y 21) (y 22) (y 23) (y 24))), (y 20, aI V 2000 f_26), (y 21, aI V 6 f_27), (y 22, aI V 64 f_28), (y 0, .inr (9, o9_rirrrrrrrrrviii (y 1) py0_1 (y 2) (y 10) (y 19) (y 25) (y 26) (y 30) (y 31) (y 32) (Yw 0) o11 py0_12 py0_13 py0_14)), (y 2, .inr (1, o1_iiiiiirrrrrrriiiii py2_0 py2_1 py2_2 py2_3 py2_4 py2_5 (y 3) (y 4) (y 5) (y 6) (y 7) (y 8) (y 9) py2_13 py2_14 py2_15 py2_16 py2_17)), (Yw 0, .inr (8, o8_iirrriirrrrrrriii v_29 (nI n) (Yw 1) (Yw 2) wa_24 v_30 v_31 (y 19) (Yw 4) (Yw 5) (Yw 6) (Yw 7) (Yw 8) wb_25 v_32 v_33 v_34)), (Yw 1, aI V n f_35), (Yw 2, aI V n f_36), (wa_24, aI V n f_37), (Yw 4, aI V L f_38), (Yw 5, aI V n f_39), (Yw 6, aI V (n * 4) f_40), (Yw 7, aI V n f_41), (Yw 8, aI V 4 f_42), (wb_25, aI V n f_43)] H := hP
        have hD := cpD hP hD
        refine lv_istore (lv' := [(6, .int r_59), (5, .int u_52), (4, .int u_53), (3, .ref (Yw 0)), (0, .ref (y 0)), (1, .int a1), (2, .int a2)]) hx hb dX9_reaches_61 hl (by decide) rfl (fun ls hl => ?_)
        refine lv_iload_n hx hb dX9_reaches_63 rfl (lv_at hl 6 rfl) ?_
        refine lv_if_ne (tgt := 77) hx hb dX9_reaches_64 (by decide) (fun c_61 => absurd (iv_eqp b_22 (iv_c (0 : Int32) (a := 0) (b := 0) (by decide))) c_61) (fun _ => ?_)
        refine lv_iload hx hb dX9_reaches_67 (lv_at hl 2 rfl) ?_
        refine lv_iload hx hb dX9_reaches_69 (lv_at hl 0 rfl) ?_
        refine va_mmax hx hb (hml.trans hl.1.symm) hown (hg _ q_4_213) (hg _ q_2_102) (hg _ q_1_10) (hg _ q_2_103) (Nat.le_of_ble_eq_true rfl) (Nat.le_of_ble_eq_true rfl) (Nat.le_of_ble_eq_true rfl) (Nat.le_of_ble_eq_true rfl) dX9_reaches_71 ?_
        refine lv_topi (fun x_62 ex_62 => ?_)
        have bx_62 : iv 0 2147483647 x_62 := by rw [ex_62]; exact iv_max (iv_top u_53) br_59 (by first | decide | omega)
        refine lv_goto (tgt := 84) hx hb dX9_reaches_74 (by decide) ?_
        refine lv_istore (lv' := [(4, .int x_62), (6, .int r_59), (5, .int u_52), (3, .ref (Yw 0)), (0, .ref (y 0)), (1, .int a1), (2, .int a2)]) hx hb dX9_reaches_84 hl (by decide) rfl (fun ls hl => ?_)
        obtain ⟨x_63, ex_63⟩ : ∃ z9 : Int32, z9 = u_52 + 1 := ⟨_, rfl⟩
        have bx_63 : iv 1 ((n : Int)) x_63 := by rw [ex_63]; exact iv_add b_56 (iv_c (1 : Int32) (a := 1) (b := 1) (by first | decide | omega)) (by first | decide | omega)
        refine lv_iinc (v := x_63) (lv' := [(5, .int x_63), (4, .int x_62), (6, .int r_59), (3, .ref (Yw 0)), (0, .ref (y 0)), (1, .int a1), (2, .int a2)]) hx hb dX9_reaches_86 hl (k := 2) rfl (by rw [ex_63]; rfl) (by decide) rfl (fun ls hl => ?_)
        refine lv_goto (tgt := 41) hx hb dX9_reaches_89 (by decide) ?_
        exact ihn_54 _ _ _ _ (by rw [en_54, ex_63]; exact mu_up b_56 (by first | decide | omega)) ⟨x_63, x_62, (iv_w bx_63 (by first | decide | omega)), knn_54, rfl, hP, hD, hS, lv_sub hl [0, 1, 3, 4, 5, 6] rfl⟩
    · refine lv_iload_n hx hb dX9_reaches_12 rfl (lv_at hl 2 rfl) ?_
      refine lv_iconst (v := 1) hx hb dX9_reaches_13 (by decide) ?_
      refine lv_icmp_eq (tgt := 20) hx hb dX9_reaches_14 (by decide) (fun c_64 => ?_) (fun c_64 => ?_)
      · have b_65 : iv 1 1 a2 := iv_q c_64 (iv_c (1 : Int32) (a := 1) (b := 1) (by decide))
        refine lv_aload_n hx hb dX9_reaches_20 rfl (lv_at hl 0 rfl) ?_
        refine lv_ldcw (v := 1000000) hx hb hown (hg _ q_4_194) dX9_reaches_21 ?_
        refine jnR (wr := []) (rnV (rest := []) ⟨hx, hb, hml, hown, hg⟩ (k_X9_waysFromNow_1 l V y D9 1000000 fy3 fy9 fy20 fy21 fy22 py0_1 o11 py0_12 py0_13 py0_14 py2_0 py2_1 py2_2 py2_3 py2_4 py2_5 py2_13 py2_14 py2_15 py2_16 py2_17 tfy20 bpy0_1 bpy0_12 bpy0_13 (iv_w b_18 (by first | decide | omega)) bpy2_2 bpy2_3 bpy2_4 bpy2_5 bpy2_13 bpy2_14 bpy2_15 bpy2_16 bpy2_17 hL9 hK9) mt_X9_waysFromNow q_4_52 ⟨Nat.le_of_ble_eq_true rfl, Nat.le_of_ble_eq_true rfl⟩ hK hP hD hS hA hE [0, 1, 2, 3, 4, 5, 6, 7] rfl rfl 6 rfl rfl rfl rfl hl.1 rfl (Nat.le_of_ble_eq_true rfl) dX9_reaches_24 ⟨Nat.le_of_ble_eq_true rfl, Nat.le_of_ble_eq_true rfl⟩) hP hD hS hA [0, 1, 2, 3, 4, 5, 6, 7] [] rfl rfl rfl (by decide) (fun r_66 w H locs hw hP hD hS => ?_)
        refine W.widen (k := 10) (n := 46481) (Nat.le_of_ble_eq_true rfl) (Nat.le_of_ble_eq_true rfl) ?_
        obtain ⟨n, L, Yw, wa_67, wb_68, f_69, f_70, f_71, v_72, v_73, v_74, v_75, v_76, v_77, f_78, f_79, f_80, f_81, f_82, f_83, f_84, f_85, f_86, hn, hL, tf_69, bv_72, bv_73, bv_74, bv_75, bv_76, bv_77, tf_78, tf_81, tf_82, tf_83, tf_84, eW, g_87, g_88, g_89, g_90, g_91, kn_92, rfl⟩ := hw
        have hP : va_P V.1 vwCl [(y 3, aI V 4 fy3), (y 9, aI V 900 fy9), (y 19, .inr (4, o4_rrrrrr (y 2) (y 20) (y 21) (y 22) (y 23) (y 24))), (y 20, aI V 2000 f_69), (y 21, aI V 6 f_70), (y 22, aI V 64 f_71), (y 0, .inr (9, o9_rirrrrrrrrrviii (y 1) py0_1 (y 2) (y 10) (y 19) (y 25) (y 26) (y 30) (y 31) (y 32) (Yw 0) o11 py0_12 py0_13 py0_14)), (y 2, .inr (1, o1_iiiiiirrrrrrriiiii py2_0 py2_1 py2_2 py2_3 py2_4 py2_5 (y 3) (y 4) (y 5) (y 6) (y 7) (y 8) (y 9) py2_13 py2_14 py2_15 py2_16 py2_17)), (Yw 0, .inr (8, o8_iirrriirrrrrrriii v_72 (nI n) (Yw 1) (Yw 2) wa_67 v_73 v_74 (y 19) (Yw 4) (Yw 5) (Yw 6) (Yw 7) (Yw 8) wb_68 v_75 v_76 v_77)), (Yw 1, aI V n f_78), (Yw 2, aI V n f_79), (wa_67, aI V n f_80), (Yw 4, aI V L f_81), (Yw 5, aI V n f_82), (Yw 6, aI V (n * 4) f_83), (Yw 7, aI V n f_84), (Yw 8, aI V 4 f_85), (wb_68, aI V n f_86)] H := hP
        have hD := cpD hP hD
        rw [← eW]
        refine lv_astore_n (lv' := [(3, .ref (Yw 0)), (0, .ref (y 0)), (1, .int a1), (2, .int a2)]) hx hb dX9_reaches_27 rfl hl (by decide) rfl (fun ls hl => ?_)
        refine lv_aload_n hx hb dX9_reaches_28 rfl (lv_at hl 1 rfl) ?_
        refine va_get (ci := 9) (v := .int py0_12) (C := RX9) (T := TX9) (N := 15) hx hb hg inX9 hown hK hP 6 rfl rfl 12 (by decide) (hg _ q_2_48) (fun _ h9 => h9) rfl dX9_reaches_29 ?_
        refine lv_iload_n hx hb dX9_reaches_32 rfl (lv_at hl 2 rfl) ?_
        refine jnI (wr := [(y 3, aI V 4 fy3), (y 9, aI V 900 fy9), (y 19, .inr (4, o4_rrrrrr (y 2) (y 20) (y 21) (y 22) (y 23) (y 24))), (y 20, aI V 2000 f_69), (y 21, aI V 6 f_70), (y 22, aI V 64 f_71), (y 0, .inr (9, o9_rirrrrrrrrrviii (y 1) py0_1 (y 2) (y 10) (y 19) (y 25) (y 26) (y 30) (y 31) (y 32) (Yw 0) o11 py0_12 py0_13 py0_14)), (y 2, .inr (1, o1_iiiiiirrrrrrriiiii py2_0 py2_1 py2_2 py2_3 py2_4 py2_5 (y 3) (y 4) (y 5) (y 6) (y 7) (y 8) (y 9) py2_13 py2_14 py2_15 py2_16 py2_17)), (Yw 0, .inr (8, o8_iirrriirrrrrrriii v_72 (nI n) (Yw 1) (Yw 2) wa_67 v_73 v_74 (y 19) (Yw 4) (Yw 5) (Yw 6) (Yw 7) (Yw 8) wb_68 v_75 v_76 v_77)), (Yw 1, aI V n f_78), (Yw 2, aI V n f_79), (wa_67, aI V n f_80), (Yw 4, aI V L f_81), (Yw 5, aI V n f_82), (Yw 6, aI V (n * 4) f_83), (Yw 7, aI V n f_84), (Yw 8, aI V 4 f_85), (wb_68, aI V n f_86)]) (rnS (rest := []) ⟨hx, hb, hml, hown, hg⟩ (k_X9_stackIn_0 l V py0_12 a1 bpy0_12 (iv_w b_17 (by first | decide | omega))) mt_X9_stackIn q_3_126 ⟨Nat.le_of_ble_eq_true rfl, Nat.le_of_ble_eq_true rfl⟩ hK hP hD hS hA hE [] rfl rfl rfl hl.1 rfl (Nat.le_of_ble_eq_true rfl) dX9_reaches_33 ⟨Nat.le_of_ble_eq_true rfl, Nat.le_of_ble_eq_true rfl⟩) hP hD hS hA [] [0, 1, 2, 3, 4, 5, 6, 7, 8, 9, 10, 11, 12, 13, 14, 15, 16, 17] rfl rfl rfl (by decide) (fun r_93 w H locs hw hP hD hS => ?_)
        obtain ⟨br_93, er_93, et_94, rfl⟩ := hw
        have hP : va_P V.1 vwCl [(y 3, aI V 4 fy3), (y 9, aI V 900 fy9), (y 19, .inr (4, o4_rrrrrr (y 2) (y 20) (y 21) (y 22) (y 23) (y 24))), (y 20, aI V 2000 f_69), (y 21, aI V 6 f_70), (y 22, aI V 64 f_71), (y 0, .inr (9, o9_rirrrrrrrrrviii (y 1) py0_1 (y 2) (y 10) (y 19) (y 25) (y 26) (y 30) (y 31) (y 32) (Yw 0) o11 py0_12 py0_13 py0_14)), (y 2, .inr (1, o1_iiiiiirrrrrrriiiii py2_0 py2_1 py2_2 py2_3 py2_4 py2_5 (y 3) (y 4) (y 5) (y 6) (y 7) (y 8) (y 9) py2_13 py2_14 py2_15 py2_16 py2_17)), (Yw 0, .inr (8, o8_iirrriirrrrrrriii v_72 (nI n) (Yw 1) (Yw 2) wa_67 v_73 v_74 (y 19) (Yw 4) (Yw 5) (Yw 6) (Yw 7) (Yw 8) wb_68 v_75 v_76 v_77)), (Yw 1, aI V n f_78), (Yw 2, aI V n f_79), (wa_67, aI V n f_80), (Yw 4, aI V L f_81), (Yw 5, aI V n f_82), (Yw 6, aI V (n * 4) f_83), (Yw 7, aI V n f_84), (Yw 8, aI V 4 f_85), (wb_68, aI V n f_86)] H := hP
        have hD := cpD hP hD
        refine lv_istore (lv' := [(4, .int r_93), (3, .ref (Yw 0)), (0, .ref (y 0)), (1, .int a1), (2, .int a2)]) hx hb dX9_reaches_36 hl (by decide) rfl (fun ls hl => ?_)
        refine lv_iconst (v := 0) hx hb dX9_reaches_38 (by decide) ?_
        refine lv_istore (lv' := [(5, .int 0), (4, .int r_93), (3, .ref (Yw 0)), (0, .ref (y 0)), (1, .int a1), (2, .int a2)]) hx hb dX9_reaches_39 hl (by decide) rfl (fun ls hl => ?_)
        refine loopF (X := fun (n_97 : Nat) (H : Heap) (locs : List Loc) (ls : Array Slot) => ∃ (u_95 : Int32) (u_96 : Int32), (iv 0 2147483647 u_95) ∧ KN D9 f_69 ∧ n_97 = (2147483647 - (u_95 : Int32).toInt).toNat ∧ va_P V.1 vwCl [(y 3, aI V 4 fy3), (y 9, aI V 900 fy9), (y 19, .inr (4, o4_rrrrrr (y 2) (y 20) (y 21) (y 22) (y 23) (y 24))), (y 20, aI V 2000 f_69), (y 21, aI V 6 f_70), (y 22, aI V 64 f_71), (y 0, .inr (9, o9_rirrrrrrrrrviii (y 1) py0_1 (y 2) (y 10) (y 19) (y 25) (y 26) (y 30) (y 31) (y 32) (Yw 0) o11 py0_12 py0_13 py0_14)), (y 2, .inr (1, o1_iiiiiirrrrrrriiiii py2_0 py2_1 py2_2 py2_3 py2_4 py2_5 (y 3) (y 4) (y 5) (y 6) (y 7) (y 8) (y 9) py2_13 py2_14 py2_15 py2_16 py2_17)), (Yw 0, .inr (8, o8_iirrriirrrrrrriii v_72 (nI n) (Yw 1) (Yw 2) wa_67 v_73 v_74 (y 19) (Yw 4) (Yw 5) (Yw 6) (Yw 7) (Yw 8) wb_68 v_75 v_76 v_77)), (Yw 1, aI V n f_78), (Yw 2, aI V n f_79), (wa_67, aI V n f_80), (Yw 4, aI V L f_81), (Yw 5, aI V n f_82), (Yw 6, aI V (n * 4) f_83), (Yw 7, aI V n f_84), (Yw 8, aI V 4 f_85), (wb_68, aI V n f_86)] H ∧ va_D A [(y 3, aI V 4 fy3), (y 9, aI V 900 fy9), (y 19, .inr (4, o4_rrrrrr (y 2) (y 20) (y 21) (y 22) (y 23) (y 24))), (y 20, aI V 2000 f_69), (y 21, aI V 6 f_70), (y 22, aI V 64 f_71), (y 0, .inr (9, o9_rirrrrrrrrrviii (y 1) py0_1 (y 2) (y 10) (y 19) (y 25) (y 26) (y 30) (y 31) (y 32) (Yw 0) o11 py0_12 py0_13 py0_14)), (y 2, .inr (1, o1_iiiiiirrrrrrriiiii py2_0 py2_1 py2_2 py2_3 py2_4 py2_5 (y 3) (y 4) (y 5) (y 6) (y 7) (y 8) (y 9) py2_13 py2_14 py2_15 py2_16 py2_17)), (Yw 0, .inr (8, o8_iirrriirrrrrrriii v_72 (nI n) (Yw 1) (Yw 2) wa_67 v_73 v_74 (y 19) (Yw 4) (Yw 5) (Yw 6) (Yw 7) (Yw 8) wb_68 v_75 v_76 v_77)), (Yw 1, aI V n f_78), (Yw 2, aI V n f_79), (wa_67, aI V n f_80), (Yw 4, aI V L f_81), (Yw 5, aI V n f_82), (Yw 6, aI V (n * 4) f_83), (Yw 7, aI V n f_84), (Yw 8, aI V 4 f_85), (wb_68, aI V n f_86)] ∧ va_S A s.heap H locs ∧ lv_has ls 7 [(5, .int u_95), (4, .int u_96), (3, .ref (Yw 0)), (0, .ref (y 0)), (1, .int a1), (2, .int a2)]) (g := fun ls => F0 m 41 ls []) (fun n_97 H locs ls hX ihn_97 => ?_) _ ⟨0, r_93, (iv_c (0 : Int32) (by decide)), kn_92, rfl, hP, hD, hS, lv_sub hl [0, 1, 2, 3, 4, 5] rfl⟩
        obtain ⟨u_95, u_96, bu_95, knn_97, en_97, hP, hD, hS, hl⟩ := hX
        refine lv_iload hx hb dX9_reaches_41 (lv_at hl 0 rfl) ?_
        refine lv_aload_n hx hb dX9_reaches_43 rfl (lv_at hl 2 rfl) ?_
        refine va_get (ci := 8) (v := .int v_73) (C := RX8) (T := TX8) (N := 17) hx hb hg inX8 hown hK hP 8 rfl rfl 5 (by decide) (hg _ q_4_78) (fun _ h9 => h9) rfl dX9_reaches_44 ?_
        refine lv_icmp_ge (tgt := 92) hx hb dX9_reaches_47 (by decide) (fun c_98 => ?_) (fun c_98 => ?_)
        · refine lv_iload hx hb dX9_reaches_92 (lv_at hl 1 rfl) ?_
          have hP := subP (ws' := [(y 0, .inr (9, o9_rirrrrrrrrrviii (y 1) py0_1 (y 2) (y 10) (y 19) (y 25) (y 26) (y 30) (y 31) (y 32) (Yw 0) o11 py0_12 py0_13 py0_14)), (y 2, .inr (1, o1_iiiiiirrrrrrriiiii py2_0 py2_1 py2_2 py2_3 py2_4 py2_5 (y 3) (y 4) (y 5) (y 6) (y 7) (y 8) (y 9) py2_13 py2_14 py2_15 py2_16 py2_17)), (y 3, aI V 4 fy3), (y 9, aI V 900 fy9), (y 19, .inr (4, o4_rrrrrr (y 2) (y 20) (y 21) (y 22) (y 23) (y 24))), (y 20, aI V 2000 f_69), (y 21, aI V 6 f_70), (y 22, aI V 64 f_71), (Yw 0, .inr (8, o8_iirrriirrrrrrriii v_72 (nI n) (Yw 1) (Yw 2) wa_67 v_73 v_74 (y 19) (Yw 4) (Yw 5) (Yw 6) (Yw 7) (Yw 8) wb_68 v_75 v_76 v_77)), (Yw 1, aI V n f_78), (Yw 2, aI V n f_79), (wa_67, aI V n f_80), (Yw 4, aI V L f_81), (Yw 5, aI V n f_82), (Yw 6, aI V (n * 4) f_83), (Yw 7, aI V n f_84), (Yw 8, aI V 4 f_85), (wb_68, aI V n f_86)]) hP [6, 7, 0, 1, 2, 3, 4, 5, 8, 9, 10, 11, 12, 13, 14, 15, 16, 17] rfl
          have hD := subD hP hD [6, 7, 0, 1, 2, 3, 4, 5, 8, 9, 10, 11, 12, 13, 14, 15, 16, 17] rfl rfl
          exact fiI hx hb hr hlk hK (subP (ws' := [(y 0, .inr (9, o9_rirrrrrrrrrviii (y 1) py0_1 (y 2) (y 10) (y 19) (y 25) (y 26) (y 30) (y 31) (y 32) (Yw 0) o11 py0_12 py0_13 py0_14)), (y 2, .inr (1, o1_iiiiiirrrrrrriiiii py2_0 py2_1 py2_2 py2_3 py2_4 py2_5 (y 3) (y 4) (y 5) (y 6) (y 7) (y 8) (y 9) py2_13 py2_14 py2_15 py2_16 py2_17)), (y 3, aI V 4 fy3), (y 9, aI V 900 fy9), (y 19, .inr (4, o4_rrrrrr (y 2) (y 20) (y 21) (y 22) (y 23) (y 24))), (y 20, aI V 2000 f_69), (y 21, aI V 6 f_70), (y 22, aI V 64 f_71), (Yw 0, .inr (8, o8_iirrriirrrrrrriii v_72 (nI n) (Yw 1) (Yw 2) wa_67 v_73 v_74 (y 19) (Yw 4) (Yw 5) (Yw 6) (Yw 7) (Yw 8) wb_68 v_75 v_76 v_77)), (Yw 1, aI V n f_78), (Yw 2, aI V n f_79), (wa_67, aI V n f_80), (Yw 4, aI V L f_81), (Yw 5, aI V n f_82), (Yw 6, aI V (n * 4) f_83), (Yw 7, aI V n f_84), (Yw 8, aI V 4 f_85), (wb_68, aI V n f_86)]) hP [0, 1, 2, 3, 4, 5, 6, 7, 8, 9, 10, 11, 12, 13, 14, 15, 16, 17] rfl) (hD.sub [0, 1, 2, 3, 4, 5, 6, 7, 8, 9, 10, 11, 12, 13, 14, 15, 16, 17] rfl rfl) hS dX9_reaches_94 (Nat.le_of_ble_eq_true rfl) (Nat.le_of_ble_eq_true rfl) (⟨n, L, Yw, wa_67, wb_68, f_69, f_70, f_71, v_72, v_73, v_74, v_75, v_76, v_77, f_78, f_79, f_80, f_81, f_82, f_83, f_84, f_85, f_86, hn, hL, tf_69, bv_72, bv_73, bv_74, bv_75, bv_76, bv_77, tf_78, tf_81, tf_82, tf_83, tf_84, g_87, g_88, g_89, g_91, knn_97, rfl⟩)
        · have b_99 : iv 0 ((n : Int) - 1) u_95 := iv_l1 (Int32.not_le.mp c_98) bu_95 bv_73 (by first | decide | omega)
          have b_100 : iv 1 ((n : Int)) v_73 := iv_l2 (Int32.not_le.mp c_98) bu_95 bv_73 (by first | decide | omega)
          refine lv_aload_n hx hb dX9_reaches_50 rfl (lv_at hl 2 rfl) ?_
          refine va_get (ci := 8) (v := .ref (Yw 1)) (C := RX8) (T := TX8) (N := 17) hx hb hg inX8 hown hK hP 8 rfl rfl 2 (by decide) (hg _ q_4_71) (fun _ h9 => h9) rfl dX9_reaches_51 ?_
          refine lv_iload hx hb dX9_reaches_54 (lv_at hl 0 rfl) ?_
          refine va_iald hx hb hK hP 9 0 rfl rfl (iv_in b_99 (by first | decide | omega)) dX9_reaches_56 ?_
          refine lv_topi (fun x_101 ex_101 => ?_)
          have bx_101 : iv 0 ((L : Int) - 1) x_101 := by rw [ex_101]; exact tf_78 _
          refine lv_iload_n hx hb dX9_reaches_57 rfl (lv_at hl 4 rfl) ?_
          refine jnI (wr := [(y 3, aI V 4 fy3), (y 9, aI V 900 fy9), (y 19, .inr (4, o4_rrrrrr (y 2) (y 20) (y 21) (y 22) (y 23) (y 24))), (y 20, aI V 2000 f_69), (y 21, aI V 6 f_70), (y 22, aI V 64 f_71), (y 0, .inr (9, o9_rirrrrrrrrrviii (y 1) py0_1 (y 2) (y 10) (y 19) (y 25) (y 26) (y 30) (y 31) (y 32) (Yw 0) o11 py0_12 py0_13 py0_14)), (y 2, .inr (1, o1_iiiiiirrrrrrriiiii py2_0 py2_1 py2_2 py2_3 py2_4 py2_5 (y 3) (y 4) (y 5) (y 6) (y 7) (y 8) (y 9) py2_13 py2_14 py2_15 py2_16 py2_17)), (Yw 0, .inr (8, o8_iirrriirrrrrrriii v_72 (nI n) (Yw 1) (Yw 2) wa_67 v_73 v_74 (y 19) (Yw 4) (Yw 5) (Yw 6) (Yw 7) (Yw 8) wb_68 v_75 v_76 v_77)), (Yw 1, aI V n f_78), (Yw 2, aI V n f_79), (wa_67, aI V n f_80), (Yw 4, aI V L f_81), (Yw 5, aI V n f_82), (Yw 6, aI V (n * 4) f_83), (Yw 7, aI V n f_84), (Yw 8, aI V 4 f_85), (wb_68, aI V n f_86)]) (rnS (rest := []) ⟨hx, hb, hml, hown, hg⟩ (k_X9_stackIn_0 l V x_101 a1 (iv_w bx_101 (by first | decide | omega)) (iv_w b_17 (by first | decide | omega))) mt_X9_stackIn q_3_126 ⟨Nat.le_of_ble_eq_true rfl, Nat.le_of_ble_eq_true rfl⟩ hK hP hD hS hA hE [] rfl rfl rfl hl.1 rfl (Nat.le_of_ble_eq_true rfl) dX9_reaches_58 ⟨Nat.le_of_ble_eq_true rfl, Nat.le_of_ble_eq_true rfl⟩) hP hD hS hA [] [0, 1, 2, 3, 4, 5, 6, 7, 8, 9, 10, 11, 12, 13, 14, 15, 16, 17] rfl rfl rfl (by decide) (fun r_102 w H locs hw hP hD hS => ?_)
          obtain ⟨br_102, er_102, et_103, rfl⟩ := hw
          have hP : va_P V.1 vwCl [(y 3, aI V 4 fy3), (y 9, aI V 900 fy9), (y 19, .inr (4, o4_rrrrrr (y 2) (y 20) (y 21) (y 22) (y 23) (y 24))), (y 20, aI V 2000 f_69), (y 21, aI V 6 f_70), (y 22, aI V 64 f_71), (y 0, .inr (9, o9_rirrrrrrrrrviii (y 1) py0_1 (y 2) (y 10) (y 19) (y 25) (y 26) (y 30) (y 31) (y 32) (Yw 0) o11 py0_12 py0_13 py0_14)), (y 2, .inr (1, o1_iiiiiirrrrrrriiiii py2_0 py2_1 py2_2 py2_3 py2_4 py2_5 (y 3) (y 4) (y 5) (y 6) (y 7) (y 8) (y 9) py2_13 py2_14 py2_15 py2_16 py2_17)), (Yw 0, .inr (8, o8_iirrriirrrrrrriii v_72 (nI n) (Yw 1) (Yw 2) wa_67 v_73 v_74 (y 19) (Yw 4) (Yw 5) (Yw 6) (Yw 7) (Yw 8) wb_68 v_75 v_76 v_77)), (Yw 1, aI V n f_78), (Yw 2, aI V n f_79), (wa_67, aI V n f_80), (Yw 4, aI V L f_81), (Yw 5, aI V n f_82), (Yw 6, aI V (n * 4) f_83), (Yw 7, aI V n f_84), (Yw 8, aI V 4 f_85), (wb_68, aI V n f_86)] H := hP
          have hD := cpD hP hD
          refine lv_istore (lv' := [(6, .int r_102), (5, .int u_95), (4, .int u_96), (3, .ref (Yw 0)), (0, .ref (y 0)), (1, .int a1), (2, .int a2)]) hx hb dX9_reaches_61 hl (by decide) rfl (fun ls hl => ?_)
          refine lv_iload_n hx hb dX9_reaches_63 rfl (lv_at hl 6 rfl) ?_
          refine lv_if_ne (tgt := 77) hx hb dX9_reaches_64 (by decide) (fun _ => ?_) (fun c_104 => absurd c_104 (iv_ne b_65 (iv_c (0 : Int32) (a := 0) (b := 0) (by decide)) (by first | decide | omega)))
          refine lv_iload hx hb dX9_reaches_77 (lv_at hl 2 rfl) ?_
          refine lv_iload hx hb dX9_reaches_79 (lv_at hl 0 rfl) ?_
          refine va_mmin hx hb (hml.trans hl.1.symm) hown (hg _ q_4_214) (hg _ q_2_99) (hg _ q_1_10) (hg _ q_2_100) (Nat.le_of_ble_eq_true rfl) (Nat.le_of_ble_eq_true rfl) (Nat.le_of_ble_eq_true rfl) (Nat.le_of_ble_eq_true rfl) dX9_reaches_81 ?_
          refine lv_topi (fun x_105 ex_105 => ?_)
          have bx_105 : iv (-2147483648) 4 x_105 := by rw [ex_105]; exact iv_min (iv_top u_96) br_102 (by first | decide | omega)
          refine lv_istore (lv' := [(4, .int x_105), (6, .int r_102), (5, .int u_95), (3, .ref (Yw 0)), (0, .ref (y 0)), (1, .int a1), (2, .int a2)]) hx hb dX9_reaches_84 hl (by decide) rfl (fun ls hl => ?_)
          obtain ⟨x_106, ex_106⟩ : ∃ z9 : Int32, z9 = u_95 + 1 := ⟨_, rfl⟩
          have bx_106 : iv 1 ((n : Int)) x_106 := by rw [ex_106]; exact iv_add b_99 (iv_c (1 : Int32) (a := 1) (b := 1) (by first | decide | omega)) (by first | decide | omega)
          refine lv_iinc (v := x_106) (lv' := [(5, .int x_106), (4, .int x_105), (6, .int r_102), (3, .ref (Yw 0)), (0, .ref (y 0)), (1, .int a1), (2, .int a2)]) hx hb dX9_reaches_86 hl (k := 2) rfl (by rw [ex_106]; rfl) (by decide) rfl (fun ls hl => ?_)
          refine lv_goto (tgt := 41) hx hb dX9_reaches_89 (by decide) ?_
          exact ihn_97 _ _ _ _ (by rw [en_97, ex_106]; exact mu_up b_99 (by first | decide | omega)) ⟨x_106, x_105, (iv_w bx_106 (by first | decide | omega)), knn_97, rfl, hP, hD, hS, lv_sub hl [0, 1, 3, 4, 5, 6] rfl⟩
      · refine lv_bipush (v := (-2)) hx hb dX9_reaches_17 (by decide) ?_
        have z_0 := Int32.le_iff_toInt_le.mp (Int32.not_lt.mp c_7)
        have z_1 := Int32.lt_iff_toInt_lt.mp (Int32.not_le.mp c_8)
        have z_2 : ¬ ((a2 : Int32).toInt = (0 : Int32).toInt) := fun q9 => c_21 (Int32.toInt_inj.mp q9)
        have z_3 : ¬ ((a2 : Int32).toInt = (1 : Int32).toInt) := fun q9 => c_64 (Int32.toInt_inj.mp q9)
        have k_0 : (0 : Int32).toInt = 0 := (by decide)
        have k_1 : (1 : Int32).toInt = 1 := (by decide)
        exfalso
        have g_0 := hf0
        have g_1 := hf1
        have g_2 := hf2
        have g_3 := hf3
        omega
set_option maxHeartbeats 4000000 in
set_option maxRecDepth 100000 in
theorem k_X9_reaches_3 (l : Launch) (V : GV) (n : Nat) (L : Nat) (Yw : Nat → Nat) (y : Nat → Nat) (D9 : Nat → Int32) (a1 : Int32) (a2 : Int32) (py0_1 : Int32) (o11 : Value) (py0_12 : Int32) (py0_13 : Int32) (py0_14 : Int32) (py2_0 : Int32) (py2_1 : Int32) (py2_2 : Int32) (py2_3 : Int32) (py2_4 : Int32) (py2_5 : Int32) (py2_13 : Int32) (py2_14 : Int32) (py2_15 : Int32) (py2_16 : Int32) (py2_17 : Int32) (fy3 : Nat → Int32) (fy9 : Nat → Int32) (fy20 : Nat → Int32) (fy21 : Nat → Int32) (fy22 : Nat → Int32) (pYw0_0 : Int32) (wa : Nat) (pYw0_5 : Int32) (pYw0_6 : Int32) (wb : Nat) (pYw0_14 : Int32) (pYw0_15 : Int32) (pYw0_16 : Int32) (fYw1 : Nat → Int32) (fYw2 : Nat → Int32) (fwa : Nat → Int32) (fYw4 : Nat → Int32) (fYw5 : Nat → Int32) (fYw6 : Nat → Int32) (fYw7 : Nat → Int32) (fYw8 : Nat → Int32) (fwb : Nat → Int32) (hn : 1 ≤ n ∧ n ≤ 3646) (hL : 1 ≤ L ∧ L ≤ 10000) (hq0 : pYw0_0 < py2_1) (bpy0_1 : iv 0 900 py0_1) (bpy0_12 : iv 0 9999 py0_12) (bpy0_13 : iv 0 9 py0_13) (bpy2_1 : iv 0 4 py2_1) (bpy2_2 : iv 0 4 py2_2) (bpy2_3 : iv 0 8 py2_3) (bpy2_4 : iv 0 9999 py2_4) (bpy2_5 : iv 0 9 py2_5) (bpy2_13 : iv 0 900 py2_13) (bpy2_14 : iv 0 900 py2_14) (bpy2_15 : iv 0 900 py2_15) (bpy2_16 : iv 0 900 py2_16) (bpy2_17 : iv 0 900 py2_17) (tfy20 : ∀ j, iv 0 10 (fy20 j)) (bpYw0_0 : iv 0 4 pYw0_0) (bpYw0_5 : iv 0 ((n : Int)) pYw0_5) (bpYw0_6 : iv 0 4 pYw0_6) (bpYw0_14 : iv 0 4 pYw0_14) (bpYw0_15 : iv 0 9 pYw0_15) (bpYw0_16 : iv 0 ((n : Int)) pYw0_16) (tfYw1 : ∀ j, iv 0 ((L : Int) - 1) (fYw1 j)) (tfYw4 : ∀ j, iv 0 ((n : Int)) (fYw4 j)) (tfYw5 : ∀ j, iv 0 (4 * (n : Int) - 1) (fYw5 j)) (tfYw6 : ∀ j, iv 0 ((n : Int) - 1) (fYw6 j)) (tfYw7 : ∀ j, iv 0 ((n : Int) - 1) (fYw7 j)) (hf0 : WA pYw0_5 fYw4 fYw1) (hf1 : WB pYw0_16 pYw0_6 pYw0_5 fYw6) (hf2 : WC pYw0_5 fYw2) (hf3 : 0 ≤ (a1 : Int32).toInt) (hf4 : (a1 : Int32).toInt < (py2_1 : Int32).toInt) (hf5 : 0 ≤ (a2 : Int32).toInt) (hf6 : (a2 : Int32).toInt ≤ 1) (hL9 : LW D9 fy3 fy9 py2_14 py2_15 py2_16 py2_17) (hK9 : KN D9 fy20) : Ct l V yX9_reaches (.code yX9_reaches cX9_reaches 7 (some .int)) 8 [.ref (y 0), .int a1, .int a2] [(y 0, .inr (9, o9_rirrrrrrrrrviii (y 1) py0_1 (y 2) (y 10) (y 19) (y 25) (y 26) (y 30) (y 31) (y 32) (Yw 0) o11 py0_12 py0_13 py0_14)), (y 2, .inr (1, o1_iiiiiirrrrrrriiiii py2_0 py2_1 py2_2 py2_3 py2_4 py2_5 (y 3) (y 4) (y 5) (y 6) (y 7) (y 8) (y 9) py2_13 py2_14 py2_15 py2_16 py2_17)), (y 3, aI V 4 fy3), (y 9, aI V 900 fy9), (y 19, .inr (4, o4_rrrrrr (y 2) (y 20) (y 21) (y 22) (y 23) (y 24))), (y 20, aI V 2000 fy20), (y 21, aI V 6 fy21), (y 22, aI V 64 fy22), (Yw 0, .inr (8, o8_iirrriirrrrrrriii pYw0_0 (nI n) (Yw 1) (Yw 2) wa pYw0_5 pYw0_6 (y 19) (Yw 4) (Yw 5) (Yw 6) (Yw 7) (Yw 8) wb pYw0_14 pYw0_15 pYw0_16)), (Yw 1, aI V n fYw1), (Yw 2, aI V n fYw2), (wa, aI V n fwa), (Yw 4, aI V L fYw4), (Yw 5, aI V n fYw5), (Yw 6, aI V (n * 4) fYw6), (Yw 7, aI V n fYw7), (Yw 8, aI V 4 fYw8), (wb, aI V n fwb)] 10 46481 (QI V (fun (r : Int32) (w : va_W) => ∃ (n : Nat) (L : Nat) (Yw : Nat → Nat) (wa : Nat) (wb : Nat) (g0 : Nat → Int32) (g1 : Nat → Int32) (g2 : Nat → Int32) (ww0 : Int32) (ww5 : Int32) (ww6 : Int32) (ww14 : Int32) (ww15 : Int32) (ww16 : Int32) (wew1 : Nat → Int32) (wew2 : Nat → Int32) (wew3 : Nat → Int32) (wew4 : Nat → Int32) (wew5 : Nat → Int32) (wew6 : Nat → Int32) (wew7 : Nat → Int32) (wew8 : Nat → Int32) (wew9 : Nat → Int32), (1 ≤ n ∧ n ≤ 3646) ∧ (1 ≤ L ∧ L ≤ 10000) ∧ (∀ j, iv 0 10 (g0 j)) ∧ iv 0 4 ww0 ∧ iv 0 ((n : Int)) ww5 ∧ iv 0 4 ww6 ∧ iv 0 4 ww14 ∧ iv 0 9 ww15 ∧ iv 0 ((n : Int)) ww16 ∧ (∀ j, iv 0 ((L : Int) - 1) (wew1 j)) ∧ (∀ j, iv 0 ((n : Int)) (wew4 j)) ∧ (∀ j, iv 0 (4 * (n : Int) - 1) (wew5 j)) ∧ (∀ j, iv 0 ((n : Int) - 1) (wew6 j)) ∧ (∀ j, iv 0 ((n : Int) - 1) (wew7 j)) ∧ (WA ww5 wew4 wew1) ∧ (WB ww16 ww6 ww5 wew6) ∧ (WC ww5 wew2) ∧ (ww0 = py2_1) ∧ KN D9 g0 ∧ w = [(y 0, .inr (9, o9_rirrrrrrrrrviii (y 1) py0_1 (y 2) (y 10) (y 19) (y 25) (y 26) (y 30) (y 31) (y 32) (Yw 0) o11 py0_12 py0_13 py0_14)), (y 2, .inr (1, o1_iiiiiirrrrrrriiiii py2_0 py2_1 py2_2 py2_3 py2_4 py2_5 (y 3) (y 4) (y 5) (y 6) (y 7) (y 8) (y 9) py2_13 py2_14 py2_15 py2_16 py2_17)), (y 3, aI V 4 fy3), (y 9, aI V 900 fy9), (y 19, .inr (4, o4_rrrrrr (y 2) (y 20) (y 21) (y 22) (y 23) (y 24))), (y 20, aI V 2000 g0), (y 21, aI V 6 g1), (y 22, aI V 64 g2), (Yw 0, .inr (8, o8_iirrriirrrrrrriii ww0 (nI n) (Yw 1) (Yw 2) wa ww5 ww6 (y 19) (Yw 4) (Yw 5) (Yw 6) (Yw 7) (Yw 8) wb ww14 ww15 ww16)), (Yw 1, aI V n wew1), (Yw 2, aI V n wew2), (wa, aI V n wew3), (Yw 4, aI V L wew4), (Yw 5, aI V n wew5), (Yw 6, aI V (n * 4) wew6), (Yw 7, aI V n wew7), (Yw 8, aI V 4 wew8), (wb, aI V n wew9)])) := by
  refine Ct.of (by decide) (Nat.le_of_ble_eq_true rfl) (fun p e s m below meth c A ls hx hb hr hml hown hlk hnm hg hP hK hD hE hA hS hl => ?_)
  have hl : lv_has ls 7 [(0, .ref (y 0)), (1, .int a1), (2, .int a2)] := hl
  refine lv_aload_n hx hb dX9_reaches_0 rfl (lv_at hl 0 rfl) ?_
  refine lv_iload_n hx hb dX9_reaches_1 rfl (lv_at hl 1 rfl) ?_
  refine jnI (wr := [(y 3, aI V 4 fy3), (y 9, aI V 900 fy9), (y 19, .inr (4, o4_rrrrrr (y 2) (y 20) (y 21) (y 22) (y 23) (y 24))), (y 20, aI V 2000 fy20), (y 21, aI V 6 fy21), (y 22, aI V 64 fy22), (Yw 0, .inr (8, o8_iirrriirrrrrrriii pYw0_0 (nI n) (Yw 1) (Yw 2) wa pYw0_5 pYw0_6 (y 19) (Yw 4) (Yw 5) (Yw 6) (Yw 7) (Yw 8) wb pYw0_14 pYw0_15 pYw0_16)), (Yw 1, aI V n fYw1), (Yw 2, aI V n fYw2), (wa, aI V n fwa), (Yw 4, aI V L fYw4), (Yw 5, aI V n fYw5), (Yw 6, aI V (n * 4) fYw6), (Yw 7, aI V n fYw7), (Yw 8, aI V 4 fYw8), (wb, aI V n fwb)]) (rnV (rest := []) ⟨hx, hb, hml, hown, hg⟩ (k_X9_isHill_0 l V y a1 py0_1 (.ref (Yw 0)) o11 py0_12 py0_13 py0_14 py2_0 py2_1 py2_2 py2_3 py2_4 py2_5 py2_13 py2_14 py2_15 py2_16 py2_17 bpy0_1 bpy0_12 bpy0_13 bpy2_1 bpy2_2 bpy2_3 bpy2_4 bpy2_5 bpy2_13 bpy2_14 bpy2_15 bpy2_16 bpy2_17) mt_X9_isHill q_3_122 ⟨Nat.le_of_ble_eq_true rfl, Nat.le_of_ble_eq_true rfl⟩ hK hP hD hS hA hE [0, 1] rfl rfl 0 rfl rfl rfl rfl hl.1 rfl (Nat.le_of_ble_eq_true rfl) dX9_reaches_2 ⟨Nat.le_of_ble_eq_true rfl, Nat.le_of_ble_eq_true rfl⟩) hP hD hS hA [0, 1] [2, 3, 4, 5, 6, 7, 8, 9, 10, 11, 12, 13, 14, 15, 16, 17] rfl rfl rfl (by decide) (fun r_1 w H locs hw hP hD hS => ?_)
  rcases hw with ⟨c_2, rfl, et_3, rfl⟩ | ⟨c_4, c_5, rfl, et_6, rfl⟩ | ⟨c_7, c_8, rfl, et_9, rfl⟩
  · have hP : va_P V.1 vwCl [(y 3, aI V 4 fy3), (y 9, aI V 900 fy9), (y 19, .inr (4, o4_rrrrrr (y 2) (y 20) (y 21) (y 22) (y 23) (y 24))), (y 20, aI V 2000 fy20), (y 21, aI V 6 fy21), (y 22, aI V 64 fy22), (Yw 0, .inr (8, o8_iirrriirrrrrrriii pYw0_0 (nI n) (Yw 1) (Yw 2) wa pYw0_5 pYw0_6 (y 19) (Yw 4) (Yw 5) (Yw 6) (Yw 7) (Yw 8) wb pYw0_14 pYw0_15 pYw0_16)), (Yw 1, aI V n fYw1), (Yw 2, aI V n fYw2), (wa, aI V n fwa), (Yw 4, aI V L fYw4), (Yw 5, aI V n fYw5), (Yw 6, aI V (n * 4) fYw6), (Yw 7, aI V n fYw7), (Yw 8, aI V 4 fYw8), (wb, aI V n fwb), (y 0, .inr (9, o9_rirrrrrrrrrviii (y 1) py0_1 (y 2) (y 10) (y 19) (y 25) (y 26) (y 30) (y 31) (y 32) (Yw 0) o11 py0_12 py0_13 py0_14)), (y 2, .inr (1, o1_iiiiiirrrrrrriiiii py2_0 py2_1 py2_2 py2_3 py2_4 py2_5 (y 3) (y 4) (y 5) (y 6) (y 7) (y 8) (y 9) py2_13 py2_14 py2_15 py2_16 py2_17))] H := hP
    have hD := cpD hP hD
    have b_10 : iv (-2147483648) (-1) a1 := iv_l1 c_2 (iv_top a1) (iv_c (0 : Int32) (a := 0) (b := 0) (by decide)) (by first | decide | omega)
    refine lv_if_eq (tgt := 17) hx hb dX9_reaches_5 (by decide) (fun _ => ?_) (fun c_12 => absurd c_12 (by decide))
    refine lv_bipush (v := (-2)) hx hb dX9_reaches_17 (by decide) ?_
    have z_0 := Int32.lt_iff_toInt_lt.mp hq0
    have z_1 := Int32.lt_iff_toInt_lt.mp c_2
    have k_0 : (0 : Int32).toInt = 0 := (by decide)
    exfalso
    have g_0 := hf3
    have g_1 := hf4
    have g_2 := hf5
    have g_3 := hf6
    omega
  · have hP : va_P V.1 vwCl [(y 3, aI V 4 fy3), (y 9, aI V 900 fy9), (y 19, .inr (4, o4_rrrrrr (y 2) (y 20) (y 21) (y 22) (y 23) (y 24))), (y 20, aI V 2000 fy20), (y 21, aI V 6 fy21), (y 22, aI V 64 fy22), (Yw 0, .inr (8, o8_iirrriirrrrrrriii pYw0_0 (nI n) (Yw 1) (Yw 2) wa pYw0_5 pYw0_6 (y 19) (Yw 4) (Yw 5) (Yw 6) (Yw 7) (Yw 8) wb pYw0_14 pYw0_15 pYw0_16)), (Yw 1, aI V n fYw1), (Yw 2, aI V n fYw2), (wa, aI V n fwa), (Yw 4, aI V L fYw4), (Yw 5, aI V n fYw5), (Yw 6, aI V (n * 4) fYw6), (Yw 7, aI V n fYw7), (Yw 8, aI V 4 fYw8), (wb, aI V n fwb), (y 0, .inr (9, o9_rirrrrrrrrrviii (y 1) py0_1 (y 2) (y 10) (y 19) (y 25) (y 26) (y 30) (y 31) (y 32) (Yw 0) o11 py0_12 py0_13 py0_14)), (y 2, .inr (1, o1_iiiiiirrrrrrriiiii py2_0 py2_1 py2_2 py2_3 py2_4 py2_5 (y 3) (y 4) (y 5) (y 6) (y 7) (y 8) (y 9) py2_13 py2_14 py2_15 py2_16 py2_17))] H := hP
    have hD := cpD hP hD
    have b_13 : iv 0 2147483647 a1 := iv_e2 (Int32.not_lt.mp c_4) (iv_c (0 : Int32) (a := 0) (b := 0) (by decide)) (iv_top a1) (by first | decide | omega)
    refine lv_if_eq (tgt := 17) hx hb dX9_reaches_5 (by decide) (fun _ => ?_) (fun c_15 => absurd c_15 (by decide))
    refine lv_bipush (v := (-2)) hx hb dX9_reaches_17 (by decide) ?_
    have z_0 := Int32.lt_iff_toInt_lt.mp hq0
    have z_1 := Int32.le_iff_toInt_le.mp (Int32.not_lt.mp c_4)
    have z_2 := Int32.le_iff_toInt_le.mp c_5
    have k_0 : (0 : Int32).toInt = 0 := (by decide)
    exfalso
    have g_0 := hf3
    have g_1 := hf4
    have g_2 := hf5
    have g_3 := hf6
    omega
  · have hP : va_P V.1 vwCl [(y 3, aI V 4 fy3), (y 9, aI V 900 fy9), (y 19, .inr (4, o4_rrrrrr (y 2) (y 20) (y 21) (y 22) (y 23) (y 24))), (y 20, aI V 2000 fy20), (y 21, aI V 6 fy21), (y 22, aI V 64 fy22), (Yw 0, .inr (8, o8_iirrriirrrrrrriii pYw0_0 (nI n) (Yw 1) (Yw 2) wa pYw0_5 pYw0_6 (y 19) (Yw 4) (Yw 5) (Yw 6) (Yw 7) (Yw 8) wb pYw0_14 pYw0_15 pYw0_16)), (Yw 1, aI V n fYw1), (Yw 2, aI V n fYw2), (wa, aI V n fwa), (Yw 4, aI V L fYw4), (Yw 5, aI V n fYw5), (Yw 6, aI V (n * 4) fYw6), (Yw 7, aI V n fYw7), (Yw 8, aI V 4 fYw8), (wb, aI V n fwb), (y 0, .inr (9, o9_rirrrrrrrrrviii (y 1) py0_1 (y 2) (y 10) (y 19) (y 25) (y 26) (y 30) (y 31) (y 32) (Yw 0) o11 py0_12 py0_13 py0_14)), (y 2, .inr (1, o1_iiiiiirrrrrrriiiii py2_0 py2_1 py2_2 py2_3 py2_4 py2_5 (y 3) (y 4) (y 5) (y 6) (y 7) (y 8) (y 9) py2_13 py2_14 py2_15 py2_16 py2_17))] H := hP
    have hD := cpD hP hD
    have b_16 : iv 0 2147483647 a1 := iv_e2 (Int32.not_lt.mp c_7) (iv_c (0 : Int32) (a := 0) (b := 0) (by decide)) (iv_top a1) (by first | decide | omega)
    have b_17 : iv 0 3 a1 := iv_l1 (Int32.not_le.mp c_8) b_16 bpy2_1 (by first | decide | omega)
    have b_18 : iv 1 4 py2_1 := iv_l2 (Int32.not_le.mp c_8) b_16 bpy2_1 (by first | decide | omega)
    refine lv_if_eq (tgt := 17) hx hb dX9_reaches_5 (by decide) (fun c_20 => absurd c_20 (by decide)) (fun _ => ?_)
    refine lv_iload_n hx hb dX9_reaches_8 rfl (lv_at hl 2 rfl) ?_
    refine lv_if_eq (tgt := 20) hx hb dX9_reaches_9 (by decide) (fun c_21 => ?_) (fun c_21 => ?_)
    · have b_22 : iv 0 0 a2 := iv_q c_21 (iv_c (0 : Int32) (a := 0) (b := 0) (by decide))
      refine lv_aload_n hx hb dX9_reaches_20 rfl (lv_at hl 0 rfl) ?_
      refine lv_ldcw (v := 1000000) hx hb hown (hg _ q_4_194) dX9_reaches_21 ?_
      refine jnR (wr := []) (rnV (rest := []) ⟨hx, hb, hml, hown, hg⟩ (k_X9_waysFromNow_2 l V n L Yw y D9 1000000 fy3 fy9 fy20 fy21 fy22 pYw0_0 wa pYw0_5 pYw0_6 wb pYw0_14 pYw0_15 pYw0_16 fYw1 fYw2 fwa fYw4 fYw5 fYw6 fYw7 fYw8 fwb py0_1 o11 py0_12 py0_13 py0_14 py2_0 py2_1 py2_2 py2_3 py2_4 py2_5 py2_13 py2_14 py2_15 py2_16 py2_17 hn hL hq0 tfy20 bpYw0_0 bpYw0_5 bpYw0_6 bpYw0_14 bpYw0_15 bpYw0_16 tfYw1 tfYw4 tfYw5 tfYw6 tfYw7 bpy0_1 bpy0_12 bpy0_13 (iv_w b_18 (by first | decide | omega)) bpy2_2 bpy2_3 bpy2_4 bpy2_5 bpy2_13 bpy2_14 bpy2_15 bpy2_16 bpy2_17 hf0 hf1 hf2 hL9 hK9) mt_X9_waysFromNow q_4_52 ⟨Nat.le_of_ble_eq_true rfl, Nat.le_of_ble_eq_true rfl⟩ hK hP hD hS hA hE [0, 1, 2, 3, 4, 5, 6, 7, 8, 9, 10, 11, 12, 13, 14, 15, 16, 17] rfl rfl 16 rfl rfl rfl rfl hl.1 rfl (Nat.le_of_ble_eq_true rfl) dX9_reaches_24 ⟨Nat.le_of_ble_eq_true rfl, Nat.le_of_ble_eq_true rfl⟩) hP hD hS hA [0, 1, 2, 3, 4, 5, 6, 7, 8, 9, 10, 11, 12, 13, 14, 15, 16, 17] [] rfl rfl rfl (by decide) (fun r_23 w H locs hw hP hD hS => ?_)
      refine W.widen (k := 10) (n := 46481) (Nat.le_of_ble_eq_true rfl) (Nat.le_of_ble_eq_true rfl) ?_
      obtain ⟨n, L, Yw, wa_24, wb_25, f_26, f_27, f_28, v_29, v_30, v_31, v_32, v_33, v_34, f_35, f_36, f_37, f_38, f_39, f_40, f_41, f_42, f_43, hn, hL, tf_26, bv_29, bv_30, bv_31, bv_32, bv_33, bv_34, tf_35, tf_38, tf_39, tf_40, tf_41, eW, g_44, g_45, g_46, g_47, g_48, kn_49, rfl⟩ := hw
      have hP : va_P V.1 vwCl [(y 3, aI V 4 fy3), (y 9, aI V 900 fy9), (y 19, .inr (4, o4_rrrrrr (y 2) (y 20) (y 21) (y 22) (y 23) (y 24))), (y 20, aI V 2000 f_26), (y 21, aI V 6 f_27), (y 22, aI V 64 f_28), (y 0, .inr (9, o9_rirrrrrrrrrviii (y 1) py0_1 (y 2) (y 10) (y 19) (y 25) (y 26) (y 30) (y 31) (y 32) (Yw 0) o11 py0_12 py0_13 py0_14)), (y 2, .inr (1, o1_iiiiiirrrrrrriiiii py2_0 py2_1 py2_2 py2_3 py2_4 py2_5 (y 3) (y 4) (y 5) (y 6) (y 7) (y 8) (y 9) py2_13 py2_14 py2_15 py2_16 py2_17)), (Yw 0, .inr (8, o8_iirrriirrrrrrriii v_29 (nI n) (Yw 1) (Yw 2) wa_24 v_30 v_31 (y 19) (Yw 4) (Yw 5) (Yw 6) (Yw 7) (Yw 8) wb_25 v_32 v_33 v_34)), (Yw 1, aI V n f_35), (Yw 2, aI V n f_36), (wa_24, aI V n f_37), (Yw 4, aI V L f_38), (Yw 5, aI V n f_39), (Yw 6, aI V (n * 4) f_40), (Yw 7, aI V n f_41), (Yw 8, aI V 4 f_42), (wb_25, aI V n f_43)] H := hP
      have hD := cpD hP hD
      rw [← eW]
      refine lv_astore_n (lv' := [(3, .ref (Yw 0)), (0, .ref (y 0)), (1, .int a1), (2, .int a2)]) hx hb dX9_reaches_27 rfl hl (by decide) rfl (fun ls hl => ?_)
      refine lv_aload_n hx hb dX9_reaches_28 rfl (lv_at hl 1 rfl) ?_
      refine va_get (ci := 9) (v := .int py0_12) (C := RX9) (T := TX9) (N := 15) hx hb hg inX9 hown hK hP 6 rfl rfl 12 (by decide) (hg _ q_2_48) (fun _ h9 => h9) rfl dX9_reaches_29 ?_
      refine lv_iload_n hx hb dX9_reaches_32 rfl (lv_at hl 2 rfl) ?_
      refine jnI (wr := [(y 3, aI V 4 fy3), (y 9, aI V 900 fy9), (y 19, .inr (4, o4_rrrrrr (y 2) (y 20) (y 21) (y 22) (y 23) (y 24))), (y 20, aI V 2000 f_26), (y 21, aI V 6 f_27), (y 22, aI V 64 f_28), (y 0, .inr (9, o9_rirrrrrrrrrviii (y 1) py0_1 (y 2) (y 10) (y 19) (y 25) (y 26) (y 30) (y 31) (y 32) (Yw 0) o11 py0_12 py0_13 py0_14)), (y 2, .inr (1, o1_iiiiiirrrrrrriiiii py2_0 py2_1 py2_2 py2_3 py2_4 py2_5 (y 3) (y 4) (y 5) (y 6) (y 7) (y 8) (y 9) py2_13 py2_14 py2_15 py2_16 py2_17)), (Yw 0, .inr (8, o8_iirrriirrrrrrriii v_29 (nI n) (Yw 1) (Yw 2) wa_24 v_30 v_31 (y 19) (Yw 4) (Yw 5) (Yw 6) (Yw 7) (Yw 8) wb_25 v_32 v_33 v_34)), (Yw 1, aI V n f_35), (Yw 2, aI V n f_36), (wa_24, aI V n f_37), (Yw 4, aI V L f_38), (Yw 5, aI V n f_39), (Yw 6, aI V (n * 4) f_40), (Yw 7, aI V n f_41), (Yw 8, aI V 4 f_42), (wb_25, aI V n f_43)]) (rnS (rest := []) ⟨hx, hb, hml, hown, hg⟩ (k_X9_stackIn_0 l V py0_12 a1 bpy0_12 (iv_w b_17 (by first | decide | omega))) mt_X9_stackIn q_3_126 ⟨Nat.le_of_ble_eq_true rfl, Nat.le_of_ble_eq_true rfl⟩ hK hP hD hS hA hE [] rfl rfl rfl hl.1 rfl (Nat.le_of_ble_eq_true rfl) dX9_reaches_33 ⟨Nat.le_of_ble_eq_true rfl, Nat.le_of_ble_eq_true rfl⟩) hP hD hS hA [] [0, 1, 2, 3, 4, 5, 6, 7, 8, 9, 10, 11, 12, 13, 14, 15, 16, 17] rfl rfl rfl (by decide) (fun r_50 w H locs hw hP hD hS => ?_)
      obtain ⟨br_50, er_50, et_51, rfl⟩ := hw
      have hP : va_P V.1 vwCl [(y 3, aI V 4 fy3), (y 9, aI V 900 fy9), (y 19, .inr (4, o4_rrrrrr (y 2) (y 20) (y 21) (y 22) (y 23) (y 24))), (y 20, aI V 2000 f_26), (y 21, aI V 6 f_27), (y 22, aI V 64 f_28), (y 0, .inr (9, o9_rirrrrrrrrrviii (y 1) py0_1 (y 2) (y 10) (y 19) (y 25) (y 26) (y 30) (y 31) (y 32) (Yw 0) o11 py0_12 py0_13 py0_14)), (y 2, .inr (1, o1_iiiiiirrrrrrriiiii py2_0 py2_1 py2_2 py2_3 py2_4 py2_5 (y 3) (y 4) (y 5) (y 6) (y 7) (y 8) (y 9) py2_13 py2_14 py2_15 py2_16 py2_17)), (Yw 0, .inr (8, o8_iirrriirrrrrrriii v_29 (nI n) (Yw 1) (Yw 2) wa_24 v_30 v_31 (y 19) (Yw 4) (Yw 5) (Yw 6) (Yw 7) (Yw 8) wb_25 v_32 v_33 v_34)), (Yw 1, aI V n f_35), (Yw 2, aI V n f_36), (wa_24, aI V n f_37), (Yw 4, aI V L f_38), (Yw 5, aI V n f_39), (Yw 6, aI V (n * 4) f_40), (Yw 7, aI V n f_41), (Yw 8, aI V 4 f_42), (wb_25, aI V n f_43)] H := hP
      have hD := cpD hP hD
      refine lv_istore (lv' := [(4, .int r_50), (3, .ref (Yw 0)), (0, .ref (y 0)), (1, .int a1), (2, .int a2)]) hx hb dX9_reaches_36 hl (by decide) rfl (fun ls hl => ?_)
      refine lv_iconst (v := 0) hx hb dX9_reaches_38 (by decide) ?_
      refine lv_istore (lv' := [(5, .int 0), (4, .int r_50), (3, .ref (Yw 0)), (0, .ref (y 0)), (1, .int a1), (2, .int a2)]) hx hb dX9_reaches_39 hl (by decide) rfl (fun ls hl => ?_)
      refine loopF (X := fun (n_54 : Nat) (H : Heap) (locs : List Loc) (ls : Array Slot) => ∃ (u_52 : Int32) (u_53 : Int32), (iv 0 2147483647 u_52) ∧ KN D9 f_26 ∧ n_54 = (2147483647 - (u_52 : Int32).toInt).toNat ∧ va_P V.1 vwCl [(y 3, aI V 4 fy3), (y 9, aI V 900 fy9), (y 19, .inr (4, o4_rrrrrr (y 2) (y 20) (y 21) (y 22) (y 23) (y 24))), (y 20, aI V 2000 f_26), (y 21, aI V 6 f_27), (y 22, aI V 64 f_28), (y 0, .inr (9, o9_rirrrrrrrrrviii (y 1) py0_1 (y 2) (y 10) (y 19) (y 25) (y 26) (y 30) (y 31) (y 32) (Yw 0) o11 py0_12 py0_13 py0_14)), (y 2, .inr (1, o1_iiiiiirrrrrrriiiii py2_0 py2_1 py2_2 py2_3 py2_4 py2_5 (y 3) (y 4) (y 5) (y 6) (y 7) (y 8) (y 9) py2_13 py2_14 py2_15 py2_16 py2_17)), (Yw 0, .inr (8, o8_iirrriirrrrrrriii v_29 (nI n) (Yw 1) (Yw 2) wa_24 v_30 v_31 (y 19) (Yw 4) (Yw 5) (Yw 6) (Yw 7) (Yw 8) wb_25 v_32 v_33 v_34)), (Yw 1, aI V n f_35), (Yw 2, aI V n f_36), (wa_24, aI V n f_37), (Yw 4, aI V L f_38), (Yw 5, aI V n f_39), (Yw 6, aI V (n * 4) f_40), (Yw 7, aI V n f_41), (Yw 8, aI V 4 f_42), (wb_25, aI V n f_43)] H ∧ va_D A [(y 3, aI V 4 fy3), (y 9, aI V 900 fy9), (y 19, .inr (4, o4_rrrrrr (y 2) (y 20) (y 21) (y 22) (y 23) (y 24))), (y 20, aI V 2000 f_26), (y 21, aI V 6 f_27), (y 22, aI V 64 f_28), (y 0, .inr (9, o9_rirrrrrrrrrviii (y 1) py0_1 (y 2) (y 10) (y 19) (y 25) (y 26) (y 30) (y 31) (y 32) (Yw 0) o11 py0_12 py0_13 py0_14)), (y 2, .inr (1, o1_iiiiiirrrrrrriiiii py2_0 py2_1 py2_2 py2_3 py2_4 py2_5 (y 3) (y 4) (y 5) (y 6) (y 7) (y 8) (y 9) py2_13 py2_14 py2_15 py2_16 py2_17)), (Yw 0, .inr (8, o8_iirrriirrrrrrriii v_29 (nI n) (Yw 1) (Yw 2) wa_24 v_30 v_31 (y 19) (Yw 4) (Yw 5) (Yw 6) (Yw 7) (Yw 8) wb_25 v_32 v_33 v_34)), (Yw 1, aI V n f_35), (Yw 2, aI V n f_36), (wa_24, aI V n f_37), (Yw 4, aI V L f_38), (Yw 5, aI V n f_39), (Yw 6, aI V (n * 4) f_40), (Yw 7, aI V n f_41), (Yw 8, aI V 4 f_42), (wb_25, aI V n f_43)] ∧ va_S A s.heap H locs ∧ lv_has ls 7 [(5, .int u_52), (4, .int u_53), (3, .ref (Yw 0)), (0, .ref (y 0)), (1, .int a1), (2, .int a2)]) (g := fun ls => F0 m 41 ls []) (fun n_54 H locs ls hX ihn_54 => ?_) _ ⟨0, r_50, (iv_c (0 : Int32) (by decide)), kn_49, rfl, hP, hD, hS, lv_sub hl [0, 1, 2, 3, 4, 5] rfl⟩
      obtain ⟨u_52, u_53, bu_52, knn_54, en_54, hP, hD, hS, hl⟩ := hX
      refine lv_iload hx hb dX9_reaches_41 (lv_at hl 0 rfl) ?_
      refine lv_aload_n hx hb dX9_reaches_43 rfl (lv_at hl 2 rfl) ?_
      refine va_get (ci := 8) (v := .int v_30) (C := RX8) (T := TX8) (N := 17) hx hb hg inX8 hown hK hP 8 rfl rfl 5 (by decide) (hg _ q_4_78) (fun _ h9 => h9) rfl dX9_reaches_44 ?_
      refine lv_icmp_ge (tgt := 92) hx hb dX9_reaches_47 (by decide) (fun c_55 => ?_) (fun c_55 => ?_)
      · refine lv_iload hx hb dX9_reaches_92 (lv_at hl 1 rfl) ?_
        have hP := subP (ws' := [(y 0, .inr (9, o9_rirrrrrrrrrviii (y 1) py0_1 (y 2) (y 10) (y 19) (y 25) (y 26) (y 30) (y 31) (y 32) (Yw 0) o11 py0_12 py0_13 py0_14)), (y 2, .inr (1, o1_iiiiiirrrrrrriiiii py2_0 py2_1 py2_2 py2_3 py2_4 py2_5 (y 3) (y 4) (y 5) (y 6) (y 7) (y 8) (y 9) py2_13 py2_14 py2_15 py2_16 py2_17)), (y 3, aI V 4 fy3), (y 9, aI V 900 fy9), (y 19, .inr (4, o4_rrrrrr (y 2) (y 20) (y 21) (y 22) (y 23) (y 24))), (y 20, aI V 2000 f_26), (y 21, aI V 6 f_27), (y 22, aI V 64 f_28), (Yw 0, .inr (8, o8_iirrriirrrrrrriii v_29 (nI n) (Yw 1) (Yw 2) wa_24 v_30 v_31 (y 19) (Yw 4) (Yw 5) (Yw 6) (Yw 7) (Yw 8) wb_25 v_32 v_33 v_34)), (Yw 1, aI V n f_35), (Yw 2, aI V n f_36), (wa_24, aI V n f_37), (Yw 4, aI V L f_38), (Yw 5, aI V n f_39), (Yw 6, aI V (n * 4) f_40), (Yw 7, aI V n f_41), (Yw 8, aI V 4 f_42), (wb_25, aI V n f_43)]) hP [6, 7, 0, 1, 2, 3, 4, 5, 8, 9, 10, 11, 12, 13, 14, 15, 16, 17] rfl
        have hD := subD hP hD [6, 7, 0, 1, 2, 3, 4, 5, 8, 9, 10, 11, 12, 13, 14, 15, 16, 17] rfl rfl
        exact fiI hx hb hr hlk hK (subP (ws' := [(y 0, .inr (9, o9_rirrrrrrrrrviii (y 1) py0_1 (y 2) (y 10) (y 19) (y 25) (y 26) (y 30) (y 31) (y 32) (Yw 0) o11 py0_12 py0_13 py0_14)), (y 2, .inr (1, o1_iiiiiirrrrrrriiiii py2_0 py2_1 py2_2 py2_3 py2_4 py2_5 (y 3) (y 4) (y 5) (y 6) (y 7) (y 8) (y 9) py2_13 py2_14 py2_15 py2_16 py2_17)), (y 3, aI V 4 fy3), (y 9, aI V 900 fy9), (y 19, .inr (4, o4_rrrrrr (y 2) (y 20) (y 21) (y 22) (y 23) (y 24))), (y 20, aI V 2000 f_26), (y 21, aI V 6 f_27), (y 22, aI V 64 f_28), (Yw 0, .inr (8, o8_iirrriirrrrrrriii v_29 (nI n) (Yw 1) (Yw 2) wa_24 v_30 v_31 (y 19) (Yw 4) (Yw 5) (Yw 6) (Yw 7) (Yw 8) wb_25 v_32 v_33 v_34)), (Yw 1, aI V n f_35), (Yw 2, aI V n f_36), (wa_24, aI V n f_37), (Yw 4, aI V L f_38), (Yw 5, aI V n f_39), (Yw 6, aI V (n * 4) f_40), (Yw 7, aI V n f_41), (Yw 8, aI V 4 f_42), (wb_25, aI V n f_43)]) hP [0, 1, 2, 3, 4, 5, 6, 7, 8, 9, 10, 11, 12, 13, 14, 15, 16, 17] rfl) (hD.sub [0, 1, 2, 3, 4, 5, 6, 7, 8, 9, 10, 11, 12, 13, 14, 15, 16, 17] rfl rfl) hS dX9_reaches_94 (Nat.le_of_ble_eq_true rfl) (Nat.le_of_ble_eq_true rfl) (⟨n, L, Yw, wa_24, wb_25, f_26, f_27, f_28, v_29, v_30, v_31, v_32, v_33, v_34, f_35, f_36, f_37, f_38, f_39, f_40, f_41, f_42, f_43, hn, hL, tf_26, bv_29, bv_30, bv_31, bv_32, bv_33, bv_34, tf_35, tf_38, tf_39, tf_40, tf_41, g_44, g_45, g_46, g_48, knn_54, rfl⟩)
      · have b_56 : iv 0 ((n : Int) - 1) u_52 := iv_l1 (Int32.not_le.mp c_55) bu_52 bv_30 (by first | decide | omega)
        have b_57 : iv 1 ((n : Int)) v_30 := iv_l2 (Int32.not_le.mp c_55) bu_52 bv_30 (by first | decide | omega)
        refine lv_aload_n hx hb dX9_reaches_50 rfl (lv_at hl 2 rfl) ?_
        refine va_get (ci := 8) (v := .ref (Yw 1)) (C := RX8) (T := TX8) (N := 17) hx hb hg inX8 hown hK hP 8 rfl rfl 2 (by decide) (hg _ q_4_71) (fun _ h9 => h9) rfl dX9_reaches_51 ?_
        refine lv_iload hx hb dX9_reaches_54 (lv_at hl 0 rfl) ?_
        refine va_iald hx hb hK hP 9 0 rfl rfl (iv_in b_56 (by first | decide | omega)) dX9_reaches_56 ?_
        refine lv_topi (fun x_58 ex_58 => ?_)
        have bx_58 : iv 0 ((L : Int) - 1) x_58 := by rw [ex_58]; exact tf_35 _
        refine lv_iload_n hx hb dX9_reaches_57 rfl (lv_at hl 4 rfl) ?_
        refine jnI (wr := [(y 3, aI V 4 fy3), (y 9, aI V 900 fy9), (y 19, .inr (4, o4_rrrrrr (y 2) (y 20) (y 21) (y 22) (y 23) (y 24))), (y 20, aI V 2000 f_26), (y 21, aI V 6 f_27), (y 22, aI V 64 f_28), (y 0, .inr (9, o9_rirrrrrrrrrviii (y 1) py0_1 (y 2) (y 10) (y 19) (y 25) (y 26) (y 30) (y 31) (y 32) (Yw 0) o11 py0_12 py0_13 py0_14)), (y 2, .inr (1, o1_iiiiiirrrrrrriiiii py2_0 py2_1 py2_2 py2_3 py2_4 py2_5 (y 3) (y 4) (y 5) (y 6) (y 7) (y 8) (y 9) py2_13 py2_14 py2_15 py2_16 py2_17)), (Yw 0, .inr (8, o8_iirrriirrrrrrriii v_29 (nI n) (Yw 1) (Yw 2) wa_24 v_30 v_31 (y 19) (Yw 4) (Yw 5) (Yw 6) (Yw 7) (Yw 8) wb_25 v_32 v_33 v_34)), (Yw 1, aI V n f_35), (Yw 2, aI V n f_36), (wa_24, aI V n f_37), (Yw 4, aI V L f_38), (Yw 5, aI V n f_39), (Yw 6, aI V (n * 4) f_40), (Yw 7, aI V n f_41), (Yw 8, aI V 4 f_42), (wb_25, aI V n f_43)]) (rnS (rest := []) ⟨hx, hb, hml, hown, hg⟩ (k_X9_stackIn_0 l V x_58 a1 (iv_w bx_58 (by first | decide | omega)) (iv_w b_17 (by first | decide | omega))) mt_X9_stackIn q_3_126 ⟨Nat.le_of_ble_eq_true rfl, Nat.le_of_ble_eq_true rfl⟩ hK hP hD hS hA hE [] rfl rfl rfl hl.1 rfl (Nat.le_of_ble_eq_true rfl) dX9_reaches_58 ⟨Nat.le_of_ble_eq_true rfl, Nat.le_of_ble_eq_true rfl⟩) hP hD hS hA [] [0, 1, 2, 3, 4, 5, 6, 7, 8, 9, 10, 11, 12, 13, 14, 15, 16, 17] rfl rfl rfl (by decide) (fun r_59 w H locs hw hP hD hS => ?_)
        obtain ⟨br_59, er_59, et_60, rfl⟩ := hw
        have hP : va_P V.1 vwCl [(y 3, aI V 4 fy3), (y 9, aI V 900 fy9), (y 19, .inr (4, o4_rrrrrr (y 2) (y 20) (y 21) (y 22) (y 23) (y 24))), (y 20, aI V 2000 f_26), (y 21, aI V 6 f_27), (y 22, aI V 64 f_28), (y 0, .inr (9, o9_rirrrrrrrrrviii (y 1) py0_1 (y 2) (y 10) (y 19) (y 25) (y 26) (y 30) (y 31) (y 32) (Yw 0) o11 py0_12 py0_13 py0_14)), (y 2, .inr (1, o1_iiiiiirrrrrrriiiii py2_0 py2_1 py2_2 py2_3 py2_4 py2_5 (y 3) (y 4) (y 5) (y 6) (y 7) (y 8) (y 9) py2_13 py2_14 py2_15 py2_16 py2_17)), (Yw 0, .inr (8, o8_iirrriirrrrrrriii v_29 (nI n) (Yw 1) (Yw 2) wa_24 v_30 v_31 (y 19) (Yw 4) (Yw 5) (Yw 6) (Yw 7) (Yw 8) wb_25 v_32 v_33 v_34)), (Yw 1, aI V n f_35), (Yw 2, aI V n f_36), (wa_24, aI V n f_37), (Yw 4, aI V L f_38), (Yw 5, aI V n f_39), (Yw 6, aI V (n * 4) f_40), (Yw 7, aI V n f_41), (Yw 8, aI V 4 f_42), (wb_25, aI V n f_43)] H := hP
        have hD := cpD hP hD
        refine lv_istore (lv' := [(6, .int r_59), (5, .int u_52), (4, .int u_53), (3, .ref (Yw 0)), (0, .ref (y 0)), (1, .int a1), (2, .int a2)]) hx hb dX9_reaches_61 hl (by decide) rfl (fun ls hl => ?_)
        refine lv_iload_n hx hb dX9_reaches_63 rfl (lv_at hl 6 rfl) ?_
        refine lv_if_ne (tgt := 77) hx hb dX9_reaches_64 (by decide) (fun c_61 => absurd (iv_eqp b_22 (iv_c (0 : Int32) (a := 0) (b := 0) (by decide))) c_61) (fun _ => ?_)
        refine lv_iload hx hb dX9_reaches_67 (lv_at hl 2 rfl) ?_
        refine lv_iload hx hb dX9_reaches_69 (lv_at hl 0 rfl) ?_
        refine va_mmax hx hb (hml.trans hl.1.symm) hown (hg _ q_4_213) (hg _ q_2_102) (hg _ q_1_10) (hg _ q_2_103) (Nat.le_of_ble_eq_true rfl) (Nat.le_of_ble_eq_true rfl) (Nat.le_of_ble_eq_true rfl) (Nat.le_of_ble_eq_true rfl) dX9_reaches_71 ?_
        refine lv_topi (fun x_62 ex_62 => ?_)
        have bx_62 : iv 0 2147483647 x_62 := by rw [ex_62]; exact iv_max (iv_top u_53) br_59 (by first | decide | omega)
        refine lv_goto (tgt := 84) hx hb dX9_reaches_74 (by decide) ?_
        refine lv_istore (lv' := [(4, .int x_62), (6, .int r_59), (5, .int u_52), (3, .ref (Yw 0)), (0, .ref (y 0)), (1, .int a1), (2, .int a2)]) hx hb dX9_reaches_84 hl (by decide) rfl (fun ls hl => ?_)
        obtain ⟨x_63, ex_63⟩ : ∃ z9 : Int32, z9 = u_52 + 1 := ⟨_, rfl⟩
        have bx_63 : iv 1 ((n : Int)) x_63 := by rw [ex_63]; exact iv_add b_56 (iv_c (1 : Int32) (a := 1) (b := 1) (by first | decide | omega)) (by first | decide | omega)
        refine lv_iinc (v := x_63) (lv' := [(5, .int x_63), (4, .int x_62), (6, .int r_59), (3, .ref (Yw 0)), (0, .ref (y 0)), (1, .int a1), (2, .int a2)]) hx hb dX9_reaches_86 hl (k := 2) rfl (by rw [ex_63]; rfl) (by decide) rfl (fun ls hl => ?_)
        refine lv_goto (tgt := 41) hx hb dX9_reaches_89 (by decide) ?_
        exact ihn_54 _ _ _ _ (by rw [en_54, ex_63]; exact mu_up b_56 (by first | decide | omega)) ⟨x_63, x_62, (iv_w bx_63 (by first | decide | omega)), knn_54, rfl, hP, hD, hS, lv_sub hl [0, 1, 3, 4, 5, 6] rfl⟩
    · refine lv_iload_n hx hb dX9_reaches_12 rfl (lv_at hl 2 rfl) ?_
      refine lv_iconst (v := 1) hx hb dX9_reaches_13 (by decide) ?_
      refine lv_icmp_eq (tgt := 20) hx hb dX9_reaches_14 (by decide) (fun c_64 => ?_) (fun c_64 => ?_)
      · have b_65 : iv 1 1 a2 := iv_q c_64 (iv_c (1 : Int32) (a := 1) (b := 1) (by decide))
        refine lv_aload_n hx hb dX9_reaches_20 rfl (lv_at hl 0 rfl) ?_
        refine lv_ldcw (v := 1000000) hx hb hown (hg _ q_4_194) dX9_reaches_21 ?_
        refine jnR (wr := []) (rnV (rest := []) ⟨hx, hb, hml, hown, hg⟩ (k_X9_waysFromNow_2 l V n L Yw y D9 1000000 fy3 fy9 fy20 fy21 fy22 pYw0_0 wa pYw0_5 pYw0_6 wb pYw0_14 pYw0_15 pYw0_16 fYw1 fYw2 fwa fYw4 fYw5 fYw6 fYw7 fYw8 fwb py0_1 o11 py0_12 py0_13 py0_14 py2_0 py2_1 py2_2 py2_3 py2_4 py2_5 py2_13 py2_14 py2_15 py2_16 py2_17 hn hL hq0 tfy20 bpYw0_0 bpYw0_5 bpYw0_6 bpYw0_14 bpYw0_15 bpYw0_16 tfYw1 tfYw4 tfYw5 tfYw6 tfYw7 bpy0_1 bpy0_12 bpy0_13 (iv_w b_18 (by first | decide | omega)) bpy2_2 bpy2_3 bpy2_4 bpy2_5 bpy2_13 bpy2_14 bpy2_15 bpy2_16 bpy2_17 hf0 hf1 hf2 hL9 hK9) mt_X9_waysFromNow q_4_52 ⟨Nat.le_of_ble_eq_true rfl, Nat.le_of_ble_eq_true rfl⟩ hK hP hD hS hA hE [0, 1, 2, 3, 4, 5, 6, 7, 8, 9, 10, 11, 12, 13, 14, 15, 16, 17] rfl rfl 16 rfl rfl rfl rfl hl.1 rfl (Nat.le_of_ble_eq_true rfl) dX9_reaches_24 ⟨Nat.le_of_ble_eq_true rfl, Nat.le_of_ble_eq_true rfl⟩) hP hD hS hA [0, 1, 2, 3, 4, 5, 6, 7, 8, 9, 10, 11, 12, 13, 14, 15, 16, 17] [] rfl rfl rfl (by decide) (fun r_66 w H locs hw hP hD hS => ?_)
        refine W.widen (k := 10) (n := 46481) (Nat.le_of_ble_eq_true rfl) (Nat.le_of_ble_eq_true rfl) ?_
        obtain ⟨n, L, Yw, wa_67, wb_68, f_69, f_70, f_71, v_72, v_73, v_74, v_75, v_76, v_77, f_78, f_79, f_80, f_81, f_82, f_83, f_84, f_85, f_86, hn, hL, tf_69, bv_72, bv_73, bv_74, bv_75, bv_76, bv_77, tf_78, tf_81, tf_82, tf_83, tf_84, eW, g_87, g_88, g_89, g_90, g_91, kn_92, rfl⟩ := hw
        have hP : va_P V.1 vwCl [(y 3, aI V 4 fy3), (y 9, aI V 900 fy9), (y 19, .inr (4, o4_rrrrrr (y 2) (y 20) (y 21) (y 22) (y 23) (y 24))), (y 20, aI V 2000 f_69), (y 21, aI V 6 f_70), (y 22, aI V 64 f_71), (y 0, .inr (9, o9_rirrrrrrrrrviii (y 1) py0_1 (y 2) (y 10) (y 19) (y 25) (y 26) (y 30) (y 31) (y 32) (Yw 0) o11 py0_12 py0_13 py0_14)), (y 2, .inr (1, o1_iiiiiirrrrrrriiiii py2_0 py2_1 py2_2 py2_3 py2_4 py2_5 (y 3) (y 4) (y 5) (y 6) (y 7) (y 8) (y 9) py2_13 py2_14 py2_15 py2_16 py2_17)), (Yw 0, .inr (8, o8_iirrriirrrrrrriii v_72 (nI n) (Yw 1) (Yw 2) wa_67 v_73 v_74 (y 19) (Yw 4) (Yw 5) (Yw 6) (Yw 7) (Yw 8) wb_68 v_75 v_76 v_77)), (Yw 1, aI V n f_78), (Yw 2, aI V n f_79), (wa_67, aI V n f_80), (Yw 4, aI V L f_81), (Yw 5, aI V n f_82), (Yw 6, aI V (n * 4) f_83), (Yw 7, aI V n f_84), (Yw 8, aI V 4 f_85), (wb_68, aI V n f_86)] H := hP
        have hD := cpD hP hD
        rw [← eW]
        refine lv_astore_n (lv' := [(3, .ref (Yw 0)), (0, .ref (y 0)), (1, .int a1), (2, .int a2)]) hx hb dX9_reaches_27 rfl hl (by decide) rfl (fun ls hl => ?_)
        refine lv_aload_n hx hb dX9_reaches_28 rfl (lv_at hl 1 rfl) ?_
        refine va_get (ci := 9) (v := .int py0_12) (C := RX9) (T := TX9) (N := 15) hx hb hg inX9 hown hK hP 6 rfl rfl 12 (by decide) (hg _ q_2_48) (fun _ h9 => h9) rfl dX9_reaches_29 ?_
        refine lv_iload_n hx hb dX9_reaches_32 rfl (lv_at hl 2 rfl) ?_
        refine jnI (wr := [(y 3, aI V 4 fy3), (y 9, aI V 900 fy9), (y 19, .inr (4, o4_rrrrrr (y 2) (y 20) (y 21) (y 22) (y 23) (y 24))), (y 20, aI V 2000 f_69), (y 21, aI V 6 f_70), (y 22, aI V 64 f_71), (y 0, .inr (9, o9_rirrrrrrrrrviii (y 1) py0_1 (y 2) (y 10) (y 19) (y 25) (y 26) (y 30) (y 31) (y 32) (Yw 0) o11 py0_12 py0_13 py0_14)), (y 2, .inr (1, o1_iiiiiirrrrrrriiiii py2_0 py2_1 py2_2 py2_3 py2_4 py2_5 (y 3) (y 4) (y 5) (y 6) (y 7) (y 8) (y 9) py2_13 py2_14 py2_15 py2_16 py2_17)), (Yw 0, .inr (8, o8_iirrriirrrrrrriii v_72 (nI n) (Yw 1) (Yw 2) wa_67 v_73 v_74 (y 19) (Yw 4) (Yw 5) (Yw 6) (Yw 7) (Yw 8) wb_68 v_75 v_76 v_77)), (Yw 1, aI V n f_78), (Yw 2, aI V n f_79), (wa_67, aI V n f_80), (Yw 4, aI V L f_81), (Yw 5, aI V n f_82), (Yw 6, aI V (n * 4) f_83), (Yw 7, aI V n f_84), (Yw 8, aI V 4 f_85), (wb_68, aI V n f_86)]) (rnS (rest := []) ⟨hx, hb, hml, hown, hg⟩ (k_X9_stackIn_0 l V py0_12 a1 bpy0_12 (iv_w b_17 (by first | decide | omega))) mt_X9_stackIn q_3_126 ⟨Nat.le_of_ble_eq_true rfl, Nat.le_of_ble_eq_true rfl⟩ hK hP hD hS hA hE [] rfl rfl rfl hl.1 rfl (Nat.le_of_ble_eq_true rfl) dX9_reaches_33 ⟨Nat.le_of_ble_eq_true rfl, Nat.le_of_ble_eq_true rfl⟩) hP hD hS hA [] [0, 1, 2, 3, 4, 5, 6, 7, 8, 9, 10, 11, 12, 13, 14, 15, 16, 17] rfl rfl rfl (by decide) (fun r_93 w H locs hw hP hD hS => ?_)
        obtain ⟨br_93, er_93, et_94, rfl⟩ := hw
        have hP : va_P V.1 vwCl [(y 3, aI V 4 fy3), (y 9, aI V 900 fy9), (y 19, .inr (4, o4_rrrrrr (y 2) (y 20) (y 21) (y 22) (y 23) (y 24))), (y 20, aI V 2000 f_69), (y 21, aI V 6 f_70), (y 22, aI V 64 f_71), (y 0, .inr (9, o9_rirrrrrrrrrviii (y 1) py0_1 (y 2) (y 10) (y 19) (y 25) (y 26) (y 30) (y 31) (y 32) (Yw 0) o11 py0_12 py0_13 py0_14)), (y 2, .inr (1, o1_iiiiiirrrrrrriiiii py2_0 py2_1 py2_2 py2_3 py2_4 py2_5 (y 3) (y 4) (y 5) (y 6) (y 7) (y 8) (y 9) py2_13 py2_14 py2_15 py2_16 py2_17)), (Yw 0, .inr (8, o8_iirrriirrrrrrriii v_72 (nI n) (Yw 1) (Yw 2) wa_67 v_73 v_74 (y 19) (Yw 4) (Yw 5) (Yw 6) (Yw 7) (Yw 8) wb_68 v_75 v_76 v_77)), (Yw 1, aI V n f_78), (Yw 2, aI V n f_79), (wa_67, aI V n f_80), (Yw 4, aI V L f_81), (Yw 5, aI V n f_82), (Yw 6, aI V (n * 4) f_83), (Yw 7, aI V n f_84), (Yw 8, aI V 4 f_85), (wb_68, aI V n f_86)] H := hP
        have hD := cpD hP hD
        refine lv_istore (lv' := [(4, .int r_93), (3, .ref (Yw 0)), (0, .ref (y 0)), (1, .int a1), (2, .int a2)]) hx hb dX9_reaches_36 hl (by decide) rfl (fun ls hl => ?_)
        refine lv_iconst (v := 0) hx hb dX9_reaches_38 (by decide) ?_
        refine lv_istore (lv' := [(5, .int 0), (4, .int r_93), (3, .ref (Yw 0)), (0, .ref (y 0)), (1, .int a1), (2, .int a2)]) hx hb dX9_reaches_39 hl (by decide) rfl (fun ls hl => ?_)
        refine loopF (X := fun (n_97 : Nat) (H : Heap) (locs : List Loc) (ls : Array Slot) => ∃ (u_95 : Int32) (u_96 : Int32), (iv 0 2147483647 u_95) ∧ KN D9 f_69 ∧ n_97 = (2147483647 - (u_95 : Int32).toInt).toNat ∧ va_P V.1 vwCl [(y 3, aI V 4 fy3), (y 9, aI V 900 fy9), (y 19, .inr (4, o4_rrrrrr (y 2) (y 20) (y 21) (y 22) (y 23) (y 24))), (y 20, aI V 2000 f_69), (y 21, aI V 6 f_70), (y 22, aI V 64 f_71), (y 0, .inr (9, o9_rirrrrrrrrrviii (y 1) py0_1 (y 2) (y 10) (y 19) (y 25) (y 26) (y 30) (y 31) (y 32) (Yw 0) o11 py0_12 py0_13 py0_14)), (y 2, .inr (1, o1_iiiiiirrrrrrriiiii py2_0 py2_1 py2_2 py2_3 py2_4 py2_5 (y 3) (y 4) (y 5) (y 6) (y 7) (y 8) (y 9) py2_13 py2_14 py2_15 py2_16 py2_17)), (Yw 0, .inr (8, o8_iirrriirrrrrrriii v_72 (nI n) (Yw 1) (Yw 2) wa_67 v_73 v_74 (y 19) (Yw 4) (Yw 5) (Yw 6) (Yw 7) (Yw 8) wb_68 v_75 v_76 v_77)), (Yw 1, aI V n f_78), (Yw 2, aI V n f_79), (wa_67, aI V n f_80), (Yw 4, aI V L f_81), (Yw 5, aI V n f_82), (Yw 6, aI V (n * 4) f_83), (Yw 7, aI V n f_84), (Yw 8, aI V 4 f_85), (wb_68, aI V n f_86)] H ∧ va_D A [(y 3, aI V 4 fy3), (y 9, aI V 900 fy9), (y 19, .inr (4, o4_rrrrrr (y 2) (y 20) (y 21) (y 22) (y 23) (y 24))), (y 20, aI V 2000 f_69), (y 21, aI V 6 f_70), (y 22, aI V 64 f_71), (y 0, .inr (9, o9_rirrrrrrrrrviii (y 1) py0_1 (y 2) (y 10) (y 19) (y 25) (y 26) (y 30) (y 31) (y 32) (Yw 0) o11 py0_12 py0_13 py0_14)), (y 2, .inr (1, o1_iiiiiirrrrrrriiiii py2_0 py2_1 py2_2 py2_3 py2_4 py2_5 (y 3) (y 4) (y 5) (y 6) (y 7) (y 8) (y 9) py2_13 py2_14 py2_15 py2_16 py2_17)), (Yw 0, .inr (8, o8_iirrriirrrrrrriii v_72 (nI n) (Yw 1) (Yw 2) wa_67 v_73 v_74 (y 19) (Yw 4) (Yw 5) (Yw 6) (Yw 7) (Yw 8) wb_68 v_75 v_76 v_77)), (Yw 1, aI V n f_78), (Yw 2, aI V n f_79), (wa_67, aI V n f_80), (Yw 4, aI V L f_81), (Yw 5, aI V n f_82), (Yw 6, aI V (n * 4) f_83), (Yw 7, aI V n f_84), (Yw 8, aI V 4 f_85), (wb_68, aI V n f_86)] ∧ va_S A s.heap H locs ∧ lv_has ls 7 [(5, .int u_95), (4, .int u_96), (3, .ref (Yw 0)), (0, .ref (y 0)), (1, .int a1), (2, .int a2)]) (g := fun ls => F0 m 41 ls []) (fun n_97 H locs ls hX ihn_97 => ?_) _ ⟨0, r_93, (iv_c (0 : Int32) (by decide)), kn_92, rfl, hP, hD, hS, lv_sub hl [0, 1, 2, 3, 4, 5] rfl⟩
        obtain ⟨u_95, u_96, bu_95, knn_97, en_97, hP, hD, hS, hl⟩ := hX
        refine lv_iload hx hb dX9_reaches_41 (lv_at hl 0 rfl) ?_
        refine lv_aload_n hx hb dX9_reaches_43 rfl (lv_at hl 2 rfl) ?_
        refine va_get (ci := 8) (v := .int v_73) (C := RX8) (T := TX8) (N := 17) hx hb hg inX8 hown hK hP 8 rfl rfl 5 (by decide) (hg _ q_4_78) (fun _ h9 => h9) rfl dX9_reaches_44 ?_
        refine lv_icmp_ge (tgt := 92) hx hb dX9_reaches_47 (by decide) (fun c_98 => ?_) (fun c_98 => ?_)
        · refine lv_iload hx hb dX9_reaches_92 (lv_at hl 1 rfl) ?_
          have hP := subP (ws' := [(y 0, .inr (9, o9_rirrrrrrrrrviii (y 1) py0_1 (y 2) (y 10) (y 19) (y 25) (y 26) (y 30) (y 31) (y 32) (Yw 0) o11 py0_12 py0_13 py0_14)), (y 2, .inr (1, o1_iiiiiirrrrrrriiiii py2_0 py2_1 py2_2 py2_3 py2_4 py2_5 (y 3) (y 4) (y 5) (y 6) (y 7) (y 8) (y 9) py2_13 py2_14 py2_15 py2_16 py2_17)), (y 3, aI V 4 fy3), (y 9, aI V 900 fy9), (y 19, .inr (4, o4_rrrrrr (y 2) (y 20) (y 21) (y 22) (y 23) (y 24))), (y 20, aI V 2000 f_69), (y 21, aI V 6 f_70), (y 22, aI V 64 f_71), (Yw 0, .inr (8, o8_iirrriirrrrrrriii v_72 (nI n) (Yw 1) (Yw 2) wa_67 v_73 v_74 (y 19) (Yw 4) (Yw 5) (Yw 6) (Yw 7) (Yw 8) wb_68 v_75 v_76 v_77)), (Yw 1, aI V n f_78), (Yw 2, aI V n f_79), (wa_67, aI V n f_80), (Yw 4, aI V L f_81), (Yw 5, aI V n f_82), (Yw 6, aI V (n * 4) f_83), (Yw 7, aI V n f_84), (Yw 8, aI V 4 f_85), (wb_68, aI V n f_86)]) hP [6, 7, 0, 1, 2, 3, 4, 5, 8, 9, 10, 11, 12, 13, 14, 15, 16, 17] rfl
          have hD := subD hP hD [6, 7, 0, 1, 2, 3, 4, 5, 8, 9, 10, 11, 12, 13, 14, 15, 16, 17] rfl rfl
          exact fiI hx hb hr hlk hK (subP (ws' := [(y 0, .inr (9, o9_rirrrrrrrrrviii (y 1) py0_1 (y 2) (y 10) (y 19) (y 25) (y 26) (y 30) (y 31) (y 32) (Yw 0) o11 py0_12 py0_13 py0_14)), (y 2, .inr (1, o1_iiiiiirrrrrrriiiii py2_0 py2_1 py2_2 py2_3 py2_4 py2_5 (y 3) (y 4) (y 5) (y 6) (y 7) (y 8) (y 9) py2_13 py2_14 py2_15 py2_16 py2_17)), (y 3, aI V 4 fy3), (y 9, aI V 900 fy9), (y 19, .inr (4, o4_rrrrrr (y 2) (y 20) (y 21) (y 22) (y 23) (y 24))), (y 20, aI V 2000 f_69), (y 21, aI V 6 f_70), (y 22, aI V 64 f_71), (Yw 0, .inr (8, o8_iirrriirrrrrrriii v_72 (nI n) (Yw 1) (Yw 2) wa_67 v_73 v_74 (y 19) (Yw 4) (Yw 5) (Yw 6) (Yw 7) (Yw 8) wb_68 v_75 v_76 v_77)), (Yw 1, aI V n f_78), (Yw 2, aI V n f_79), (wa_67, aI V n f_80), (Yw 4, aI V L f_81), (Yw 5, aI V n f_82), (Yw 6, aI V (n * 4) f_83), (Yw 7, aI V n f_84), (Yw 8, aI V 4 f_85), (wb_68, aI V n f_86)]) hP [0, 1, 2, 3, 4, 5, 6, 7, 8, 9, 10, 11, 12, 13, 14, 15, 16, 17] rfl) (hD.sub [0, 1, 2, 3, 4, 5, 6, 7, 8, 9, 10, 11, 12, 13, 14, 15, 16, 17] rfl rfl) hS dX9_reaches_94 (Nat.le_of_ble_eq_true rfl) (Nat.le_of_ble_eq_true rfl) (⟨n, L, Yw, wa_67, wb_68, f_69, f_70, f_71, v_72, v_73, v_74, v_75, v_76, v_77, f_78, f_79, f_80, f_81, f_82, f_83, f_84, f_85, f_86, hn, hL, tf_69, bv_72, bv_73, bv_74, bv_75, bv_76, bv_77, tf_78, tf_81, tf_82, tf_83, tf_84, g_87, g_88, g_89, g_91, knn_97, rfl⟩)
        · have b_99 : iv 0 ((n : Int) - 1) u_95 := iv_l1 (Int32.not_le.mp c_98) bu_95 bv_73 (by first | decide | omega)
          have b_100 : iv 1 ((n : Int)) v_73 := iv_l2 (Int32.not_le.mp c_98) bu_95 bv_73 (by first | decide | omega)
          refine lv_aload_n hx hb dX9_reaches_50 rfl (lv_at hl 2 rfl) ?_
          refine va_get (ci := 8) (v := .ref (Yw 1)) (C := RX8) (T := TX8) (N := 17) hx hb hg inX8 hown hK hP 8 rfl rfl 2 (by decide) (hg _ q_4_71) (fun _ h9 => h9) rfl dX9_reaches_51 ?_
          refine lv_iload hx hb dX9_reaches_54 (lv_at hl 0 rfl) ?_
          refine va_iald hx hb hK hP 9 0 rfl rfl (iv_in b_99 (by first | decide | omega)) dX9_reaches_56 ?_
          refine lv_topi (fun x_101 ex_101 => ?_)
          have bx_101 : iv 0 ((L : Int) - 1) x_101 := by rw [ex_101]; exact tf_78 _
          refine lv_iload_n hx hb dX9_reaches_57 rfl (lv_at hl 4 rfl) ?_
          refine jnI (wr := [(y 3, aI V 4 fy3), (y 9, aI V 900 fy9), (y 19, .inr (4, o4_rrrrrr (y 2) (y 20) (y 21) (y 22) (y 23) (y 24))), (y 20, aI V 2000 f_69), (y 21, aI V 6 f_70), (y 22, aI V 64 f_71), (y 0, .inr (9, o9_rirrrrrrrrrviii (y 1) py0_1 (y 2) (y 10) (y 19) (y 25) (y 26) (y 30) (y 31) (y 32) (Yw 0) o11 py0_12 py0_13 py0_14)), (y 2, .inr (1, o1_iiiiiirrrrrrriiiii py2_0 py2_1 py2_2 py2_3 py2_4 py2_5 (y 3) (y 4) (y 5) (y 6) (y 7) (y 8) (y 9) py2_13 py2_14 py2_15 py2_16 py2_17)), (Yw 0, .inr (8, o8_iirrriirrrrrrriii v_72 (nI n) (Yw 1) (Yw 2) wa_67 v_73 v_74 (y 19) (Yw 4) (Yw 5) (Yw 6) (Yw 7) (Yw 8) wb_68 v_75 v_76 v_77)), (Yw 1, aI V n f_78), (Yw 2, aI V n f_79), (wa_67, aI V n f_80), (Yw 4, aI V L f_81), (Yw 5, aI V n f_82), (Yw 6, aI V (n * 4) f_83), (Yw 7, aI V n f_84), (Yw 8, aI V 4 f_85), (wb_68, aI V n f_86)]) (rnS (rest := []) ⟨hx, hb, hml, hown, hg⟩ (k_X9_stackIn_0 l V x_101 a1 (iv_w bx_101 (by first | decide | omega)) (iv_w b_17 (by first | decide | omega))) mt_X9_stackIn q_3_126 ⟨Nat.le_of_ble_eq_true rfl, Nat.le_of_ble_eq_true rfl⟩ hK hP hD hS hA hE [] rfl rfl rfl hl.1 rfl (Nat.le_of_ble_eq_true rfl) dX9_reaches_58 ⟨Nat.le_of_ble_eq_true rfl, Nat.le_of_ble_eq_true rfl⟩) hP hD hS hA [] [0, 1, 2, 3, 4, 5, 6, 7, 8, 9, 10, 11, 12, 13, 14, 15, 16, 17] rfl rfl rfl (by decide) (fun r_102 w H locs hw hP hD hS => ?_)
          obtain ⟨br_102, er_102, et_103, rfl⟩ := hw
          have hP : va_P V.1 vwCl [(y 3, aI V 4 fy3), (y 9, aI V 900 fy9), (y 19, .inr (4, o4_rrrrrr (y 2) (y 20) (y 21) (y 22) (y 23) (y 24))), (y 20, aI V 2000 f_69), (y 21, aI V 6 f_70), (y 22, aI V 64 f_71), (y 0, .inr (9, o9_rirrrrrrrrrviii (y 1) py0_1 (y 2) (y 10) (y 19) (y 25) (y 26) (y 30) (y 31) (y 32) (Yw 0) o11 py0_12 py0_13 py0_14)), (y 2, .inr (1, o1_iiiiiirrrrrrriiiii py2_0 py2_1 py2_2 py2_3 py2_4 py2_5 (y 3) (y 4) (y 5) (y 6) (y 7) (y 8) (y 9) py2_13 py2_14 py2_15 py2_16 py2_17)), (Yw 0, .inr (8, o8_iirrriirrrrrrriii v_72 (nI n) (Yw 1) (Yw 2) wa_67 v_73 v_74 (y 19) (Yw 4) (Yw 5) (Yw 6) (Yw 7) (Yw 8) wb_68 v_75 v_76 v_77)), (Yw 1, aI V n f_78), (Yw 2, aI V n f_79), (wa_67, aI V n f_80), (Yw 4, aI V L f_81), (Yw 5, aI V n f_82), (Yw 6, aI V (n * 4) f_83), (Yw 7, aI V n f_84), (Yw 8, aI V 4 f_85), (wb_68, aI V n f_86)] H := hP
          have hD := cpD hP hD
          refine lv_istore (lv' := [(6, .int r_102), (5, .int u_95), (4, .int u_96), (3, .ref (Yw 0)), (0, .ref (y 0)), (1, .int a1), (2, .int a2)]) hx hb dX9_reaches_61 hl (by decide) rfl (fun ls hl => ?_)
          refine lv_iload_n hx hb dX9_reaches_63 rfl (lv_at hl 6 rfl) ?_
          refine lv_if_ne (tgt := 77) hx hb dX9_reaches_64 (by decide) (fun _ => ?_) (fun c_104 => absurd c_104 (iv_ne b_65 (iv_c (0 : Int32) (a := 0) (b := 0) (by decide)) (by first | decide | omega)))
          refine lv_iload hx hb dX9_reaches_77 (lv_at hl 2 rfl) ?_
          refine lv_iload hx hb dX9_reaches_79 (lv_at hl 0 rfl) ?_
          refine va_mmin hx hb (hml.trans hl.1.symm) hown (hg _ q_4_214) (hg _ q_2_99) (hg _ q_1_10) (hg _ q_2_100) (Nat.le_of_ble_eq_true rfl) (Nat.le_of_ble_eq_true rfl) (Nat.le_of_ble_eq_true rfl) (Nat.le_of_ble_eq_true rfl) dX9_reaches_81 ?_
          refine lv_topi (fun x_105 ex_105 => ?_)
          have bx_105 : iv (-2147483648) 4 x_105 := by rw [ex_105]; exact iv_min (iv_top u_96) br_102 (by first | decide | omega)
          refine lv_istore (lv' := [(4, .int x_105), (6, .int r_102), (5, .int u_95), (3, .ref (Yw 0)), (0, .ref (y 0)), (1, .int a1), (2, .int a2)]) hx hb dX9_reaches_84 hl (by decide) rfl (fun ls hl => ?_)
          obtain ⟨x_106, ex_106⟩ : ∃ z9 : Int32, z9 = u_95 + 1 := ⟨_, rfl⟩
          have bx_106 : iv 1 ((n : Int)) x_106 := by rw [ex_106]; exact iv_add b_99 (iv_c (1 : Int32) (a := 1) (b := 1) (by first | decide | omega)) (by first | decide | omega)
          refine lv_iinc (v := x_106) (lv' := [(5, .int x_106), (4, .int x_105), (6, .int r_102), (3, .ref (Yw 0)), (0, .ref (y 0)), (1, .int a1), (2, .int a2)]) hx hb dX9_reaches_86 hl (k := 2) rfl (by rw [ex_106]; rfl) (by decide) rfl (fun ls hl => ?_)
          refine lv_goto (tgt := 41) hx hb dX9_reaches_89 (by decide) ?_
          exact ihn_97 _ _ _ _ (by rw [en_97, ex_106]; exact mu_up b_99 (by first | decide | omega)) ⟨x_106, x_105, (iv_w bx_106 (by first | decide | omega)), knn_97, rfl, hP, hD, hS, lv_sub hl [0, 1, 3, 4, 5, 6] rfl⟩
      · refine lv_bipush (v := (-2)) hx hb dX9_reaches_17 (by decide) ?_
        have z_0 := Int32.lt_iff_toInt_lt.mp hq0
        have z_1 := Int32.le_iff_toInt_le.mp (Int32.not_lt.mp c_7)
        have z_2 := Int32.lt_iff_toInt_lt.mp (Int32.not_le.mp c_8)
        have z_3 : ¬ ((a2 : Int32).toInt = (0 : Int32).toInt) := fun q9 => c_21 (Int32.toInt_inj.mp q9)
        have z_4 : ¬ ((a2 : Int32).toInt = (1 : Int32).toInt) := fun q9 => c_64 (Int32.toInt_inj.mp q9)
        have k_0 : (0 : Int32).toInt = 0 := (by decide)
        have k_1 : (1 : Int32).toInt = 1 := (by decide)
        exfalso
        have g_0 := hf3
        have g_1 := hf4
        have g_2 := hf5
        have g_3 := hf6
        omega
set_option maxHeartbeats 4000000 in
set_option maxRecDepth 100000 in
theorem k_X9_stands_1 (l : Launch) (V : GV) (y : Nat → Nat) (D9 : Nat → Int32) (py0_1 : Int32) (o11 : Value) (py0_12 : Int32) (py0_13 : Int32) (py0_14 : Int32) (py2_0 : Int32) (py2_1 : Int32) (py2_2 : Int32) (py2_3 : Int32) (py2_4 : Int32) (py2_5 : Int32) (py2_13 : Int32) (py2_14 : Int32) (py2_15 : Int32) (py2_16 : Int32) (py2_17 : Int32) (fy3 : Nat → Int32) (fy9 : Nat → Int32) (fy20 : Nat → Int32) (fy21 : Nat → Int32) (fy22 : Nat → Int32) (bpy0_1 : iv 0 900 py0_1) (bpy0_12 : iv 0 9999 py0_12) (bpy0_13 : iv 0 9 py0_13) (bpy2_1 : iv 0 4 py2_1) (bpy2_2 : iv 0 4 py2_2) (bpy2_3 : iv 0 8 py2_3) (bpy2_4 : iv 0 9999 py2_4) (bpy2_5 : iv 0 9 py2_5) (bpy2_13 : iv 0 900 py2_13) (bpy2_14 : iv 0 900 py2_14) (bpy2_15 : iv 0 900 py2_15) (bpy2_16 : iv 0 900 py2_16) (bpy2_17 : iv 0 900 py2_17) (tfy20 : ∀ j, iv 0 10 (fy20 j)) (hL9 : LW D9 fy3 fy9 py2_14 py2_15 py2_16 py2_17) (hK9 : KN D9 fy20) : Ct l V yX9_stands (.code yX9_stands cX9_stands 1 (some .int)) 8 [.ref (y 0)] [(y 0, .inr (9, o9_rirrrrrrrrnviii (y 1) py0_1 (y 2) (y 10) (y 19) (y 25) (y 26) (y 30) (y 31) (y 32) o11 py0_12 py0_13 py0_14)), (y 2, .inr (1, o1_iiiiiirrrrrrriiiii py2_0 py2_1 py2_2 py2_3 py2_4 py2_5 (y 3) (y 4) (y 5) (y 6) (y 7) (y 8) (y 9) py2_13 py2_14 py2_15 py2_16 py2_17)), (y 3, aI V 4 fy3), (y 9, aI V 900 fy9), (y 19, .inr (4, o4_rrrrrr (y 2) (y 20) (y 21) (y 22) (y 23) (y 24))), (y 20, aI V 2000 fy20), (y 21, aI V 6 fy21), (y 22, aI V 64 fy22)] 10 46481 (QI V (fun (r : Int32) (w : va_W) => ∃ (n : Nat) (L : Nat) (Yw : Nat → Nat) (wa : Nat) (wb : Nat) (g0 : Nat → Int32) (g1 : Nat → Int32) (g2 : Nat → Int32) (ww0 : Int32) (ww5 : Int32) (ww6 : Int32) (ww14 : Int32) (ww15 : Int32) (ww16 : Int32) (wew1 : Nat → Int32) (wew2 : Nat → Int32) (wew3 : Nat → Int32) (wew4 : Nat → Int32) (wew5 : Nat → Int32) (wew6 : Nat → Int32) (wew7 : Nat → Int32) (wew8 : Nat → Int32) (wew9 : Nat → Int32), (1 ≤ n ∧ n ≤ 3646) ∧ (1 ≤ L ∧ L ≤ 10000) ∧ (∀ j, iv 0 10 (g0 j)) ∧ iv 0 4 ww0 ∧ iv 0 ((n : Int)) ww5 ∧ iv 0 4 ww6 ∧ iv 0 4 ww14 ∧ iv 0 9 ww15 ∧ iv 0 ((n : Int)) ww16 ∧ (∀ j, iv 0 ((L : Int) - 1) (wew1 j)) ∧ (∀ j, iv 0 ((n : Int)) (wew4 j)) ∧ (∀ j, iv 0 (4 * (n : Int) - 1) (wew5 j)) ∧ (∀ j, iv 0 ((n : Int) - 1) (wew6 j)) ∧ (∀ j, iv 0 ((n : Int) - 1) (wew7 j)) ∧ iv 0 3646 r ∧ (WA ww5 wew4 wew1) ∧ (WB ww16 ww6 ww5 wew6) ∧ (WC ww5 wew2) ∧ (ww0 = py2_1) ∧ KN D9 g0 ∧ w = [(y 0, .inr (9, o9_rirrrrrrrrrviii (y 1) py0_1 (y 2) (y 10) (y 19) (y 25) (y 26) (y 30) (y 31) (y 32) (Yw 0) o11 py0_12 py0_13 py0_14)), (y 2, .inr (1, o1_iiiiiirrrrrrriiiii py2_0 py2_1 py2_2 py2_3 py2_4 py2_5 (y 3) (y 4) (y 5) (y 6) (y 7) (y 8) (y 9) py2_13 py2_14 py2_15 py2_16 py2_17)), (y 3, aI V 4 fy3), (y 9, aI V 900 fy9), (y 19, .inr (4, o4_rrrrrr (y 2) (y 20) (y 21) (y 22) (y 23) (y 24))), (y 20, aI V 2000 g0), (y 21, aI V 6 g1), (y 22, aI V 64 g2), (Yw 0, .inr (8, o8_iirrriirrrrrrriii ww0 (nI n) (Yw 1) (Yw 2) wa ww5 ww6 (y 19) (Yw 4) (Yw 5) (Yw 6) (Yw 7) (Yw 8) wb ww14 ww15 ww16)), (Yw 1, aI V n wew1), (Yw 2, aI V n wew2), (wa, aI V n wew3), (Yw 4, aI V L wew4), (Yw 5, aI V n wew5), (Yw 6, aI V (n * 4) wew6), (Yw 7, aI V n wew7), (Yw 8, aI V 4 wew8), (wb, aI V n wew9)])) := by
  refine Ct.of (by decide) (Nat.le_of_ble_eq_true rfl) (fun p e s m below meth c A ls hx hb hr hml hown hlk hnm hg hP hK hD hE hA hS hl => ?_)
  have hl : lv_has ls 1 [(0, .ref (y 0))] := hl
  refine lv_aload_n hx hb dX9_stands_0 rfl (lv_at hl 0 rfl) ?_
  refine lv_ldcw (v := 1000000) hx hb hown (hg _ q_4_194) dX9_stands_1 ?_
  refine jnR (wr := []) (rnV (rest := []) ⟨hx, hb, hml, hown, hg⟩ (k_X9_waysFromNow_1 l V y D9 1000000 fy3 fy9 fy20 fy21 fy22 py0_1 o11 py0_12 py0_13 py0_14 py2_0 py2_1 py2_2 py2_3 py2_4 py2_5 py2_13 py2_14 py2_15 py2_16 py2_17 tfy20 bpy0_1 bpy0_12 bpy0_13 bpy2_1 bpy2_2 bpy2_3 bpy2_4 bpy2_5 bpy2_13 bpy2_14 bpy2_15 bpy2_16 bpy2_17 hL9 hK9) mt_X9_waysFromNow q_4_52 ⟨Nat.le_of_ble_eq_true rfl, Nat.le_of_ble_eq_true rfl⟩ hK hP hD hS hA hE [2, 3, 4, 5, 6, 7, 0, 1] rfl rfl 0 rfl rfl rfl rfl hl.1 rfl (Nat.le_of_ble_eq_true rfl) dX9_stands_4 ⟨Nat.le_of_ble_eq_true rfl, Nat.le_of_ble_eq_true rfl⟩) hP hD hS hA [2, 3, 4, 5, 6, 7, 0, 1] [] rfl rfl rfl (by decide) (fun r_1 w H locs hw hP hD hS => ?_)
  refine W.widen (k := 10) (n := 46481) (Nat.le_of_ble_eq_true rfl) (Nat.le_of_ble_eq_true rfl) ?_
  obtain ⟨n, L, Yw, wa_2, wb_3, f_4, f_5, f_6, v_7, v_8, v_9, v_10, v_11, v_12, f_13, f_14, f_15, f_16, f_17, f_18, f_19, f_20, f_21, hn, hL, tf_4, bv_7, bv_8, bv_9, bv_10, bv_11, bv_12, tf_13, tf_16, tf_17, tf_18, tf_19, eW, g_22, g_23, g_24, g_25, g_26, kn_27, rfl⟩ := hw
  have hP : va_P V.1 vwCl [(y 3, aI V 4 fy3), (y 9, aI V 900 fy9), (y 19, .inr (4, o4_rrrrrr (y 2) (y 20) (y 21) (y 22) (y 23) (y 24))), (y 20, aI V 2000 f_4), (y 21, aI V 6 f_5), (y 22, aI V 64 f_6), (y 0, .inr (9, o9_rirrrrrrrrrviii (y 1) py0_1 (y 2) (y 10) (y 19) (y 25) (y 26) (y 30) (y 31) (y 32) (Yw 0) o11 py0_12 py0_13 py0_14)), (y 2, .inr (1, o1_iiiiiirrrrrrriiiii py2_0 py2_1 py2_2 py2_3 py2_4 py2_5 (y 3) (y 4) (y 5) (y 6) (y 7) (y 8) (y 9) py2_13 py2_14 py2_15 py2_16 py2_17)), (Yw 0, .inr (8, o8_iirrriirrrrrrriii v_7 (nI n) (Yw 1) (Yw 2) wa_2 v_8 v_9 (y 19) (Yw 4) (Yw 5) (Yw 6) (Yw 7) (Yw 8) wb_3 v_10 v_11 v_12)), (Yw 1, aI V n f_13), (Yw 2, aI V n f_14), (wa_2, aI V n f_15), (Yw 4, aI V L f_16), (Yw 5, aI V n f_17), (Yw 6, aI V (n * 4) f_18), (Yw 7, aI V n f_19), (Yw 8, aI V 4 f_20), (wb_3, aI V n f_21)] H := hP
  have hD := cpD hP hD
  rw [← eW]
  refine va_get (ci := 8) (v := .int v_8) (C := RX8) (T := TX8) (N := 17) hx hb hg inX8 hown hK hP 8 rfl rfl 5 (by decide) (hg _ q_4_78) (fun _ h9 => h9) rfl dX9_stands_7 ?_
  have hP := subP (ws' := [(y 0, .inr (9, o9_rirrrrrrrrrviii (y 1) py0_1 (y 2) (y 10) (y 19) (y 25) (y 26) (y 30) (y 31) (y 32) (Yw 0) o11 py0_12 py0_13 py0_14)), (y 2, .inr (1, o1_iiiiiirrrrrrriiiii py2_0 py2_1 py2_2 py2_3 py2_4 py2_5 (y 3) (y 4) (y 5) (y 6) (y 7) (y 8) (y 9) py2_13 py2_14 py2_15 py2_16 py2_17)), (y 3, aI V 4 fy3), (y 9, aI V 900 fy9), (y 19, .inr (4, o4_rrrrrr (y 2) (y 20) (y 21) (y 22) (y 23) (y 24))), (y 20, aI V 2000 f_4), (y 21, aI V 6 f_5), (y 22, aI V 64 f_6), (Yw 0, .inr (8, o8_iirrriirrrrrrriii v_7 (nI n) (Yw 1) (Yw 2) wa_2 v_8 v_9 (y 19) (Yw 4) (Yw 5) (Yw 6) (Yw 7) (Yw 8) wb_3 v_10 v_11 v_12)), (Yw 1, aI V n f_13), (Yw 2, aI V n f_14), (wa_2, aI V n f_15), (Yw 4, aI V L f_16), (Yw 5, aI V n f_17), (Yw 6, aI V (n * 4) f_18), (Yw 7, aI V n f_19), (Yw 8, aI V 4 f_20), (wb_3, aI V n f_21)]) hP [6, 7, 0, 1, 2, 3, 4, 5, 8, 9, 10, 11, 12, 13, 14, 15, 16, 17] rfl
  have hD := subD hP hD [6, 7, 0, 1, 2, 3, 4, 5, 8, 9, 10, 11, 12, 13, 14, 15, 16, 17] rfl rfl
  exact fiI hx hb hr hlk hK (subP (ws' := [(y 0, .inr (9, o9_rirrrrrrrrrviii (y 1) py0_1 (y 2) (y 10) (y 19) (y 25) (y 26) (y 30) (y 31) (y 32) (Yw 0) o11 py0_12 py0_13 py0_14)), (y 2, .inr (1, o1_iiiiiirrrrrrriiiii py2_0 py2_1 py2_2 py2_3 py2_4 py2_5 (y 3) (y 4) (y 5) (y 6) (y 7) (y 8) (y 9) py2_13 py2_14 py2_15 py2_16 py2_17)), (y 3, aI V 4 fy3), (y 9, aI V 900 fy9), (y 19, .inr (4, o4_rrrrrr (y 2) (y 20) (y 21) (y 22) (y 23) (y 24))), (y 20, aI V 2000 f_4), (y 21, aI V 6 f_5), (y 22, aI V 64 f_6), (Yw 0, .inr (8, o8_iirrriirrrrrrriii v_7 (nI n) (Yw 1) (Yw 2) wa_2 v_8 v_9 (y 19) (Yw 4) (Yw 5) (Yw 6) (Yw 7) (Yw 8) wb_3 v_10 v_11 v_12)), (Yw 1, aI V n f_13), (Yw 2, aI V n f_14), (wa_2, aI V n f_15), (Yw 4, aI V L f_16), (Yw 5, aI V n f_17), (Yw 6, aI V (n * 4) f_18), (Yw 7, aI V n f_19), (Yw 8, aI V 4 f_20), (wb_3, aI V n f_21)]) hP [0, 1, 2, 3, 4, 5, 6, 7, 8, 9, 10, 11, 12, 13, 14, 15, 16, 17] rfl) (hD.sub [0, 1, 2, 3, 4, 5, 6, 7, 8, 9, 10, 11, 12, 13, 14, 15, 16, 17] rfl rfl) hS dX9_stands_10 (Nat.le_of_ble_eq_true rfl) (Nat.le_of_ble_eq_true rfl) (⟨n, L, Yw, wa_2, wb_3, f_4, f_5, f_6, v_7, v_8, v_9, v_10, v_11, v_12, f_13, f_14, f_15, f_16, f_17, f_18, f_19, f_20, f_21, hn, hL, tf_4, bv_7, bv_8, bv_9, bv_10, bv_11, bv_12, tf_13, tf_16, tf_17, tf_18, tf_19, (iv_w bv_8 (by first | decide | omega)), g_22, g_23, g_24, g_26, kn_27, rfl⟩)
set_option maxHeartbeats 4000000 in
set_option maxRecDepth 100000 in
theorem k_X9_stands_2 (l : Launch) (V : GV) (n : Nat) (L : Nat) (Yw : Nat → Nat) (y : Nat → Nat) (D9 : Nat → Int32) (py0_1 : Int32) (o11 : Value) (py0_12 : Int32) (py0_13 : Int32) (py0_14 : Int32) (py2_0 : Int32) (py2_1 : Int32) (py2_2 : Int32) (py2_3 : Int32) (py2_4 : Int32) (py2_5 : Int32) (py2_13 : Int32) (py2_14 : Int32) (py2_15 : Int32) (py2_16 : Int32) (py2_17 : Int32) (fy3 : Nat → Int32) (fy9 : Nat → Int32) (fy20 : Nat → Int32) (fy21 : Nat → Int32) (fy22 : Nat → Int32) (pYw0_0 : Int32) (wa : Nat) (pYw0_5 : Int32) (pYw0_6 : Int32) (wb : Nat) (pYw0_14 : Int32) (pYw0_15 : Int32) (pYw0_16 : Int32) (fYw1 : Nat → Int32) (fYw2 : Nat → Int32) (fwa : Nat → Int32) (fYw4 : Nat → Int32) (fYw5 : Nat → Int32) (fYw6 : Nat → Int32) (fYw7 : Nat → Int32) (fYw8 : Nat → Int32) (fwb : Nat → Int32) (hn : 1 ≤ n ∧ n ≤ 3646) (hL : 1 ≤ L ∧ L ≤ 10000) (hq0 : pYw0_0 < py2_1) (bpy0_1 : iv 0 900 py0_1) (bpy0_12 : iv 0 9999 py0_12) (bpy0_13 : iv 0 9 py0_13) (bpy2_1 : iv 0 4 py2_1) (bpy2_2 : iv 0 4 py2_2) (bpy2_3 : iv 0 8 py2_3) (bpy2_4 : iv 0 9999 py2_4) (bpy2_5 : iv 0 9 py2_5) (bpy2_13 : iv 0 900 py2_13) (bpy2_14 : iv 0 900 py2_14) (bpy2_15 : iv 0 900 py2_15) (bpy2_16 : iv 0 900 py2_16) (bpy2_17 : iv 0 900 py2_17) (tfy20 : ∀ j, iv 0 10 (fy20 j)) (bpYw0_0 : iv 0 4 pYw0_0) (bpYw0_5 : iv 0 ((n : Int)) pYw0_5) (bpYw0_6 : iv 0 4 pYw0_6) (bpYw0_14 : iv 0 4 pYw0_14) (bpYw0_15 : iv 0 9 pYw0_15) (bpYw0_16 : iv 0 ((n : Int)) pYw0_16) (tfYw1 : ∀ j, iv 0 ((L : Int) - 1) (fYw1 j)) (tfYw4 : ∀ j, iv 0 ((n : Int)) (fYw4 j)) (tfYw5 : ∀ j, iv 0 (4 * (n : Int) - 1) (fYw5 j)) (tfYw6 : ∀ j, iv 0 ((n : Int) - 1) (fYw6 j)) (tfYw7 : ∀ j, iv 0 ((n : Int) - 1) (fYw7 j)) (hf0 : WA pYw0_5 fYw4 fYw1) (hf1 : WB pYw0_16 pYw0_6 pYw0_5 fYw6) (hf2 : WC pYw0_5 fYw2) (hL9 : LW D9 fy3 fy9 py2_14 py2_15 py2_16 py2_17) (hK9 : KN D9 fy20) : Ct l V yX9_stands (.code yX9_stands cX9_stands 1 (some .int)) 8 [.ref (y 0)] [(y 0, .inr (9, o9_rirrrrrrrrrviii (y 1) py0_1 (y 2) (y 10) (y 19) (y 25) (y 26) (y 30) (y 31) (y 32) (Yw 0) o11 py0_12 py0_13 py0_14)), (y 2, .inr (1, o1_iiiiiirrrrrrriiiii py2_0 py2_1 py2_2 py2_3 py2_4 py2_5 (y 3) (y 4) (y 5) (y 6) (y 7) (y 8) (y 9) py2_13 py2_14 py2_15 py2_16 py2_17)), (y 3, aI V 4 fy3), (y 9, aI V 900 fy9), (y 19, .inr (4, o4_rrrrrr (y 2) (y 20) (y 21) (y 22) (y 23) (y 24))), (y 20, aI V 2000 fy20), (y 21, aI V 6 fy21), (y 22, aI V 64 fy22), (Yw 0, .inr (8, o8_iirrriirrrrrrriii pYw0_0 (nI n) (Yw 1) (Yw 2) wa pYw0_5 pYw0_6 (y 19) (Yw 4) (Yw 5) (Yw 6) (Yw 7) (Yw 8) wb pYw0_14 pYw0_15 pYw0_16)), (Yw 1, aI V n fYw1), (Yw 2, aI V n fYw2), (wa, aI V n fwa), (Yw 4, aI V L fYw4), (Yw 5, aI V n fYw5), (Yw 6, aI V (n * 4) fYw6), (Yw 7, aI V n fYw7), (Yw 8, aI V 4 fYw8), (wb, aI V n fwb)] 10 46481 (QI V (fun (r : Int32) (w : va_W) => ∃ (n : Nat) (L : Nat) (Yw : Nat → Nat) (wa : Nat) (wb : Nat) (g0 : Nat → Int32) (g1 : Nat → Int32) (g2 : Nat → Int32) (ww0 : Int32) (ww5 : Int32) (ww6 : Int32) (ww14 : Int32) (ww15 : Int32) (ww16 : Int32) (wew1 : Nat → Int32) (wew2 : Nat → Int32) (wew3 : Nat → Int32) (wew4 : Nat → Int32) (wew5 : Nat → Int32) (wew6 : Nat → Int32) (wew7 : Nat → Int32) (wew8 : Nat → Int32) (wew9 : Nat → Int32), (1 ≤ n ∧ n ≤ 3646) ∧ (1 ≤ L ∧ L ≤ 10000) ∧ (∀ j, iv 0 10 (g0 j)) ∧ iv 0 4 ww0 ∧ iv 0 ((n : Int)) ww5 ∧ iv 0 4 ww6 ∧ iv 0 4 ww14 ∧ iv 0 9 ww15 ∧ iv 0 ((n : Int)) ww16 ∧ (∀ j, iv 0 ((L : Int) - 1) (wew1 j)) ∧ (∀ j, iv 0 ((n : Int)) (wew4 j)) ∧ (∀ j, iv 0 (4 * (n : Int) - 1) (wew5 j)) ∧ (∀ j, iv 0 ((n : Int) - 1) (wew6 j)) ∧ (∀ j, iv 0 ((n : Int) - 1) (wew7 j)) ∧ iv 0 3646 r ∧ (WA ww5 wew4 wew1) ∧ (WB ww16 ww6 ww5 wew6) ∧ (WC ww5 wew2) ∧ (ww0 = py2_1) ∧ KN D9 g0 ∧ w = [(y 0, .inr (9, o9_rirrrrrrrrrviii (y 1) py0_1 (y 2) (y 10) (y 19) (y 25) (y 26) (y 30) (y 31) (y 32) (Yw 0) o11 py0_12 py0_13 py0_14)), (y 2, .inr (1, o1_iiiiiirrrrrrriiiii py2_0 py2_1 py2_2 py2_3 py2_4 py2_5 (y 3) (y 4) (y 5) (y 6) (y 7) (y 8) (y 9) py2_13 py2_14 py2_15 py2_16 py2_17)), (y 3, aI V 4 fy3), (y 9, aI V 900 fy9), (y 19, .inr (4, o4_rrrrrr (y 2) (y 20) (y 21) (y 22) (y 23) (y 24))), (y 20, aI V 2000 g0), (y 21, aI V 6 g1), (y 22, aI V 64 g2), (Yw 0, .inr (8, o8_iirrriirrrrrrriii ww0 (nI n) (Yw 1) (Yw 2) wa ww5 ww6 (y 19) (Yw 4) (Yw 5) (Yw 6) (Yw 7) (Yw 8) wb ww14 ww15 ww16)), (Yw 1, aI V n wew1), (Yw 2, aI V n wew2), (wa, aI V n wew3), (Yw 4, aI V L wew4), (Yw 5, aI V n wew5), (Yw 6, aI V (n * 4) wew6), (Yw 7, aI V n wew7), (Yw 8, aI V 4 wew8), (wb, aI V n wew9)])) := by
  refine Ct.of (by decide) (Nat.le_of_ble_eq_true rfl) (fun p e s m below meth c A ls hx hb hr hml hown hlk hnm hg hP hK hD hE hA hS hl => ?_)
  have hl : lv_has ls 1 [(0, .ref (y 0))] := hl
  refine lv_aload_n hx hb dX9_stands_0 rfl (lv_at hl 0 rfl) ?_
  refine lv_ldcw (v := 1000000) hx hb hown (hg _ q_4_194) dX9_stands_1 ?_
  refine jnR (wr := []) (rnV (rest := []) ⟨hx, hb, hml, hown, hg⟩ (k_X9_waysFromNow_2 l V n L Yw y D9 1000000 fy3 fy9 fy20 fy21 fy22 pYw0_0 wa pYw0_5 pYw0_6 wb pYw0_14 pYw0_15 pYw0_16 fYw1 fYw2 fwa fYw4 fYw5 fYw6 fYw7 fYw8 fwb py0_1 o11 py0_12 py0_13 py0_14 py2_0 py2_1 py2_2 py2_3 py2_4 py2_5 py2_13 py2_14 py2_15 py2_16 py2_17 hn hL hq0 tfy20 bpYw0_0 bpYw0_5 bpYw0_6 bpYw0_14 bpYw0_15 bpYw0_16 tfYw1 tfYw4 tfYw5 tfYw6 tfYw7 bpy0_1 bpy0_12 bpy0_13 bpy2_1 bpy2_2 bpy2_3 bpy2_4 bpy2_5 bpy2_13 bpy2_14 bpy2_15 bpy2_16 bpy2_17 hf0 hf1 hf2 hL9 hK9) mt_X9_waysFromNow q_4_52 ⟨Nat.le_of_ble_eq_true rfl, Nat.le_of_ble_eq_true rfl⟩ hK hP hD hS hA hE [2, 3, 4, 5, 6, 7, 8, 9, 10, 11, 12, 13, 14, 15, 16, 17, 0, 1] rfl rfl 0 rfl rfl rfl rfl hl.1 rfl (Nat.le_of_ble_eq_true rfl) dX9_stands_4 ⟨Nat.le_of_ble_eq_true rfl, Nat.le_of_ble_eq_true rfl⟩) hP hD hS hA [2, 3, 4, 5, 6, 7, 8, 9, 10, 11, 12, 13, 14, 15, 16, 17, 0, 1] [] rfl rfl rfl (by decide) (fun r_1 w H locs hw hP hD hS => ?_)
  refine W.widen (k := 10) (n := 46481) (Nat.le_of_ble_eq_true rfl) (Nat.le_of_ble_eq_true rfl) ?_
  obtain ⟨n, L, Yw, wa_2, wb_3, f_4, f_5, f_6, v_7, v_8, v_9, v_10, v_11, v_12, f_13, f_14, f_15, f_16, f_17, f_18, f_19, f_20, f_21, hn, hL, tf_4, bv_7, bv_8, bv_9, bv_10, bv_11, bv_12, tf_13, tf_16, tf_17, tf_18, tf_19, eW, g_22, g_23, g_24, g_25, g_26, kn_27, rfl⟩ := hw
  have hP : va_P V.1 vwCl [(y 3, aI V 4 fy3), (y 9, aI V 900 fy9), (y 19, .inr (4, o4_rrrrrr (y 2) (y 20) (y 21) (y 22) (y 23) (y 24))), (y 20, aI V 2000 f_4), (y 21, aI V 6 f_5), (y 22, aI V 64 f_6), (y 0, .inr (9, o9_rirrrrrrrrrviii (y 1) py0_1 (y 2) (y 10) (y 19) (y 25) (y 26) (y 30) (y 31) (y 32) (Yw 0) o11 py0_12 py0_13 py0_14)), (y 2, .inr (1, o1_iiiiiirrrrrrriiiii py2_0 py2_1 py2_2 py2_3 py2_4 py2_5 (y 3) (y 4) (y 5) (y 6) (y 7) (y 8) (y 9) py2_13 py2_14 py2_15 py2_16 py2_17)), (Yw 0, .inr (8, o8_iirrriirrrrrrriii v_7 (nI n) (Yw 1) (Yw 2) wa_2 v_8 v_9 (y 19) (Yw 4) (Yw 5) (Yw 6) (Yw 7) (Yw 8) wb_3 v_10 v_11 v_12)), (Yw 1, aI V n f_13), (Yw 2, aI V n f_14), (wa_2, aI V n f_15), (Yw 4, aI V L f_16), (Yw 5, aI V n f_17), (Yw 6, aI V (n * 4) f_18), (Yw 7, aI V n f_19), (Yw 8, aI V 4 f_20), (wb_3, aI V n f_21)] H := hP
  have hD := cpD hP hD
  rw [← eW]
  refine va_get (ci := 8) (v := .int v_8) (C := RX8) (T := TX8) (N := 17) hx hb hg inX8 hown hK hP 8 rfl rfl 5 (by decide) (hg _ q_4_78) (fun _ h9 => h9) rfl dX9_stands_7 ?_
  have hP := subP (ws' := [(y 0, .inr (9, o9_rirrrrrrrrrviii (y 1) py0_1 (y 2) (y 10) (y 19) (y 25) (y 26) (y 30) (y 31) (y 32) (Yw 0) o11 py0_12 py0_13 py0_14)), (y 2, .inr (1, o1_iiiiiirrrrrrriiiii py2_0 py2_1 py2_2 py2_3 py2_4 py2_5 (y 3) (y 4) (y 5) (y 6) (y 7) (y 8) (y 9) py2_13 py2_14 py2_15 py2_16 py2_17)), (y 3, aI V 4 fy3), (y 9, aI V 900 fy9), (y 19, .inr (4, o4_rrrrrr (y 2) (y 20) (y 21) (y 22) (y 23) (y 24))), (y 20, aI V 2000 f_4), (y 21, aI V 6 f_5), (y 22, aI V 64 f_6), (Yw 0, .inr (8, o8_iirrriirrrrrrriii v_7 (nI n) (Yw 1) (Yw 2) wa_2 v_8 v_9 (y 19) (Yw 4) (Yw 5) (Yw 6) (Yw 7) (Yw 8) wb_3 v_10 v_11 v_12)), (Yw 1, aI V n f_13), (Yw 2, aI V n f_14), (wa_2, aI V n f_15), (Yw 4, aI V L f_16), (Yw 5, aI V n f_17), (Yw 6, aI V (n * 4) f_18), (Yw 7, aI V n f_19), (Yw 8, aI V 4 f_20), (wb_3, aI V n f_21)]) hP [6, 7, 0, 1, 2, 3, 4, 5, 8, 9, 10, 11, 12, 13, 14, 15, 16, 17] rfl
  have hD := subD hP hD [6, 7, 0, 1, 2, 3, 4, 5, 8, 9, 10, 11, 12, 13, 14, 15, 16, 17] rfl rfl
  exact fiI hx hb hr hlk hK (subP (ws' := [(y 0, .inr (9, o9_rirrrrrrrrrviii (y 1) py0_1 (y 2) (y 10) (y 19) (y 25) (y 26) (y 30) (y 31) (y 32) (Yw 0) o11 py0_12 py0_13 py0_14)), (y 2, .inr (1, o1_iiiiiirrrrrrriiiii py2_0 py2_1 py2_2 py2_3 py2_4 py2_5 (y 3) (y 4) (y 5) (y 6) (y 7) (y 8) (y 9) py2_13 py2_14 py2_15 py2_16 py2_17)), (y 3, aI V 4 fy3), (y 9, aI V 900 fy9), (y 19, .inr (4, o4_rrrrrr (y 2) (y 20) (y 21) (y 22) (y 23) (y 24))), (y 20, aI V 2000 f_4), (y 21, aI V 6 f_5), (y 22, aI V 64 f_6), (Yw 0, .inr (8, o8_iirrriirrrrrrriii v_7 (nI n) (Yw 1) (Yw 2) wa_2 v_8 v_9 (y 19) (Yw 4) (Yw 5) (Yw 6) (Yw 7) (Yw 8) wb_3 v_10 v_11 v_12)), (Yw 1, aI V n f_13), (Yw 2, aI V n f_14), (wa_2, aI V n f_15), (Yw 4, aI V L f_16), (Yw 5, aI V n f_17), (Yw 6, aI V (n * 4) f_18), (Yw 7, aI V n f_19), (Yw 8, aI V 4 f_20), (wb_3, aI V n f_21)]) hP [0, 1, 2, 3, 4, 5, 6, 7, 8, 9, 10, 11, 12, 13, 14, 15, 16, 17] rfl) (hD.sub [0, 1, 2, 3, 4, 5, 6, 7, 8, 9, 10, 11, 12, 13, 14, 15, 16, 17] rfl rfl) hS dX9_stands_10 (Nat.le_of_ble_eq_true rfl) (Nat.le_of_ble_eq_true rfl) (⟨n, L, Yw, wa_2, wb_3, f_4, f_5, f_6, v_7, v_8, v_9, v_10, v_11, v_12, f_13, f_14, f_15, f_16, f_17, f_18, f_19, f_20, f_21, hn, hL, tf_4, bv_7, bv_8, bv_9, bv_10, bv_11, bv_12, tf_13, tf_16, tf_17, tf_18, tf_19, (iv_w bv_8 (by first | decide | omega)), g_22, g_23, g_24, g_26, kn_27, rfl⟩)
set_option maxHeartbeats 4000000 in
set_option maxRecDepth 100000 in
theorem k_X9_high_1 (l : Launch) (V : GV) (y : Nat → Nat) (a1 : Int32) (a2 : Int32) (py0_1 : Int32) (o10 : Value) (o11 : Value) (py0_12 : Int32) (py0_13 : Int32) (py0_14 : Int32) (py2_0 : Int32) (py2_1 : Int32) (py2_2 : Int32) (py2_3 : Int32) (py2_4 : Int32) (py2_5 : Int32) (py2_13 : Int32) (py2_14 : Int32) (py2_15 : Int32) (py2_16 : Int32) (py2_17 : Int32) (py33_1 : Int32) (py33_2 : Int32) (fy34 : Nat → Int64) (py35_1 : Int32) (py35_2 : Int32) (fy36 : Nat → Int64) (py37_1 : Int32) (py37_2 : Int32) (fy38 : Nat → Int64) (py39_1 : Int32) (py39_2 : Int32) (fy40 : Nat → Int64) (bpy0_1 : iv 0 900 py0_1) (bpy0_12 : iv 0 9999 py0_12) (bpy0_13 : iv 0 9 py0_13) (bpy2_1 : iv 0 4 py2_1) (bpy2_2 : iv 0 4 py2_2) (bpy2_3 : iv 0 8 py2_3) (bpy2_4 : iv 0 9999 py2_4) (bpy2_5 : iv 0 9 py2_5) (bpy2_13 : iv 0 900 py2_13) (bpy2_14 : iv 0 900 py2_14) (bpy2_15 : iv 0 900 py2_15) (bpy2_16 : iv 0 900 py2_16) (bpy2_17 : iv 0 900 py2_17) (bpy33_1 : iv (-1) 40 py33_1) (bpy35_1 : iv (-1) 40 py35_1) (bpy37_1 : iv (-1) 40 py37_1) (bpy39_1 : iv (-1) 40 py39_1) (hf0 : ¬ (rfF a1 a2 (-1 : Int32) py2_1 py33_1 py35_1 py37_1 py39_1 fy34 fy36 fy38 fy40 = 0)) : Ct l V yX9_high (.code yX9_high cX9_high 5 (some .long)) 3 [.ref (y 0), .int a1, .int a2] [(y 0, .inr (9, o9_rirrrrrrrrvviii (y 1) py0_1 (y 2) (y 10) (y 19) (y 25) (y 26) (y 30) (y 31) (y 32) o10 o11 py0_12 py0_13 py0_14)), (y 2, .inr (1, o1_iiiiiirrrrrrriiiii py2_0 py2_1 py2_2 py2_3 py2_4 py2_5 (y 3) (y 4) (y 5) (y 6) (y 7) (y 8) (y 9) py2_13 py2_14 py2_15 py2_16 py2_17)), (y 30, aT V 4 (va_up (va_up (va_up (va_up (fun _ => none) 0 (some (y 33))) 1 (some (y 35))) 2 (some (y 37))) 3 (some (y 39)))), (y 33, .inr (7, o7_rii (y 34) py33_1 py33_2)), (y 34, aJ V 40 fy34), (y 35, .inr (7, o7_rii (y 36) py35_1 py35_2)), (y 36, aJ V 40 fy36), (y 37, .inr (7, o7_rii (y 38) py37_1 py37_2)), (y 38, aJ V 40 fy38), (y 39, .inr (7, o7_rii (y 40) py39_1 py39_2)), (y 40, aJ V 40 fy40)] 0 0 (QL V (fun (r : Int64) (w : va_W) => w = [(y 0, .inr (9, o9_rirrrrrrrrvviii (y 1) py0_1 (y 2) (y 10) (y 19) (y 25) (y 26) (y 30) (y 31) (y 32) o10 o11 py0_12 py0_13 py0_14)), (y 2, .inr (1, o1_iiiiiirrrrrrriiiii py2_0 py2_1 py2_2 py2_3 py2_4 py2_5 (y 3) (y 4) (y 5) (y 6) (y 7) (y 8) (y 9) py2_13 py2_14 py2_15 py2_16 py2_17)), (y 30, aT V 4 (va_up (va_up (va_up (va_up (fun _ => none) 0 (some (y 33))) 1 (some (y 35))) 2 (some (y 37))) 3 (some (y 39)))), (y 33, .inr (7, o7_rii (y 34) py33_1 py33_2)), (y 34, aJ V 40 fy34), (y 35, .inr (7, o7_rii (y 36) py35_1 py35_2)), (y 36, aJ V 40 fy36), (y 37, .inr (7, o7_rii (y 38) py37_1 py37_2)), (y 38, aJ V 40 fy38), (y 39, .inr (7, o7_rii (y 40) py39_1 py39_2)), (y 40, aJ V 40 fy40)])) := by
  refine Ct.of (by decide) (Nat.le_of_ble_eq_true rfl) (fun p e s m below meth c A ls hx hb hr hml hown hlk hnm hg hP hK hD hE hA hS hl => ?_)
  have hl : lv_has ls 5 [(0, .ref (y 0)), (1, .int a1), (2, .int a2)] := hl
  refine lv_aload_n hx hb dX9_high_0 rfl (lv_at hl 0 rfl) ?_
  refine lv_iload_n hx hb dX9_high_1 rfl (lv_at hl 1 rfl) ?_
  refine lv_iload_n hx hb dX9_high_2 rfl (lv_at hl 2 rfl) ?_
  refine lv_iconst (v := (-1)) hx hb dX9_high_3 (by decide) ?_
  refine jnI (wr := []) (rnV (rest := []) ⟨hx, hb, hml, hown, hg⟩ (k_X9_refusalOfTold_0 l V y a1 a2 (-1) py0_1 o10 o11 py0_12 py0_13 py0_14 py2_0 py2_1 py2_2 py2_3 py2_4 py2_5 py2_13 py2_14 py2_15 py2_16 py2_17 py33_1 py33_2 fy34 py35_1 py35_2 fy36 py37_1 py37_2 fy38 py39_1 py39_2 fy40 bpy0_1 bpy0_12 bpy0_13 bpy2_1 bpy2_2 bpy2_3 bpy2_4 bpy2_5 bpy2_13 bpy2_14 bpy2_15 bpy2_16 bpy2_17 bpy33_1 bpy35_1 bpy37_1 bpy39_1) mt_X9_refusalOfTold q_5_21 ⟨Nat.le_of_ble_eq_true rfl, Nat.le_of_ble_eq_true rfl⟩ hK hP hD hS hA hE [0, 1, 2, 3, 4, 5, 6, 7, 8, 9, 10] rfl rfl 0 rfl rfl rfl rfl hl.1 rfl (Nat.le_of_ble_eq_true rfl) dX9_high_4 ⟨Nat.le_of_ble_eq_true rfl, Nat.le_of_ble_eq_true rfl⟩) hP hD hS hA [0, 1, 2, 3, 4, 5, 6, 7, 8, 9, 10] [] rfl rfl rfl (by decide) (fun r_1 w H locs hw hP hD hS => ?_)
  rcases hw with ⟨c_2, rfl, g_3, rfl⟩ | ⟨c_4, c_5, rfl, g_6, rfl⟩ | ⟨c_7, c_8, c_9, rfl, g_10, rfl⟩ | ⟨c_11, c_12, c_13, c_14, rfl, g_15, rfl⟩ | ⟨c_16, c_17, c_18, c_19, c_20, c_21, c_22, rfl, g_23, rfl⟩ | ⟨c_24, c_25, c_26, c_27, c_28, c_29, c_30, c_31, rfl, g_32, rfl⟩ | ⟨c_33, c_34, c_35, c_36, c_37, c_38, c_39, c_40, rfl, g_41, rfl⟩ | ⟨c_42, c_43, c_44, c_45, c_46, c_47, c_48, c_49, rfl, g_50, rfl⟩ | ⟨c_51, c_52, c_53, c_54, c_55, c_56, rfl, g_57, rfl⟩ | ⟨c_58, c_59, c_60, c_61, c_62, c_63, c_64, rfl, g_65, rfl⟩ | ⟨c_66, c_67, c_68, c_69, c_70, c_71, c_72, c_73, rfl, g_74, rfl⟩ | ⟨c_75, c_76, c_77, c_78, c_79, c_80, c_81, c_82, rfl, g_83, rfl⟩ | ⟨c_84, c_85, c_86, c_87, c_88, c_89, c_90, c_91, rfl, g_92, rfl⟩ | ⟨c_93, c_94, c_95, c_96, c_97, c_98, rfl, g_99, rfl⟩ | ⟨c_100, c_101, c_102, c_103, c_104, c_105, c_106, rfl, g_107, rfl⟩ | ⟨c_108, c_109, c_110, c_111, c_112, c_113, c_114, c_115, rfl, g_116, rfl⟩ | ⟨c_117, c_118, c_119, c_120, c_121, c_122, c_123, c_124, rfl, g_125, rfl⟩ | ⟨c_126, c_127, c_128, c_129, c_130, c_131, c_132, c_133, rfl, g_134, rfl⟩ | ⟨c_135, c_136, c_137, c_138, c_139, c_140, rfl, g_141, rfl⟩ | ⟨c_142, c_143, c_144, c_145, c_146, c_147, c_148, rfl, g_149, rfl⟩ | ⟨c_150, c_151, c_152, c_153, c_154, c_155, c_156, c_157, rfl, g_158, rfl⟩ | ⟨c_159, c_160, c_161, c_162, c_163, c_164, c_165, c_166, rfl, g_167, rfl⟩ | ⟨c_168, c_169, c_170, c_171, c_172, c_173, c_174, c_175, rfl, g_176, rfl⟩ | ⟨c_177, c_178, c_179, c_180, c_181, c_182, rfl, g_183, rfl⟩
  · have hP : va_P V.1 vwCl [(y 0, .inr (9, o9_rirrrrrrrrvviii (y 1) py0_1 (y 2) (y 10) (y 19) (y 25) (y 26) (y 30) (y 31) (y 32) o10 o11 py0_12 py0_13 py0_14)), (y 2, .inr (1, o1_iiiiiirrrrrrriiiii py2_0 py2_1 py2_2 py2_3 py2_4 py2_5 (y 3) (y 4) (y 5) (y 6) (y 7) (y 8) (y 9) py2_13 py2_14 py2_15 py2_16 py2_17)), (y 30, aT V 4 (va_up (va_up (va_up (va_up (fun _ => none) 0 (some (y 33))) 1 (some (y 35))) 2 (some (y 37))) 3 (some (y 39)))), (y 33, .inr (7, o7_rii (y 34) py33_1 py33_2)), (y 34, aJ V 40 fy34), (y 35, .inr (7, o7_rii (y 36) py35_1 py35_2)), (y 36, aJ V 40 fy36), (y 37, .inr (7, o7_rii (y 38) py37_1 py37_2)), (y 38, aJ V 40 fy38), (y 39, .inr (7, o7_rii (y 40) py39_1 py39_2)), (y 40, aJ V 40 fy40)] H := hP
    have hD := cpD hP hD
    have b_184 : iv (-2147483648) (-1) a1 := iv_l1 c_2 (iv_top a1) (iv_c (0 : Int32) (a := 0) (b := 0) (by decide)) (by decide)
    refine lv_istore_n (lv' := [(3, .int (-2)), (0, .ref (y 0)), (1, .int a1), (2, .int a2)]) hx hb dX9_high_7 rfl hl (by decide) rfl (fun ls hl => ?_)
    refine lv_iload_n hx hb dX9_high_8 rfl (lv_at hl 0 rfl) ?_
    refine lv_if_eq (tgt := 15) hx hb dX9_high_9 (by decide) (fun c_186 => absurd c_186 (by decide)) (fun _ => ?_)
    refine lv_iload_n hx hb dX9_high_12 rfl (lv_at hl 0 rfl) ?_
    refine lv_i2l (v := (-2)) hx hb dX9_high_13 (by decide +kernel) ?_
    exact fiL hx hb hr hlk hK hP hD hS dX9_high_14 (Nat.le_of_ble_eq_true rfl) (Nat.le_of_ble_eq_true rfl) (rfl)
  · have hP : va_P V.1 vwCl [(y 0, .inr (9, o9_rirrrrrrrrvviii (y 1) py0_1 (y 2) (y 10) (y 19) (y 25) (y 26) (y 30) (y 31) (y 32) o10 o11 py0_12 py0_13 py0_14)), (y 2, .inr (1, o1_iiiiiirrrrrrriiiii py2_0 py2_1 py2_2 py2_3 py2_4 py2_5 (y 3) (y 4) (y 5) (y 6) (y 7) (y 8) (y 9) py2_13 py2_14 py2_15 py2_16 py2_17)), (y 30, aT V 4 (va_up (va_up (va_up (va_up (fun _ => none) 0 (some (y 33))) 1 (some (y 35))) 2 (some (y 37))) 3 (some (y 39)))), (y 33, .inr (7, o7_rii (y 34) py33_1 py33_2)), (y 34, aJ V 40 fy34), (y 35, .inr (7, o7_rii (y 36) py35_1 py35_2)), (y 36, aJ V 40 fy36), (y 37, .inr (7, o7_rii (y 38) py37_1 py37_2)), (y 38, aJ V 40 fy38), (y 39, .inr (7, o7_rii (y 40) py39_1 py39_2)), (y 40, aJ V 40 fy40)] H := hP
    have hD := cpD hP hD
    have b_187 : iv 0 2147483647 a1 := iv_e2 (Int32.not_lt.mp c_4) (iv_c (0 : Int32) (a := 0) (b := 0) (by decide)) (iv_top a1) (by decide)
    have b_188 : iv 4 2147483647 a1 := iv_e2 c_5 (iv_c (4 : Int32) (a := 4) (b := 4) (by decide)) b_187 (by decide)
    refine lv_istore_n (lv' := [(3, .int (-2)), (0, .ref (y 0)), (1, .int a1), (2, .int a2)]) hx hb dX9_high_7 rfl hl (by decide) rfl (fun ls hl => ?_)
    refine lv_iload_n hx hb dX9_high_8 rfl (lv_at hl 0 rfl) ?_
    refine lv_if_eq (tgt := 15) hx hb dX9_high_9 (by decide) (fun c_190 => absurd c_190 (by decide)) (fun _ => ?_)
    refine lv_iload_n hx hb dX9_high_12 rfl (lv_at hl 0 rfl) ?_
    refine lv_i2l (v := (-2)) hx hb dX9_high_13 (by decide +kernel) ?_
    exact fiL hx hb hr hlk hK hP hD hS dX9_high_14 (Nat.le_of_ble_eq_true rfl) (Nat.le_of_ble_eq_true rfl) (rfl)
  · have hP : va_P V.1 vwCl [(y 0, .inr (9, o9_rirrrrrrrrvviii (y 1) py0_1 (y 2) (y 10) (y 19) (y 25) (y 26) (y 30) (y 31) (y 32) o10 o11 py0_12 py0_13 py0_14)), (y 2, .inr (1, o1_iiiiiirrrrrrriiiii py2_0 py2_1 py2_2 py2_3 py2_4 py2_5 (y 3) (y 4) (y 5) (y 6) (y 7) (y 8) (y 9) py2_13 py2_14 py2_15 py2_16 py2_17)), (y 30, aT V 4 (va_up (va_up (va_up (va_up (fun _ => none) 0 (some (y 33))) 1 (some (y 35))) 2 (some (y 37))) 3 (some (y 39)))), (y 33, .inr (7, o7_rii (y 34) py33_1 py33_2)), (y 34, aJ V 40 fy34), (y 35, .inr (7, o7_rii (y 36) py35_1 py35_2)), (y 36, aJ V 40 fy36), (y 37, .inr (7, o7_rii (y 38) py37_1 py37_2)), (y 38, aJ V 40 fy38), (y 39, .inr (7, o7_rii (y 40) py39_1 py39_2)), (y 40, aJ V 40 fy40)] H := hP
    have hD := cpD hP hD
    have b_191 : iv 0 2147483647 a1 := iv_e2 (Int32.not_lt.mp c_7) (iv_c (0 : Int32) (a := 0) (b := 0) (by decide)) (iv_top a1) (by decide)
    have b_192 : iv 0 3 a1 := iv_l1 (Int32.not_le.mp c_8) b_191 (iv_c (4 : Int32) (a := 4) (b := 4) (by decide)) (by decide)
    have b_193 : iv (-2147483648) (-1) a2 := iv_l1 c_9 (iv_top a2) (iv_c (0 : Int32) (a := 0) (b := 0) (by decide)) (by decide)
    refine lv_istore_n (lv' := [(3, .int (-2)), (0, .ref (y 0)), (1, .int a1), (2, .int a2)]) hx hb dX9_high_7 rfl hl (by decide) rfl (fun ls hl => ?_)
    refine lv_iload_n hx hb dX9_high_8 rfl (lv_at hl 0 rfl) ?_
    refine lv_if_eq (tgt := 15) hx hb dX9_high_9 (by decide) (fun c_195 => absurd c_195 (by decide)) (fun _ => ?_)
    refine lv_iload_n hx hb dX9_high_12 rfl (lv_at hl 0 rfl) ?_
    refine lv_i2l (v := (-2)) hx hb dX9_high_13 (by decide +kernel) ?_
    exact fiL hx hb hr hlk hK hP hD hS dX9_high_14 (Nat.le_of_ble_eq_true rfl) (Nat.le_of_ble_eq_true rfl) (rfl)
  · have hP : va_P V.1 vwCl [(y 0, .inr (9, o9_rirrrrrrrrvviii (y 1) py0_1 (y 2) (y 10) (y 19) (y 25) (y 26) (y 30) (y 31) (y 32) o10 o11 py0_12 py0_13 py0_14)), (y 2, .inr (1, o1_iiiiiirrrrrrriiiii py2_0 py2_1 py2_2 py2_3 py2_4 py2_5 (y 3) (y 4) (y 5) (y 6) (y 7) (y 8) (y 9) py2_13 py2_14 py2_15 py2_16 py2_17)), (y 30, aT V 4 (va_up (va_up (va_up (va_up (fun _ => none) 0 (some (y 33))) 1 (some (y 35))) 2 (some (y 37))) 3 (some (y 39)))), (y 33, .inr (7, o7_rii (y 34) py33_1 py33_2)), (y 34, aJ V 40 fy34), (y 35, .inr (7, o7_rii (y 36) py35_1 py35_2)), (y 36, aJ V 40 fy36), (y 37, .inr (7, o7_rii (y 38) py37_1 py37_2)), (y 38, aJ V 40 fy38), (y 39, .inr (7, o7_rii (y 40) py39_1 py39_2)), (y 40, aJ V 40 fy40)] H := hP
    have hD := cpD hP hD
    have b_196 : iv 0 2147483647 a1 := iv_e2 (Int32.not_lt.mp c_11) (iv_c (0 : Int32) (a := 0) (b := 0) (by decide)) (iv_top a1) (by decide)
    have b_197 : iv 0 3 a1 := iv_l1 (Int32.not_le.mp c_12) b_196 (iv_c (4 : Int32) (a := 4) (b := 4) (by decide)) (by decide)
    have b_198 : iv 0 2147483647 a2 := iv_e2 (Int32.not_lt.mp c_13) (iv_c (0 : Int32) (a := 0) (b := 0) (by decide)) (iv_top a2) (by decide)
    refine lv_istore_n (lv' := [(3, .int (-2)), (0, .ref (y 0)), (1, .int a1), (2, .int a2)]) hx hb dX9_high_7 rfl hl (by decide) rfl (fun ls hl => ?_)
    refine lv_iload_n hx hb dX9_high_8 rfl (lv_at hl 0 rfl) ?_
    refine lv_if_eq (tgt := 15) hx hb dX9_high_9 (by decide) (fun c_200 => absurd c_200 (by decide)) (fun _ => ?_)
    refine lv_iload_n hx hb dX9_high_12 rfl (lv_at hl 0 rfl) ?_
    refine lv_i2l (v := (-2)) hx hb dX9_high_13 (by decide +kernel) ?_
    exact fiL hx hb hr hlk hK hP hD hS dX9_high_14 (Nat.le_of_ble_eq_true rfl) (Nat.le_of_ble_eq_true rfl) (rfl)
  · have hP : va_P V.1 vwCl [(y 0, .inr (9, o9_rirrrrrrrrvviii (y 1) py0_1 (y 2) (y 10) (y 19) (y 25) (y 26) (y 30) (y 31) (y 32) o10 o11 py0_12 py0_13 py0_14)), (y 2, .inr (1, o1_iiiiiirrrrrrriiiii py2_0 py2_1 py2_2 py2_3 py2_4 py2_5 (y 3) (y 4) (y 5) (y 6) (y 7) (y 8) (y 9) py2_13 py2_14 py2_15 py2_16 py2_17)), (y 30, aT V 4 (va_up (va_up (va_up (va_up (fun _ => none) 0 (some (y 33))) 1 (some (y 35))) 2 (some (y 37))) 3 (some (y 39)))), (y 33, .inr (7, o7_rii (y 34) py33_1 py33_2)), (y 34, aJ V 40 fy34), (y 35, .inr (7, o7_rii (y 36) py35_1 py35_2)), (y 36, aJ V 40 fy36), (y 37, .inr (7, o7_rii (y 38) py37_1 py37_2)), (y 38, aJ V 40 fy38), (y 39, .inr (7, o7_rii (y 40) py39_1 py39_2)), (y 40, aJ V 40 fy40)] H := hP
    have hD := cpD hP hD
    have b_201 : iv 0 2147483647 a2 := iv_e2 (Int32.not_lt.mp c_18) (iv_c (0 : Int32) (a := 0) (b := 0) (by decide)) (iv_top a2) (by decide)
    have b_202 : iv 0 3 a2 := iv_l1 (Int32.not_le.mp c_19) b_201 bpy2_1 (by decide)
    have b_203 : iv 1 4 py2_1 := iv_l2 (Int32.not_le.mp c_19) b_201 bpy2_1 (by decide)
    have b_204 : iv 0 0 a1 := iv_q c_20 (iv_c (0 : Int32) (a := 0) (b := 0) (by decide))
    have b_205 : iv 0 40 py33_1 := iv_e2 c_21 (iv_c (0 : Int32) (a := 0) (b := 0) (by decide)) bpy33_1 (by decide)
    have b_206 : iv 0 0 py33_1 := iv_l1 c_22 b_205 (iv_c (1 : Int32) (a := 1) (b := 1) (by decide)) (by decide)
    refine lv_istore_n (lv' := [(3, .int (-4)), (0, .ref (y 0)), (1, .int a1), (2, .int a2)]) hx hb dX9_high_7 rfl hl (by decide) rfl (fun ls hl => ?_)
    refine lv_iload_n hx hb dX9_high_8 rfl (lv_at hl 0 rfl) ?_
    refine lv_if_eq (tgt := 15) hx hb dX9_high_9 (by decide) (fun c_208 => absurd c_208 (by decide)) (fun _ => ?_)
    refine lv_iload_n hx hb dX9_high_12 rfl (lv_at hl 0 rfl) ?_
    refine lv_i2l (v := (-4)) hx hb dX9_high_13 (by decide +kernel) ?_
    exact fiL hx hb hr hlk hK hP hD hS dX9_high_14 (Nat.le_of_ble_eq_true rfl) (Nat.le_of_ble_eq_true rfl) (rfl)
  · have hP : va_P V.1 vwCl [(y 0, .inr (9, o9_rirrrrrrrrvviii (y 1) py0_1 (y 2) (y 10) (y 19) (y 25) (y 26) (y 30) (y 31) (y 32) o10 o11 py0_12 py0_13 py0_14)), (y 2, .inr (1, o1_iiiiiirrrrrrriiiii py2_0 py2_1 py2_2 py2_3 py2_4 py2_5 (y 3) (y 4) (y 5) (y 6) (y 7) (y 8) (y 9) py2_13 py2_14 py2_15 py2_16 py2_17)), (y 30, aT V 4 (va_up (va_up (va_up (va_up (fun _ => none) 0 (some (y 33))) 1 (some (y 35))) 2 (some (y 37))) 3 (some (y 39)))), (y 33, .inr (7, o7_rii (y 34) py33_1 py33_2)), (y 34, aJ V 40 fy34), (y 35, .inr (7, o7_rii (y 36) py35_1 py35_2)), (y 36, aJ V 40 fy36), (y 37, .inr (7, o7_rii (y 38) py37_1 py37_2)), (y 38, aJ V 40 fy38), (y 39, .inr (7, o7_rii (y 40) py39_1 py39_2)), (y 40, aJ V 40 fy40)] H := hP
    have hD := cpD hP hD
    have b_209 : iv 0 2147483647 a2 := iv_e2 (Int32.not_lt.mp c_26) (iv_c (0 : Int32) (a := 0) (b := 0) (by decide)) (iv_top a2) (by decide)
    have b_210 : iv 0 3 a2 := iv_l1 (Int32.not_le.mp c_27) b_209 bpy2_1 (by decide)
    have b_211 : iv 1 4 py2_1 := iv_l2 (Int32.not_le.mp c_27) b_209 bpy2_1 (by decide)
    have b_212 : iv 0 0 a1 := iv_q c_28 (iv_c (0 : Int32) (a := 0) (b := 0) (by decide))
    have b_213 : iv 0 40 py33_1 := iv_e2 c_29 (iv_c (0 : Int32) (a := 0) (b := 0) (by decide)) bpy33_1 (by decide)
    have b_214 : iv 1 40 py33_1 := iv_e2 (Int32.not_lt.mp c_30) (iv_c (1 : Int32) (a := 1) (b := 1) (by decide)) b_213 (by decide)
    have b_215 : iv 1 8 py33_1 := iv_e1 c_31 b_214 (iv_c (8 : Int32) (a := 8) (b := 8) (by decide)) (by decide)
    refine lv_istore_n (lv' := [(3, .int 0), (0, .ref (y 0)), (1, .int a1), (2, .int a2)]) hx hb dX9_high_7 rfl hl (by decide) rfl (fun ls hl => ?_)
    refine lv_iload_n hx hb dX9_high_8 rfl (lv_at hl 0 rfl) ?_
    refine lv_if_eq (tgt := 15) hx hb dX9_high_9 (by decide) (fun _ => ?_) (fun c_217 => absurd c_217 (by decide))
    refine lv_aload_n hx hb dX9_high_15 rfl (lv_at hl 1 rfl) ?_
    refine lv_aload_n hx hb dX9_high_16 rfl (lv_at hl 1 rfl) ?_
    refine va_get (ci := 9) (v := .ref (y 30)) (C := RX9) (T := TX9) (N := 15) hx hb hg inX9 hown hK hP 0 rfl rfl 7 (by decide) (hg _ q_2_43) (fun _ h9 => h9) rfl dX9_high_17 ?_
    refine lv_iload_n hx hb dX9_high_20 rfl (lv_at hl 2 rfl) ?_
    have c_218 : a1 = 0 := by have q9 := b_212; unfold iv at q9; simp only [tI_eq, (by decide : (0 : Int32).toInt = 0)]; omega
    rcases c_218 with rfl
    · refine va_aldq hx hb hK hP 2 4 rfl rfl (vin (by decide +kernel)) dX9_high_21 ?_
      refine W.eq (g2 := F0 m 22 ls (.ref (y 33) :: .ref (y 0) :: [])) rfl ?_
      refine va_get (ci := 7) (v := .int py33_1) (C := RX7) (T := TX7) (N := 3) hx hb hg inX7 hown hK hP 3 rfl rfl 1 (by decide) (hg _ q_2_2) (fun _ h9 => h9) rfl dX9_high_22 ?_
      have z_0 := Int32.le_iff_toInt_le.mp (Int32.not_lt.mp c_24)
      have z_1 := Int32.lt_iff_toInt_lt.mp (Int32.not_le.mp c_25)
      have z_2 := Int32.le_iff_toInt_le.mp (Int32.not_lt.mp c_26)
      have z_3 := Int32.lt_iff_toInt_lt.mp (Int32.not_le.mp c_27)
      have z_4 := congrArg Int32.toInt c_28
      have z_5 := Int32.le_iff_toInt_le.mp c_29
      have z_6 := Int32.le_iff_toInt_le.mp (Int32.not_lt.mp c_30)
      have z_7 := Int32.le_iff_toInt_le.mp c_31
      have k_0 : (0 : Int32).toInt = 0 := (by decide)
      have k_1 : (1 : Int32).toInt = 1 := (by decide)
      have k_4 : (4 : Int32).toInt = 4 := (by decide)
      have k_8 : (8 : Int32).toInt = 8 := (by decide)
      exact absurd g_32.symm hf0
  · have hP : va_P V.1 vwCl [(y 0, .inr (9, o9_rirrrrrrrrvviii (y 1) py0_1 (y 2) (y 10) (y 19) (y 25) (y 26) (y 30) (y 31) (y 32) o10 o11 py0_12 py0_13 py0_14)), (y 2, .inr (1, o1_iiiiiirrrrrrriiiii py2_0 py2_1 py2_2 py2_3 py2_4 py2_5 (y 3) (y 4) (y 5) (y 6) (y 7) (y 8) (y 9) py2_13 py2_14 py2_15 py2_16 py2_17)), (y 30, aT V 4 (va_up (va_up (va_up (va_up (fun _ => none) 0 (some (y 33))) 1 (some (y 35))) 2 (some (y 37))) 3 (some (y 39)))), (y 33, .inr (7, o7_rii (y 34) py33_1 py33_2)), (y 34, aJ V 40 fy34), (y 35, .inr (7, o7_rii (y 36) py35_1 py35_2)), (y 36, aJ V 40 fy36), (y 37, .inr (7, o7_rii (y 38) py37_1 py37_2)), (y 38, aJ V 40 fy38), (y 39, .inr (7, o7_rii (y 40) py39_1 py39_2)), (y 40, aJ V 40 fy40)] H := hP
    have hD := cpD hP hD
    have b_219 : iv 0 2147483647 a2 := iv_e2 (Int32.not_lt.mp c_35) (iv_c (0 : Int32) (a := 0) (b := 0) (by decide)) (iv_top a2) (by decide)
    have b_220 : iv 0 3 a2 := iv_l1 (Int32.not_le.mp c_36) b_219 bpy2_1 (by decide)
    have b_221 : iv 1 4 py2_1 := iv_l2 (Int32.not_le.mp c_36) b_219 bpy2_1 (by decide)
    have b_222 : iv 0 0 a1 := iv_q c_37 (iv_c (0 : Int32) (a := 0) (b := 0) (by decide))
    have b_223 : iv 0 40 py33_1 := iv_e2 c_38 (iv_c (0 : Int32) (a := 0) (b := 0) (by decide)) bpy33_1 (by decide)
    have b_224 : iv 1 40 py33_1 := iv_e2 (Int32.not_lt.mp c_39) (iv_c (1 : Int32) (a := 1) (b := 1) (by decide)) b_223 (by decide)
    have b_225 : iv 1 8 py33_1 := iv_e1 c_40 b_224 (iv_c (8 : Int32) (a := 8) (b := 8) (by decide)) (by decide)
    refine lv_istore_n (lv' := [(3, .int (-3)), (0, .ref (y 0)), (1, .int a1), (2, .int a2)]) hx hb dX9_high_7 rfl hl (by decide) rfl (fun ls hl => ?_)
    refine lv_iload_n hx hb dX9_high_8 rfl (lv_at hl 0 rfl) ?_
    refine lv_if_eq (tgt := 15) hx hb dX9_high_9 (by decide) (fun c_227 => absurd c_227 (by decide)) (fun _ => ?_)
    refine lv_iload_n hx hb dX9_high_12 rfl (lv_at hl 0 rfl) ?_
    refine lv_i2l (v := (-3)) hx hb dX9_high_13 (by decide +kernel) ?_
    exact fiL hx hb hr hlk hK hP hD hS dX9_high_14 (Nat.le_of_ble_eq_true rfl) (Nat.le_of_ble_eq_true rfl) (rfl)
  · have hP : va_P V.1 vwCl [(y 0, .inr (9, o9_rirrrrrrrrvviii (y 1) py0_1 (y 2) (y 10) (y 19) (y 25) (y 26) (y 30) (y 31) (y 32) o10 o11 py0_12 py0_13 py0_14)), (y 2, .inr (1, o1_iiiiiirrrrrrriiiii py2_0 py2_1 py2_2 py2_3 py2_4 py2_5 (y 3) (y 4) (y 5) (y 6) (y 7) (y 8) (y 9) py2_13 py2_14 py2_15 py2_16 py2_17)), (y 30, aT V 4 (va_up (va_up (va_up (va_up (fun _ => none) 0 (some (y 33))) 1 (some (y 35))) 2 (some (y 37))) 3 (some (y 39)))), (y 33, .inr (7, o7_rii (y 34) py33_1 py33_2)), (y 34, aJ V 40 fy34), (y 35, .inr (7, o7_rii (y 36) py35_1 py35_2)), (y 36, aJ V 40 fy36), (y 37, .inr (7, o7_rii (y 38) py37_1 py37_2)), (y 38, aJ V 40 fy38), (y 39, .inr (7, o7_rii (y 40) py39_1 py39_2)), (y 40, aJ V 40 fy40)] H := hP
    have hD := cpD hP hD
    have b_228 : iv 0 2147483647 a2 := iv_e2 (Int32.not_lt.mp c_44) (iv_c (0 : Int32) (a := 0) (b := 0) (by decide)) (iv_top a2) (by decide)
    have b_229 : iv 0 3 a2 := iv_l1 (Int32.not_le.mp c_45) b_228 bpy2_1 (by decide)
    have b_230 : iv 1 4 py2_1 := iv_l2 (Int32.not_le.mp c_45) b_228 bpy2_1 (by decide)
    have b_231 : iv 0 0 a1 := iv_q c_46 (iv_c (0 : Int32) (a := 0) (b := 0) (by decide))
    have b_232 : iv 0 40 py33_1 := iv_e2 c_47 (iv_c (0 : Int32) (a := 0) (b := 0) (by decide)) bpy33_1 (by decide)
    have b_233 : iv 1 40 py33_1 := iv_e2 (Int32.not_lt.mp c_48) (iv_c (1 : Int32) (a := 1) (b := 1) (by decide)) b_232 (by decide)
    have b_234 : iv 9 40 py33_1 := iv_l2 (Int32.not_le.mp c_49) (iv_c (8 : Int32) (a := 8) (b := 8) (by decide)) b_233 (by decide)
    refine lv_istore_n (lv' := [(3, .int (-4)), (0, .ref (y 0)), (1, .int a1), (2, .int a2)]) hx hb dX9_high_7 rfl hl (by decide) rfl (fun ls hl => ?_)
    refine lv_iload_n hx hb dX9_high_8 rfl (lv_at hl 0 rfl) ?_
    refine lv_if_eq (tgt := 15) hx hb dX9_high_9 (by decide) (fun c_236 => absurd c_236 (by decide)) (fun _ => ?_)
    refine lv_iload_n hx hb dX9_high_12 rfl (lv_at hl 0 rfl) ?_
    refine lv_i2l (v := (-4)) hx hb dX9_high_13 (by decide +kernel) ?_
    exact fiL hx hb hr hlk hK hP hD hS dX9_high_14 (Nat.le_of_ble_eq_true rfl) (Nat.le_of_ble_eq_true rfl) (rfl)
  · have hP : va_P V.1 vwCl [(y 0, .inr (9, o9_rirrrrrrrrvviii (y 1) py0_1 (y 2) (y 10) (y 19) (y 25) (y 26) (y 30) (y 31) (y 32) o10 o11 py0_12 py0_13 py0_14)), (y 2, .inr (1, o1_iiiiiirrrrrrriiiii py2_0 py2_1 py2_2 py2_3 py2_4 py2_5 (y 3) (y 4) (y 5) (y 6) (y 7) (y 8) (y 9) py2_13 py2_14 py2_15 py2_16 py2_17)), (y 30, aT V 4 (va_up (va_up (va_up (va_up (fun _ => none) 0 (some (y 33))) 1 (some (y 35))) 2 (some (y 37))) 3 (some (y 39)))), (y 33, .inr (7, o7_rii (y 34) py33_1 py33_2)), (y 34, aJ V 40 fy34), (y 35, .inr (7, o7_rii (y 36) py35_1 py35_2)), (y 36, aJ V 40 fy36), (y 37, .inr (7, o7_rii (y 38) py37_1 py37_2)), (y 38, aJ V 40 fy38), (y 39, .inr (7, o7_rii (y 40) py39_1 py39_2)), (y 40, aJ V 40 fy40)] H := hP
    have hD := cpD hP hD
    have b_237 : iv 0 2147483647 a2 := iv_e2 (Int32.not_lt.mp c_53) (iv_c (0 : Int32) (a := 0) (b := 0) (by decide)) (iv_top a2) (by decide)
    have b_238 : iv 0 3 a2 := iv_l1 (Int32.not_le.mp c_54) b_237 bpy2_1 (by decide)
    have b_239 : iv 1 4 py2_1 := iv_l2 (Int32.not_le.mp c_54) b_237 bpy2_1 (by decide)
    have b_240 : iv 0 0 a1 := iv_q c_55 (iv_c (0 : Int32) (a := 0) (b := 0) (by decide))
    have b_241 : iv (-1) (-1) py33_1 := iv_l1 (Int32.not_le.mp c_56) bpy33_1 (iv_c (0 : Int32) (a := 0) (b := 0) (by decide)) (by decide)
    refine lv_istore_n (lv' := [(3, .int (-6)), (0, .ref (y 0)), (1, .int a1), (2, .int a2)]) hx hb dX9_high_7 rfl hl (by decide) rfl (fun ls hl => ?_)
    refine lv_iload_n hx hb dX9_high_8 rfl (lv_at hl 0 rfl) ?_
    refine lv_if_eq (tgt := 15) hx hb dX9_high_9 (by decide) (fun c_243 => absurd c_243 (by decide)) (fun _ => ?_)
    refine lv_iload_n hx hb dX9_high_12 rfl (lv_at hl 0 rfl) ?_
    refine lv_i2l (v := (-6)) hx hb dX9_high_13 (by decide +kernel) ?_
    exact fiL hx hb hr hlk hK hP hD hS dX9_high_14 (Nat.le_of_ble_eq_true rfl) (Nat.le_of_ble_eq_true rfl) (rfl)
  · have hP : va_P V.1 vwCl [(y 0, .inr (9, o9_rirrrrrrrrvviii (y 1) py0_1 (y 2) (y 10) (y 19) (y 25) (y 26) (y 30) (y 31) (y 32) o10 o11 py0_12 py0_13 py0_14)), (y 2, .inr (1, o1_iiiiiirrrrrrriiiii py2_0 py2_1 py2_2 py2_3 py2_4 py2_5 (y 3) (y 4) (y 5) (y 6) (y 7) (y 8) (y 9) py2_13 py2_14 py2_15 py2_16 py2_17)), (y 30, aT V 4 (va_up (va_up (va_up (va_up (fun _ => none) 0 (some (y 33))) 1 (some (y 35))) 2 (some (y 37))) 3 (some (y 39)))), (y 33, .inr (7, o7_rii (y 34) py33_1 py33_2)), (y 34, aJ V 40 fy34), (y 35, .inr (7, o7_rii (y 36) py35_1 py35_2)), (y 36, aJ V 40 fy36), (y 37, .inr (7, o7_rii (y 38) py37_1 py37_2)), (y 38, aJ V 40 fy38), (y 39, .inr (7, o7_rii (y 40) py39_1 py39_2)), (y 40, aJ V 40 fy40)] H := hP
    have hD := cpD hP hD
    have b_244 : iv 0 2147483647 a2 := iv_e2 (Int32.not_lt.mp c_60) (iv_c (0 : Int32) (a := 0) (b := 0) (by decide)) (iv_top a2) (by decide)
    have b_245 : iv 0 3 a2 := iv_l1 (Int32.not_le.mp c_61) b_244 bpy2_1 (by decide)
    have b_246 : iv 1 4 py2_1 := iv_l2 (Int32.not_le.mp c_61) b_244 bpy2_1 (by decide)
    have b_247 : iv 1 1 a1 := iv_q c_62 (iv_c (1 : Int32) (a := 1) (b := 1) (by decide))
    have b_248 : iv 0 40 py35_1 := iv_e2 c_63 (iv_c (0 : Int32) (a := 0) (b := 0) (by decide)) bpy35_1 (by decide)
    have b_249 : iv 0 0 py35_1 := iv_l1 c_64 b_248 (iv_c (1 : Int32) (a := 1) (b := 1) (by decide)) (by decide)
    refine lv_istore_n (lv' := [(3, .int (-4)), (0, .ref (y 0)), (1, .int a1), (2, .int a2)]) hx hb dX9_high_7 rfl hl (by decide) rfl (fun ls hl => ?_)
    refine lv_iload_n hx hb dX9_high_8 rfl (lv_at hl 0 rfl) ?_
    refine lv_if_eq (tgt := 15) hx hb dX9_high_9 (by decide) (fun c_251 => absurd c_251 (by decide)) (fun _ => ?_)
    refine lv_iload_n hx hb dX9_high_12 rfl (lv_at hl 0 rfl) ?_
    refine lv_i2l (v := (-4)) hx hb dX9_high_13 (by decide +kernel) ?_
    exact fiL hx hb hr hlk hK hP hD hS dX9_high_14 (Nat.le_of_ble_eq_true rfl) (Nat.le_of_ble_eq_true rfl) (rfl)
  · have hP : va_P V.1 vwCl [(y 0, .inr (9, o9_rirrrrrrrrvviii (y 1) py0_1 (y 2) (y 10) (y 19) (y 25) (y 26) (y 30) (y 31) (y 32) o10 o11 py0_12 py0_13 py0_14)), (y 2, .inr (1, o1_iiiiiirrrrrrriiiii py2_0 py2_1 py2_2 py2_3 py2_4 py2_5 (y 3) (y 4) (y 5) (y 6) (y 7) (y 8) (y 9) py2_13 py2_14 py2_15 py2_16 py2_17)), (y 30, aT V 4 (va_up (va_up (va_up (va_up (fun _ => none) 0 (some (y 33))) 1 (some (y 35))) 2 (some (y 37))) 3 (some (y 39)))), (y 33, .inr (7, o7_rii (y 34) py33_1 py33_2)), (y 34, aJ V 40 fy34), (y 35, .inr (7, o7_rii (y 36) py35_1 py35_2)), (y 36, aJ V 40 fy36), (y 37, .inr (7, o7_rii (y 38) py37_1 py37_2)), (y 38, aJ V 40 fy38), (y 39, .inr (7, o7_rii (y 40) py39_1 py39_2)), (y 40, aJ V 40 fy40)] H := hP
    have hD := cpD hP hD
    have b_252 : iv 0 2147483647 a2 := iv_e2 (Int32.not_lt.mp c_68) (iv_c (0 : Int32) (a := 0) (b := 0) (by decide)) (iv_top a2) (by decide)
    have b_253 : iv 0 3 a2 := iv_l1 (Int32.not_le.mp c_69) b_252 bpy2_1 (by decide)
    have b_254 : iv 1 4 py2_1 := iv_l2 (Int32.not_le.mp c_69) b_252 bpy2_1 (by decide)
    have b_255 : iv 1 1 a1 := iv_q c_70 (iv_c (1 : Int32) (a := 1) (b := 1) (by decide))
    have b_256 : iv 0 40 py35_1 := iv_e2 c_71 (iv_c (0 : Int32) (a := 0) (b := 0) (by decide)) bpy35_1 (by decide)
    have b_257 : iv 1 40 py35_1 := iv_e2 (Int32.not_lt.mp c_72) (iv_c (1 : Int32) (a := 1) (b := 1) (by decide)) b_256 (by decide)
    have b_258 : iv 1 8 py35_1 := iv_e1 c_73 b_257 (iv_c (8 : Int32) (a := 8) (b := 8) (by decide)) (by decide)
    refine lv_istore_n (lv' := [(3, .int 0), (0, .ref (y 0)), (1, .int a1), (2, .int a2)]) hx hb dX9_high_7 rfl hl (by decide) rfl (fun ls hl => ?_)
    refine lv_iload_n hx hb dX9_high_8 rfl (lv_at hl 0 rfl) ?_
    refine lv_if_eq (tgt := 15) hx hb dX9_high_9 (by decide) (fun _ => ?_) (fun c_260 => absurd c_260 (by decide))
    refine lv_aload_n hx hb dX9_high_15 rfl (lv_at hl 1 rfl) ?_
    refine lv_aload_n hx hb dX9_high_16 rfl (lv_at hl 1 rfl) ?_
    refine va_get (ci := 9) (v := .ref (y 30)) (C := RX9) (T := TX9) (N := 15) hx hb hg inX9 hown hK hP 0 rfl rfl 7 (by decide) (hg _ q_2_43) (fun _ h9 => h9) rfl dX9_high_17 ?_
    refine lv_iload_n hx hb dX9_high_20 rfl (lv_at hl 2 rfl) ?_
    have c_261 : a1 = 1 := by have q9 := b_255; unfold iv at q9; simp only [tI_eq, (by decide : (1 : Int32).toInt = 1)]; omega
    rcases c_261 with rfl
    · refine va_aldq hx hb hK hP 2 4 rfl rfl (vin (by decide +kernel)) dX9_high_21 ?_
      refine W.eq (g2 := F0 m 22 ls (.ref (y 35) :: .ref (y 0) :: [])) rfl ?_
      refine va_get (ci := 7) (v := .int py35_1) (C := RX7) (T := TX7) (N := 3) hx hb hg inX7 hown hK hP 5 rfl rfl 1 (by decide) (hg _ q_2_2) (fun _ h9 => h9) rfl dX9_high_22 ?_
      have z_0 := Int32.le_iff_toInt_le.mp (Int32.not_lt.mp c_66)
      have z_1 := Int32.lt_iff_toInt_lt.mp (Int32.not_le.mp c_67)
      have z_2 := Int32.le_iff_toInt_le.mp (Int32.not_lt.mp c_68)
      have z_3 := Int32.lt_iff_toInt_lt.mp (Int32.not_le.mp c_69)
      have z_4 := congrArg Int32.toInt c_70
      have z_5 := Int32.le_iff_toInt_le.mp c_71
      have z_6 := Int32.le_iff_toInt_le.mp (Int32.not_lt.mp c_72)
      have z_7 := Int32.le_iff_toInt_le.mp c_73
      have k_0 : (0 : Int32).toInt = 0 := (by decide)
      have k_1 : (1 : Int32).toInt = 1 := (by decide)
      have k_4 : (4 : Int32).toInt = 4 := (by decide)
      have k_8 : (8 : Int32).toInt = 8 := (by decide)
      exact absurd g_74.symm hf0
  · have hP : va_P V.1 vwCl [(y 0, .inr (9, o9_rirrrrrrrrvviii (y 1) py0_1 (y 2) (y 10) (y 19) (y 25) (y 26) (y 30) (y 31) (y 32) o10 o11 py0_12 py0_13 py0_14)), (y 2, .inr (1, o1_iiiiiirrrrrrriiiii py2_0 py2_1 py2_2 py2_3 py2_4 py2_5 (y 3) (y 4) (y 5) (y 6) (y 7) (y 8) (y 9) py2_13 py2_14 py2_15 py2_16 py2_17)), (y 30, aT V 4 (va_up (va_up (va_up (va_up (fun _ => none) 0 (some (y 33))) 1 (some (y 35))) 2 (some (y 37))) 3 (some (y 39)))), (y 33, .inr (7, o7_rii (y 34) py33_1 py33_2)), (y 34, aJ V 40 fy34), (y 35, .inr (7, o7_rii (y 36) py35_1 py35_2)), (y 36, aJ V 40 fy36), (y 37, .inr (7, o7_rii (y 38) py37_1 py37_2)), (y 38, aJ V 40 fy38), (y 39, .inr (7, o7_rii (y 40) py39_1 py39_2)), (y 40, aJ V 40 fy40)] H := hP
    have hD := cpD hP hD
    have b_262 : iv 0 2147483647 a2 := iv_e2 (Int32.not_lt.mp c_77) (iv_c (0 : Int32) (a := 0) (b := 0) (by decide)) (iv_top a2) (by decide)
    have b_263 : iv 0 3 a2 := iv_l1 (Int32.not_le.mp c_78) b_262 bpy2_1 (by decide)
    have b_264 : iv 1 4 py2_1 := iv_l2 (Int32.not_le.mp c_78) b_262 bpy2_1 (by decide)
    have b_265 : iv 1 1 a1 := iv_q c_79 (iv_c (1 : Int32) (a := 1) (b := 1) (by decide))
    have b_266 : iv 0 40 py35_1 := iv_e2 c_80 (iv_c (0 : Int32) (a := 0) (b := 0) (by decide)) bpy35_1 (by decide)
    have b_267 : iv 1 40 py35_1 := iv_e2 (Int32.not_lt.mp c_81) (iv_c (1 : Int32) (a := 1) (b := 1) (by decide)) b_266 (by decide)
    have b_268 : iv 1 8 py35_1 := iv_e1 c_82 b_267 (iv_c (8 : Int32) (a := 8) (b := 8) (by decide)) (by decide)
    refine lv_istore_n (lv' := [(3, .int (-3)), (0, .ref (y 0)), (1, .int a1), (2, .int a2)]) hx hb dX9_high_7 rfl hl (by decide) rfl (fun ls hl => ?_)
    refine lv_iload_n hx hb dX9_high_8 rfl (lv_at hl 0 rfl) ?_
    refine lv_if_eq (tgt := 15) hx hb dX9_high_9 (by decide) (fun c_270 => absurd c_270 (by decide)) (fun _ => ?_)
    refine lv_iload_n hx hb dX9_high_12 rfl (lv_at hl 0 rfl) ?_
    refine lv_i2l (v := (-3)) hx hb dX9_high_13 (by decide +kernel) ?_
    exact fiL hx hb hr hlk hK hP hD hS dX9_high_14 (Nat.le_of_ble_eq_true rfl) (Nat.le_of_ble_eq_true rfl) (rfl)
  · have hP : va_P V.1 vwCl [(y 0, .inr (9, o9_rirrrrrrrrvviii (y 1) py0_1 (y 2) (y 10) (y 19) (y 25) (y 26) (y 30) (y 31) (y 32) o10 o11 py0_12 py0_13 py0_14)), (y 2, .inr (1, o1_iiiiiirrrrrrriiiii py2_0 py2_1 py2_2 py2_3 py2_4 py2_5 (y 3) (y 4) (y 5) (y 6) (y 7) (y 8) (y 9) py2_13 py2_14 py2_15 py2_16 py2_17)), (y 30, aT V 4 (va_up (va_up (va_up (va_up (fun _ => none) 0 (some (y 33))) 1 (some (y 35))) 2 (some (y 37))) 3 (some (y 39)))), (y 33, .inr (7, o7_rii (y 34) py33_1 py33_2)), (y 34, aJ V 40 fy34), (y 35, .inr (7, o7_rii (y 36) py35_1 py35_2)), (y 36, aJ V 40 fy36), (y 37, .inr (7, o7_rii (y 38) py37_1 py37_2)), (y 38, aJ V 40 fy38), (y 39, .inr (7, o7_rii (y 40) py39_1 py39_2)), (y 40, aJ V 40 fy40)] H := hP
    have hD := cpD hP hD
    have b_271 : iv 0 2147483647 a2 := iv_e2 (Int32.not_lt.mp c_86) (iv_c (0 : Int32) (a := 0) (b := 0) (by decide)) (iv_top a2) (by decide)
    have b_272 : iv 0 3 a2 := iv_l1 (Int32.not_le.mp c_87) b_271 bpy2_1 (by decide)
    have b_273 : iv 1 4 py2_1 := iv_l2 (Int32.not_le.mp c_87) b_271 bpy2_1 (by decide)
    have b_274 : iv 1 1 a1 := iv_q c_88 (iv_c (1 : Int32) (a := 1) (b := 1) (by decide))
    have b_275 : iv 0 40 py35_1 := iv_e2 c_89 (iv_c (0 : Int32) (a := 0) (b := 0) (by decide)) bpy35_1 (by decide)
    have b_276 : iv 1 40 py35_1 := iv_e2 (Int32.not_lt.mp c_90) (iv_c (1 : Int32) (a := 1) (b := 1) (by decide)) b_275 (by decide)
    have b_277 : iv 9 40 py35_1 := iv_l2 (Int32.not_le.mp c_91) (iv_c (8 : Int32) (a := 8) (b := 8) (by decide)) b_276 (by decide)
    refine lv_istore_n (lv' := [(3, .int (-4)), (0, .ref (y 0)), (1, .int a1), (2, .int a2)]) hx hb dX9_high_7 rfl hl (by decide) rfl (fun ls hl => ?_)
    refine lv_iload_n hx hb dX9_high_8 rfl (lv_at hl 0 rfl) ?_
    refine lv_if_eq (tgt := 15) hx hb dX9_high_9 (by decide) (fun c_279 => absurd c_279 (by decide)) (fun _ => ?_)
    refine lv_iload_n hx hb dX9_high_12 rfl (lv_at hl 0 rfl) ?_
    refine lv_i2l (v := (-4)) hx hb dX9_high_13 (by decide +kernel) ?_
    exact fiL hx hb hr hlk hK hP hD hS dX9_high_14 (Nat.le_of_ble_eq_true rfl) (Nat.le_of_ble_eq_true rfl) (rfl)
  · have hP : va_P V.1 vwCl [(y 0, .inr (9, o9_rirrrrrrrrvviii (y 1) py0_1 (y 2) (y 10) (y 19) (y 25) (y 26) (y 30) (y 31) (y 32) o10 o11 py0_12 py0_13 py0_14)), (y 2, .inr (1, o1_iiiiiirrrrrrriiiii py2_0 py2_1 py2_2 py2_3 py2_4 py2_5 (y 3) (y 4) (y 5) (y 6) (y 7) (y 8) (y 9) py2_13 py2_14 py2_15 py2_16 py2_17)), (y 30, aT V 4 (va_up (va_up (va_up (va_up (fun _ => none) 0 (some (y 33))) 1 (some (y 35))) 2 (some (y 37))) 3 (some (y 39)))), (y 33, .inr (7, o7_rii (y 34) py33_1 py33_2)), (y 34, aJ V 40 fy34), (y 35, .inr (7, o7_rii (y 36) py35_1 py35_2)), (y 36, aJ V 40 fy36), (y 37, .inr (7, o7_rii (y 38) py37_1 py37_2)), (y 38, aJ V 40 fy38), (y 39, .inr (7, o7_rii (y 40) py39_1 py39_2)), (y 40, aJ V 40 fy40)] H := hP
    have hD := cpD hP hD
    have b_280 : iv 0 2147483647 a2 := iv_e2 (Int32.not_lt.mp c_95) (iv_c (0 : Int32) (a := 0) (b := 0) (by decide)) (iv_top a2) (by decide)
    have b_281 : iv 0 3 a2 := iv_l1 (Int32.not_le.mp c_96) b_280 bpy2_1 (by decide)
    have b_282 : iv 1 4 py2_1 := iv_l2 (Int32.not_le.mp c_96) b_280 bpy2_1 (by decide)
    have b_283 : iv 1 1 a1 := iv_q c_97 (iv_c (1 : Int32) (a := 1) (b := 1) (by decide))
    have b_284 : iv (-1) (-1) py35_1 := iv_l1 (Int32.not_le.mp c_98) bpy35_1 (iv_c (0 : Int32) (a := 0) (b := 0) (by decide)) (by decide)
    refine lv_istore_n (lv' := [(3, .int (-6)), (0, .ref (y 0)), (1, .int a1), (2, .int a2)]) hx hb dX9_high_7 rfl hl (by decide) rfl (fun ls hl => ?_)
    refine lv_iload_n hx hb dX9_high_8 rfl (lv_at hl 0 rfl) ?_
    refine lv_if_eq (tgt := 15) hx hb dX9_high_9 (by decide) (fun c_286 => absurd c_286 (by decide)) (fun _ => ?_)
    refine lv_iload_n hx hb dX9_high_12 rfl (lv_at hl 0 rfl) ?_
    refine lv_i2l (v := (-6)) hx hb dX9_high_13 (by decide +kernel) ?_
    exact fiL hx hb hr hlk hK hP hD hS dX9_high_14 (Nat.le_of_ble_eq_true rfl) (Nat.le_of_ble_eq_true rfl) (rfl)
  · have hP : va_P V.1 vwCl [(y 0, .inr (9, o9_rirrrrrrrrvviii (y 1) py0_1 (y 2) (y 10) (y 19) (y 25) (y 26) (y 30) (y 31) (y 32) o10 o11 py0_12 py0_13 py0_14)), (y 2, .inr (1, o1_iiiiiirrrrrrriiiii py2_0 py2_1 py2_2 py2_3 py2_4 py2_5 (y 3) (y 4) (y 5) (y 6) (y 7) (y 8) (y 9) py2_13 py2_14 py2_15 py2_16 py2_17)), (y 30, aT V 4 (va_up (va_up (va_up (va_up (fun _ => none) 0 (some (y 33))) 1 (some (y 35))) 2 (some (y 37))) 3 (some (y 39)))), (y 33, .inr (7, o7_rii (y 34) py33_1 py33_2)), (y 34, aJ V 40 fy34), (y 35, .inr (7, o7_rii (y 36) py35_1 py35_2)), (y 36, aJ V 40 fy36), (y 37, .inr (7, o7_rii (y 38) py37_1 py37_2)), (y 38, aJ V 40 fy38), (y 39, .inr (7, o7_rii (y 40) py39_1 py39_2)), (y 40, aJ V 40 fy40)] H := hP
    have hD := cpD hP hD
    have b_287 : iv 0 2147483647 a2 := iv_e2 (Int32.not_lt.mp c_102) (iv_c (0 : Int32) (a := 0) (b := 0) (by decide)) (iv_top a2) (by decide)
    have b_288 : iv 0 3 a2 := iv_l1 (Int32.not_le.mp c_103) b_287 bpy2_1 (by decide)
    have b_289 : iv 1 4 py2_1 := iv_l2 (Int32.not_le.mp c_103) b_287 bpy2_1 (by decide)
    have b_290 : iv 2 2 a1 := iv_q c_104 (iv_c (2 : Int32) (a := 2) (b := 2) (by decide))
    have b_291 : iv 0 40 py37_1 := iv_e2 c_105 (iv_c (0 : Int32) (a := 0) (b := 0) (by decide)) bpy37_1 (by decide)
    have b_292 : iv 0 0 py37_1 := iv_l1 c_106 b_291 (iv_c (1 : Int32) (a := 1) (b := 1) (by decide)) (by decide)
    refine lv_istore_n (lv' := [(3, .int (-4)), (0, .ref (y 0)), (1, .int a1), (2, .int a2)]) hx hb dX9_high_7 rfl hl (by decide) rfl (fun ls hl => ?_)
    refine lv_iload_n hx hb dX9_high_8 rfl (lv_at hl 0 rfl) ?_
    refine lv_if_eq (tgt := 15) hx hb dX9_high_9 (by decide) (fun c_294 => absurd c_294 (by decide)) (fun _ => ?_)
    refine lv_iload_n hx hb dX9_high_12 rfl (lv_at hl 0 rfl) ?_
    refine lv_i2l (v := (-4)) hx hb dX9_high_13 (by decide +kernel) ?_
    exact fiL hx hb hr hlk hK hP hD hS dX9_high_14 (Nat.le_of_ble_eq_true rfl) (Nat.le_of_ble_eq_true rfl) (rfl)
  · have hP : va_P V.1 vwCl [(y 0, .inr (9, o9_rirrrrrrrrvviii (y 1) py0_1 (y 2) (y 10) (y 19) (y 25) (y 26) (y 30) (y 31) (y 32) o10 o11 py0_12 py0_13 py0_14)), (y 2, .inr (1, o1_iiiiiirrrrrrriiiii py2_0 py2_1 py2_2 py2_3 py2_4 py2_5 (y 3) (y 4) (y 5) (y 6) (y 7) (y 8) (y 9) py2_13 py2_14 py2_15 py2_16 py2_17)), (y 30, aT V 4 (va_up (va_up (va_up (va_up (fun _ => none) 0 (some (y 33))) 1 (some (y 35))) 2 (some (y 37))) 3 (some (y 39)))), (y 33, .inr (7, o7_rii (y 34) py33_1 py33_2)), (y 34, aJ V 40 fy34), (y 35, .inr (7, o7_rii (y 36) py35_1 py35_2)), (y 36, aJ V 40 fy36), (y 37, .inr (7, o7_rii (y 38) py37_1 py37_2)), (y 38, aJ V 40 fy38), (y 39, .inr (7, o7_rii (y 40) py39_1 py39_2)), (y 40, aJ V 40 fy40)] H := hP
    have hD := cpD hP hD
    have b_295 : iv 0 2147483647 a2 := iv_e2 (Int32.not_lt.mp c_110) (iv_c (0 : Int32) (a := 0) (b := 0) (by decide)) (iv_top a2) (by decide)
    have b_296 : iv 0 3 a2 := iv_l1 (Int32.not_le.mp c_111) b_295 bpy2_1 (by decide)
    have b_297 : iv 1 4 py2_1 := iv_l2 (Int32.not_le.mp c_111) b_295 bpy2_1 (by decide)
    have b_298 : iv 2 2 a1 := iv_q c_112 (iv_c (2 : Int32) (a := 2) (b := 2) (by decide))
    have b_299 : iv 0 40 py37_1 := iv_e2 c_113 (iv_c (0 : Int32) (a := 0) (b := 0) (by decide)) bpy37_1 (by decide)
    have b_300 : iv 1 40 py37_1 := iv_e2 (Int32.not_lt.mp c_114) (iv_c (1 : Int32) (a := 1) (b := 1) (by decide)) b_299 (by decide)
    have b_301 : iv 1 8 py37_1 := iv_e1 c_115 b_300 (iv_c (8 : Int32) (a := 8) (b := 8) (by decide)) (by decide)
    refine lv_istore_n (lv' := [(3, .int 0), (0, .ref (y 0)), (1, .int a1), (2, .int a2)]) hx hb dX9_high_7 rfl hl (by decide) rfl (fun ls hl => ?_)
    refine lv_iload_n hx hb dX9_high_8 rfl (lv_at hl 0 rfl) ?_
    refine lv_if_eq (tgt := 15) hx hb dX9_high_9 (by decide) (fun _ => ?_) (fun c_303 => absurd c_303 (by decide))
    refine lv_aload_n hx hb dX9_high_15 rfl (lv_at hl 1 rfl) ?_
    refine lv_aload_n hx hb dX9_high_16 rfl (lv_at hl 1 rfl) ?_
    refine va_get (ci := 9) (v := .ref (y 30)) (C := RX9) (T := TX9) (N := 15) hx hb hg inX9 hown hK hP 0 rfl rfl 7 (by decide) (hg _ q_2_43) (fun _ h9 => h9) rfl dX9_high_17 ?_
    refine lv_iload_n hx hb dX9_high_20 rfl (lv_at hl 2 rfl) ?_
    have c_304 : a1 = 2 := by have q9 := b_298; unfold iv at q9; simp only [tI_eq, (by decide : (2 : Int32).toInt = 2)]; omega
    rcases c_304 with rfl
    · refine va_aldq hx hb hK hP 2 4 rfl rfl (vin (by decide +kernel)) dX9_high_21 ?_
      refine W.eq (g2 := F0 m 22 ls (.ref (y 37) :: .ref (y 0) :: [])) rfl ?_
      refine va_get (ci := 7) (v := .int py37_1) (C := RX7) (T := TX7) (N := 3) hx hb hg inX7 hown hK hP 7 rfl rfl 1 (by decide) (hg _ q_2_2) (fun _ h9 => h9) rfl dX9_high_22 ?_
      have z_0 := Int32.le_iff_toInt_le.mp (Int32.not_lt.mp c_108)
      have z_1 := Int32.lt_iff_toInt_lt.mp (Int32.not_le.mp c_109)
      have z_2 := Int32.le_iff_toInt_le.mp (Int32.not_lt.mp c_110)
      have z_3 := Int32.lt_iff_toInt_lt.mp (Int32.not_le.mp c_111)
      have z_4 := congrArg Int32.toInt c_112
      have z_5 := Int32.le_iff_toInt_le.mp c_113
      have z_6 := Int32.le_iff_toInt_le.mp (Int32.not_lt.mp c_114)
      have z_7 := Int32.le_iff_toInt_le.mp c_115
      have k_0 : (0 : Int32).toInt = 0 := (by decide)
      have k_1 : (1 : Int32).toInt = 1 := (by decide)
      have k_2 : (2 : Int32).toInt = 2 := (by decide)
      have k_4 : (4 : Int32).toInt = 4 := (by decide)
      have k_8 : (8 : Int32).toInt = 8 := (by decide)
      exact absurd g_116.symm hf0
  · have hP : va_P V.1 vwCl [(y 0, .inr (9, o9_rirrrrrrrrvviii (y 1) py0_1 (y 2) (y 10) (y 19) (y 25) (y 26) (y 30) (y 31) (y 32) o10 o11 py0_12 py0_13 py0_14)), (y 2, .inr (1, o1_iiiiiirrrrrrriiiii py2_0 py2_1 py2_2 py2_3 py2_4 py2_5 (y 3) (y 4) (y 5) (y 6) (y 7) (y 8) (y 9) py2_13 py2_14 py2_15 py2_16 py2_17)), (y 30, aT V 4 (va_up (va_up (va_up (va_up (fun _ => none) 0 (some (y 33))) 1 (some (y 35))) 2 (some (y 37))) 3 (some (y 39)))), (y 33, .inr (7, o7_rii (y 34) py33_1 py33_2)), (y 34, aJ V 40 fy34), (y 35, .inr (7, o7_rii (y 36) py35_1 py35_2)), (y 36, aJ V 40 fy36), (y 37, .inr (7, o7_rii (y 38) py37_1 py37_2)), (y 38, aJ V 40 fy38), (y 39, .inr (7, o7_rii (y 40) py39_1 py39_2)), (y 40, aJ V 40 fy40)] H := hP
    have hD := cpD hP hD
    have b_305 : iv 0 2147483647 a2 := iv_e2 (Int32.not_lt.mp c_119) (iv_c (0 : Int32) (a := 0) (b := 0) (by decide)) (iv_top a2) (by decide)
    have b_306 : iv 0 3 a2 := iv_l1 (Int32.not_le.mp c_120) b_305 bpy2_1 (by decide)
    have b_307 : iv 1 4 py2_1 := iv_l2 (Int32.not_le.mp c_120) b_305 bpy2_1 (by decide)
    have b_308 : iv 2 2 a1 := iv_q c_121 (iv_c (2 : Int32) (a := 2) (b := 2) (by decide))
    have b_309 : iv 0 40 py37_1 := iv_e2 c_122 (iv_c (0 : Int32) (a := 0) (b := 0) (by decide)) bpy37_1 (by decide)
    have b_310 : iv 1 40 py37_1 := iv_e2 (Int32.not_lt.mp c_123) (iv_c (1 : Int32) (a := 1) (b := 1) (by decide)) b_309 (by decide)
    have b_311 : iv 1 8 py37_1 := iv_e1 c_124 b_310 (iv_c (8 : Int32) (a := 8) (b := 8) (by decide)) (by decide)
    refine lv_istore_n (lv' := [(3, .int (-3)), (0, .ref (y 0)), (1, .int a1), (2, .int a2)]) hx hb dX9_high_7 rfl hl (by decide) rfl (fun ls hl => ?_)
    refine lv_iload_n hx hb dX9_high_8 rfl (lv_at hl 0 rfl) ?_
    refine lv_if_eq (tgt := 15) hx hb dX9_high_9 (by decide) (fun c_313 => absurd c_313 (by decide)) (fun _ => ?_)
    refine lv_iload_n hx hb dX9_high_12 rfl (lv_at hl 0 rfl) ?_
    refine lv_i2l (v := (-3)) hx hb dX9_high_13 (by decide +kernel) ?_
    exact fiL hx hb hr hlk hK hP hD hS dX9_high_14 (Nat.le_of_ble_eq_true rfl) (Nat.le_of_ble_eq_true rfl) (rfl)
  · have hP : va_P V.1 vwCl [(y 0, .inr (9, o9_rirrrrrrrrvviii (y 1) py0_1 (y 2) (y 10) (y 19) (y 25) (y 26) (y 30) (y 31) (y 32) o10 o11 py0_12 py0_13 py0_14)), (y 2, .inr (1, o1_iiiiiirrrrrrriiiii py2_0 py2_1 py2_2 py2_3 py2_4 py2_5 (y 3) (y 4) (y 5) (y 6) (y 7) (y 8) (y 9) py2_13 py2_14 py2_15 py2_16 py2_17)), (y 30, aT V 4 (va_up (va_up (va_up (va_up (fun _ => none) 0 (some (y 33))) 1 (some (y 35))) 2 (some (y 37))) 3 (some (y 39)))), (y 33, .inr (7, o7_rii (y 34) py33_1 py33_2)), (y 34, aJ V 40 fy34), (y 35, .inr (7, o7_rii (y 36) py35_1 py35_2)), (y 36, aJ V 40 fy36), (y 37, .inr (7, o7_rii (y 38) py37_1 py37_2)), (y 38, aJ V 40 fy38), (y 39, .inr (7, o7_rii (y 40) py39_1 py39_2)), (y 40, aJ V 40 fy40)] H := hP
    have hD := cpD hP hD
    have b_314 : iv 0 2147483647 a2 := iv_e2 (Int32.not_lt.mp c_128) (iv_c (0 : Int32) (a := 0) (b := 0) (by decide)) (iv_top a2) (by decide)
    have b_315 : iv 0 3 a2 := iv_l1 (Int32.not_le.mp c_129) b_314 bpy2_1 (by decide)
    have b_316 : iv 1 4 py2_1 := iv_l2 (Int32.not_le.mp c_129) b_314 bpy2_1 (by decide)
    have b_317 : iv 2 2 a1 := iv_q c_130 (iv_c (2 : Int32) (a := 2) (b := 2) (by decide))
    have b_318 : iv 0 40 py37_1 := iv_e2 c_131 (iv_c (0 : Int32) (a := 0) (b := 0) (by decide)) bpy37_1 (by decide)
    have b_319 : iv 1 40 py37_1 := iv_e2 (Int32.not_lt.mp c_132) (iv_c (1 : Int32) (a := 1) (b := 1) (by decide)) b_318 (by decide)
    have b_320 : iv 9 40 py37_1 := iv_l2 (Int32.not_le.mp c_133) (iv_c (8 : Int32) (a := 8) (b := 8) (by decide)) b_319 (by decide)
    refine lv_istore_n (lv' := [(3, .int (-4)), (0, .ref (y 0)), (1, .int a1), (2, .int a2)]) hx hb dX9_high_7 rfl hl (by decide) rfl (fun ls hl => ?_)
    refine lv_iload_n hx hb dX9_high_8 rfl (lv_at hl 0 rfl) ?_
    refine lv_if_eq (tgt := 15) hx hb dX9_high_9 (by decide) (fun c_322 => absurd c_322 (by decide)) (fun _ => ?_)
    refine lv_iload_n hx hb dX9_high_12 rfl (lv_at hl 0 rfl) ?_
    refine lv_i2l (v := (-4)) hx hb dX9_high_13 (by decide +kernel) ?_
    exact fiL hx hb hr hlk hK hP hD hS dX9_high_14 (Nat.le_of_ble_eq_true rfl) (Nat.le_of_ble_eq_true rfl) (rfl)
  · have hP : va_P V.1 vwCl [(y 0, .inr (9, o9_rirrrrrrrrvviii (y 1) py0_1 (y 2) (y 10) (y 19) (y 25) (y 26) (y 30) (y 31) (y 32) o10 o11 py0_12 py0_13 py0_14)), (y 2, .inr (1, o1_iiiiiirrrrrrriiiii py2_0 py2_1 py2_2 py2_3 py2_4 py2_5 (y 3) (y 4) (y 5) (y 6) (y 7) (y 8) (y 9) py2_13 py2_14 py2_15 py2_16 py2_17)), (y 30, aT V 4 (va_up (va_up (va_up (va_up (fun _ => none) 0 (some (y 33))) 1 (some (y 35))) 2 (some (y 37))) 3 (some (y 39)))), (y 33, .inr (7, o7_rii (y 34) py33_1 py33_2)), (y 34, aJ V 40 fy34), (y 35, .inr (7, o7_rii (y 36) py35_1 py35_2)), (y 36, aJ V 40 fy36), (y 37, .inr (7, o7_rii (y 38) py37_1 py37_2)), (y 38, aJ V 40 fy38), (y 39, .inr (7, o7_rii (y 40) py39_1 py39_2)), (y 40, aJ V 40 fy40)] H := hP
    have hD := cpD hP hD
    have b_323 : iv 0 2147483647 a2 := iv_e2 (Int32.not_lt.mp c_137) (iv_c (0 : Int32) (a := 0) (b := 0) (by decide)) (iv_top a2) (by decide)
    have b_324 : iv 0 3 a2 := iv_l1 (Int32.not_le.mp c_138) b_323 bpy2_1 (by decide)
    have b_325 : iv 1 4 py2_1 := iv_l2 (Int32.not_le.mp c_138) b_323 bpy2_1 (by decide)
    have b_326 : iv 2 2 a1 := iv_q c_139 (iv_c (2 : Int32) (a := 2) (b := 2) (by decide))
    have b_327 : iv (-1) (-1) py37_1 := iv_l1 (Int32.not_le.mp c_140) bpy37_1 (iv_c (0 : Int32) (a := 0) (b := 0) (by decide)) (by decide)
    refine lv_istore_n (lv' := [(3, .int (-6)), (0, .ref (y 0)), (1, .int a1), (2, .int a2)]) hx hb dX9_high_7 rfl hl (by decide) rfl (fun ls hl => ?_)
    refine lv_iload_n hx hb dX9_high_8 rfl (lv_at hl 0 rfl) ?_
    refine lv_if_eq (tgt := 15) hx hb dX9_high_9 (by decide) (fun c_329 => absurd c_329 (by decide)) (fun _ => ?_)
    refine lv_iload_n hx hb dX9_high_12 rfl (lv_at hl 0 rfl) ?_
    refine lv_i2l (v := (-6)) hx hb dX9_high_13 (by decide +kernel) ?_
    exact fiL hx hb hr hlk hK hP hD hS dX9_high_14 (Nat.le_of_ble_eq_true rfl) (Nat.le_of_ble_eq_true rfl) (rfl)
  · have hP : va_P V.1 vwCl [(y 0, .inr (9, o9_rirrrrrrrrvviii (y 1) py0_1 (y 2) (y 10) (y 19) (y 25) (y 26) (y 30) (y 31) (y 32) o10 o11 py0_12 py0_13 py0_14)), (y 2, .inr (1, o1_iiiiiirrrrrrriiiii py2_0 py2_1 py2_2 py2_3 py2_4 py2_5 (y 3) (y 4) (y 5) (y 6) (y 7) (y 8) (y 9) py2_13 py2_14 py2_15 py2_16 py2_17)), (y 30, aT V 4 (va_up (va_up (va_up (va_up (fun _ => none) 0 (some (y 33))) 1 (some (y 35))) 2 (some (y 37))) 3 (some (y 39)))), (y 33, .inr (7, o7_rii (y 34) py33_1 py33_2)), (y 34, aJ V 40 fy34), (y 35, .inr (7, o7_rii (y 36) py35_1 py35_2)), (y 36, aJ V 40 fy36), (y 37, .inr (7, o7_rii (y 38) py37_1 py37_2)), (y 38, aJ V 40 fy38), (y 39, .inr (7, o7_rii (y 40) py39_1 py39_2)), (y 40, aJ V 40 fy40)] H := hP
    have hD := cpD hP hD
    have b_330 : iv 0 2147483647 a2 := iv_e2 (Int32.not_lt.mp c_144) (iv_c (0 : Int32) (a := 0) (b := 0) (by decide)) (iv_top a2) (by decide)
    have b_331 : iv 0 3 a2 := iv_l1 (Int32.not_le.mp c_145) b_330 bpy2_1 (by decide)
    have b_332 : iv 1 4 py2_1 := iv_l2 (Int32.not_le.mp c_145) b_330 bpy2_1 (by decide)
    have b_333 : iv 3 3 a1 := iv_q c_146 (iv_c (3 : Int32) (a := 3) (b := 3) (by decide))
    have b_334 : iv 0 40 py39_1 := iv_e2 c_147 (iv_c (0 : Int32) (a := 0) (b := 0) (by decide)) bpy39_1 (by decide)
    have b_335 : iv 0 0 py39_1 := iv_l1 c_148 b_334 (iv_c (1 : Int32) (a := 1) (b := 1) (by decide)) (by decide)
    refine lv_istore_n (lv' := [(3, .int (-4)), (0, .ref (y 0)), (1, .int a1), (2, .int a2)]) hx hb dX9_high_7 rfl hl (by decide) rfl (fun ls hl => ?_)
    refine lv_iload_n hx hb dX9_high_8 rfl (lv_at hl 0 rfl) ?_
    refine lv_if_eq (tgt := 15) hx hb dX9_high_9 (by decide) (fun c_337 => absurd c_337 (by decide)) (fun _ => ?_)
    refine lv_iload_n hx hb dX9_high_12 rfl (lv_at hl 0 rfl) ?_
    refine lv_i2l (v := (-4)) hx hb dX9_high_13 (by decide +kernel) ?_
    exact fiL hx hb hr hlk hK hP hD hS dX9_high_14 (Nat.le_of_ble_eq_true rfl) (Nat.le_of_ble_eq_true rfl) (rfl)
  · have hP : va_P V.1 vwCl [(y 0, .inr (9, o9_rirrrrrrrrvviii (y 1) py0_1 (y 2) (y 10) (y 19) (y 25) (y 26) (y 30) (y 31) (y 32) o10 o11 py0_12 py0_13 py0_14)), (y 2, .inr (1, o1_iiiiiirrrrrrriiiii py2_0 py2_1 py2_2 py2_3 py2_4 py2_5 (y 3) (y 4) (y 5) (y 6) (y 7) (y 8) (y 9) py2_13 py2_14 py2_15 py2_16 py2_17)), (y 30, aT V 4 (va_up (va_up (va_up (va_up (fun _ => none) 0 (some (y 33))) 1 (some (y 35))) 2 (some (y 37))) 3 (some (y 39)))), (y 33, .inr (7, o7_rii (y 34) py33_1 py33_2)), (y 34, aJ V 40 fy34), (y 35, .inr (7, o7_rii (y 36) py35_1 py35_2)), (y 36, aJ V 40 fy36), (y 37, .inr (7, o7_rii (y 38) py37_1 py37_2)), (y 38, aJ V 40 fy38), (y 39, .inr (7, o7_rii (y 40) py39_1 py39_2)), (y 40, aJ V 40 fy40)] H := hP
    have hD := cpD hP hD
    have b_338 : iv 0 2147483647 a2 := iv_e2 (Int32.not_lt.mp c_152) (iv_c (0 : Int32) (a := 0) (b := 0) (by decide)) (iv_top a2) (by decide)
    have b_339 : iv 0 3 a2 := iv_l1 (Int32.not_le.mp c_153) b_338 bpy2_1 (by decide)
    have b_340 : iv 1 4 py2_1 := iv_l2 (Int32.not_le.mp c_153) b_338 bpy2_1 (by decide)
    have b_341 : iv 3 3 a1 := iv_q c_154 (iv_c (3 : Int32) (a := 3) (b := 3) (by decide))
    have b_342 : iv 0 40 py39_1 := iv_e2 c_155 (iv_c (0 : Int32) (a := 0) (b := 0) (by decide)) bpy39_1 (by decide)
    have b_343 : iv 1 40 py39_1 := iv_e2 (Int32.not_lt.mp c_156) (iv_c (1 : Int32) (a := 1) (b := 1) (by decide)) b_342 (by decide)
    have b_344 : iv 1 8 py39_1 := iv_e1 c_157 b_343 (iv_c (8 : Int32) (a := 8) (b := 8) (by decide)) (by decide)
    refine lv_istore_n (lv' := [(3, .int 0), (0, .ref (y 0)), (1, .int a1), (2, .int a2)]) hx hb dX9_high_7 rfl hl (by decide) rfl (fun ls hl => ?_)
    refine lv_iload_n hx hb dX9_high_8 rfl (lv_at hl 0 rfl) ?_
    refine lv_if_eq (tgt := 15) hx hb dX9_high_9 (by decide) (fun _ => ?_) (fun c_346 => absurd c_346 (by decide))
    refine lv_aload_n hx hb dX9_high_15 rfl (lv_at hl 1 rfl) ?_
    refine lv_aload_n hx hb dX9_high_16 rfl (lv_at hl 1 rfl) ?_
    refine va_get (ci := 9) (v := .ref (y 30)) (C := RX9) (T := TX9) (N := 15) hx hb hg inX9 hown hK hP 0 rfl rfl 7 (by decide) (hg _ q_2_43) (fun _ h9 => h9) rfl dX9_high_17 ?_
    refine lv_iload_n hx hb dX9_high_20 rfl (lv_at hl 2 rfl) ?_
    have c_347 : a1 = 3 := by have q9 := b_341; unfold iv at q9; simp only [tI_eq, (by decide : (3 : Int32).toInt = 3)]; omega
    rcases c_347 with rfl
    · refine va_aldq hx hb hK hP 2 4 rfl rfl (vin (by decide +kernel)) dX9_high_21 ?_
      refine W.eq (g2 := F0 m 22 ls (.ref (y 39) :: .ref (y 0) :: [])) rfl ?_
      refine va_get (ci := 7) (v := .int py39_1) (C := RX7) (T := TX7) (N := 3) hx hb hg inX7 hown hK hP 9 rfl rfl 1 (by decide) (hg _ q_2_2) (fun _ h9 => h9) rfl dX9_high_22 ?_
      have z_0 := Int32.le_iff_toInt_le.mp (Int32.not_lt.mp c_150)
      have z_1 := Int32.lt_iff_toInt_lt.mp (Int32.not_le.mp c_151)
      have z_2 := Int32.le_iff_toInt_le.mp (Int32.not_lt.mp c_152)
      have z_3 := Int32.lt_iff_toInt_lt.mp (Int32.not_le.mp c_153)
      have z_4 := congrArg Int32.toInt c_154
      have z_5 := Int32.le_iff_toInt_le.mp c_155
      have z_6 := Int32.le_iff_toInt_le.mp (Int32.not_lt.mp c_156)
      have z_7 := Int32.le_iff_toInt_le.mp c_157
      have k_0 : (0 : Int32).toInt = 0 := (by decide)
      have k_1 : (1 : Int32).toInt = 1 := (by decide)
      have k_3 : (3 : Int32).toInt = 3 := (by decide)
      have k_4 : (4 : Int32).toInt = 4 := (by decide)
      have k_8 : (8 : Int32).toInt = 8 := (by decide)
      exact absurd g_158.symm hf0
  · have hP : va_P V.1 vwCl [(y 0, .inr (9, o9_rirrrrrrrrvviii (y 1) py0_1 (y 2) (y 10) (y 19) (y 25) (y 26) (y 30) (y 31) (y 32) o10 o11 py0_12 py0_13 py0_14)), (y 2, .inr (1, o1_iiiiiirrrrrrriiiii py2_0 py2_1 py2_2 py2_3 py2_4 py2_5 (y 3) (y 4) (y 5) (y 6) (y 7) (y 8) (y 9) py2_13 py2_14 py2_15 py2_16 py2_17)), (y 30, aT V 4 (va_up (va_up (va_up (va_up (fun _ => none) 0 (some (y 33))) 1 (some (y 35))) 2 (some (y 37))) 3 (some (y 39)))), (y 33, .inr (7, o7_rii (y 34) py33_1 py33_2)), (y 34, aJ V 40 fy34), (y 35, .inr (7, o7_rii (y 36) py35_1 py35_2)), (y 36, aJ V 40 fy36), (y 37, .inr (7, o7_rii (y 38) py37_1 py37_2)), (y 38, aJ V 40 fy38), (y 39, .inr (7, o7_rii (y 40) py39_1 py39_2)), (y 40, aJ V 40 fy40)] H := hP
    have hD := cpD hP hD
    have b_348 : iv 0 2147483647 a2 := iv_e2 (Int32.not_lt.mp c_161) (iv_c (0 : Int32) (a := 0) (b := 0) (by decide)) (iv_top a2) (by decide)
    have b_349 : iv 0 3 a2 := iv_l1 (Int32.not_le.mp c_162) b_348 bpy2_1 (by decide)
    have b_350 : iv 1 4 py2_1 := iv_l2 (Int32.not_le.mp c_162) b_348 bpy2_1 (by decide)
    have b_351 : iv 3 3 a1 := iv_q c_163 (iv_c (3 : Int32) (a := 3) (b := 3) (by decide))
    have b_352 : iv 0 40 py39_1 := iv_e2 c_164 (iv_c (0 : Int32) (a := 0) (b := 0) (by decide)) bpy39_1 (by decide)
    have b_353 : iv 1 40 py39_1 := iv_e2 (Int32.not_lt.mp c_165) (iv_c (1 : Int32) (a := 1) (b := 1) (by decide)) b_352 (by decide)
    have b_354 : iv 1 8 py39_1 := iv_e1 c_166 b_353 (iv_c (8 : Int32) (a := 8) (b := 8) (by decide)) (by decide)
    refine lv_istore_n (lv' := [(3, .int (-3)), (0, .ref (y 0)), (1, .int a1), (2, .int a2)]) hx hb dX9_high_7 rfl hl (by decide) rfl (fun ls hl => ?_)
    refine lv_iload_n hx hb dX9_high_8 rfl (lv_at hl 0 rfl) ?_
    refine lv_if_eq (tgt := 15) hx hb dX9_high_9 (by decide) (fun c_356 => absurd c_356 (by decide)) (fun _ => ?_)
    refine lv_iload_n hx hb dX9_high_12 rfl (lv_at hl 0 rfl) ?_
    refine lv_i2l (v := (-3)) hx hb dX9_high_13 (by decide +kernel) ?_
    exact fiL hx hb hr hlk hK hP hD hS dX9_high_14 (Nat.le_of_ble_eq_true rfl) (Nat.le_of_ble_eq_true rfl) (rfl)
  · have hP : va_P V.1 vwCl [(y 0, .inr (9, o9_rirrrrrrrrvviii (y 1) py0_1 (y 2) (y 10) (y 19) (y 25) (y 26) (y 30) (y 31) (y 32) o10 o11 py0_12 py0_13 py0_14)), (y 2, .inr (1, o1_iiiiiirrrrrrriiiii py2_0 py2_1 py2_2 py2_3 py2_4 py2_5 (y 3) (y 4) (y 5) (y 6) (y 7) (y 8) (y 9) py2_13 py2_14 py2_15 py2_16 py2_17)), (y 30, aT V 4 (va_up (va_up (va_up (va_up (fun _ => none) 0 (some (y 33))) 1 (some (y 35))) 2 (some (y 37))) 3 (some (y 39)))), (y 33, .inr (7, o7_rii (y 34) py33_1 py33_2)), (y 34, aJ V 40 fy34), (y 35, .inr (7, o7_rii (y 36) py35_1 py35_2)), (y 36, aJ V 40 fy36), (y 37, .inr (7, o7_rii (y 38) py37_1 py37_2)), (y 38, aJ V 40 fy38), (y 39, .inr (7, o7_rii (y 40) py39_1 py39_2)), (y 40, aJ V 40 fy40)] H := hP
    have hD := cpD hP hD
    have b_357 : iv 0 2147483647 a2 := iv_e2 (Int32.not_lt.mp c_170) (iv_c (0 : Int32) (a := 0) (b := 0) (by decide)) (iv_top a2) (by decide)
    have b_358 : iv 0 3 a2 := iv_l1 (Int32.not_le.mp c_171) b_357 bpy2_1 (by decide)
    have b_359 : iv 1 4 py2_1 := iv_l2 (Int32.not_le.mp c_171) b_357 bpy2_1 (by decide)
    have b_360 : iv 3 3 a1 := iv_q c_172 (iv_c (3 : Int32) (a := 3) (b := 3) (by decide))
    have b_361 : iv 0 40 py39_1 := iv_e2 c_173 (iv_c (0 : Int32) (a := 0) (b := 0) (by decide)) bpy39_1 (by decide)
    have b_362 : iv 1 40 py39_1 := iv_e2 (Int32.not_lt.mp c_174) (iv_c (1 : Int32) (a := 1) (b := 1) (by decide)) b_361 (by decide)
    have b_363 : iv 9 40 py39_1 := iv_l2 (Int32.not_le.mp c_175) (iv_c (8 : Int32) (a := 8) (b := 8) (by decide)) b_362 (by decide)
    refine lv_istore_n (lv' := [(3, .int (-4)), (0, .ref (y 0)), (1, .int a1), (2, .int a2)]) hx hb dX9_high_7 rfl hl (by decide) rfl (fun ls hl => ?_)
    refine lv_iload_n hx hb dX9_high_8 rfl (lv_at hl 0 rfl) ?_
    refine lv_if_eq (tgt := 15) hx hb dX9_high_9 (by decide) (fun c_365 => absurd c_365 (by decide)) (fun _ => ?_)
    refine lv_iload_n hx hb dX9_high_12 rfl (lv_at hl 0 rfl) ?_
    refine lv_i2l (v := (-4)) hx hb dX9_high_13 (by decide +kernel) ?_
    exact fiL hx hb hr hlk hK hP hD hS dX9_high_14 (Nat.le_of_ble_eq_true rfl) (Nat.le_of_ble_eq_true rfl) (rfl)
  · have hP : va_P V.1 vwCl [(y 0, .inr (9, o9_rirrrrrrrrvviii (y 1) py0_1 (y 2) (y 10) (y 19) (y 25) (y 26) (y 30) (y 31) (y 32) o10 o11 py0_12 py0_13 py0_14)), (y 2, .inr (1, o1_iiiiiirrrrrrriiiii py2_0 py2_1 py2_2 py2_3 py2_4 py2_5 (y 3) (y 4) (y 5) (y 6) (y 7) (y 8) (y 9) py2_13 py2_14 py2_15 py2_16 py2_17)), (y 30, aT V 4 (va_up (va_up (va_up (va_up (fun _ => none) 0 (some (y 33))) 1 (some (y 35))) 2 (some (y 37))) 3 (some (y 39)))), (y 33, .inr (7, o7_rii (y 34) py33_1 py33_2)), (y 34, aJ V 40 fy34), (y 35, .inr (7, o7_rii (y 36) py35_1 py35_2)), (y 36, aJ V 40 fy36), (y 37, .inr (7, o7_rii (y 38) py37_1 py37_2)), (y 38, aJ V 40 fy38), (y 39, .inr (7, o7_rii (y 40) py39_1 py39_2)), (y 40, aJ V 40 fy40)] H := hP
    have hD := cpD hP hD
    have b_366 : iv 0 2147483647 a2 := iv_e2 (Int32.not_lt.mp c_179) (iv_c (0 : Int32) (a := 0) (b := 0) (by decide)) (iv_top a2) (by decide)
    have b_367 : iv 0 3 a2 := iv_l1 (Int32.not_le.mp c_180) b_366 bpy2_1 (by decide)
    have b_368 : iv 1 4 py2_1 := iv_l2 (Int32.not_le.mp c_180) b_366 bpy2_1 (by decide)
    have b_369 : iv 3 3 a1 := iv_q c_181 (iv_c (3 : Int32) (a := 3) (b := 3) (by decide))
    have b_370 : iv (-1) (-1) py39_1 := iv_l1 (Int32.not_le.mp c_182) bpy39_1 (iv_c (0 : Int32) (a := 0) (b := 0) (by decide)) (by decide)
    refine lv_istore_n (lv' := [(3, .int (-6)), (0, .ref (y 0)), (1, .int a1), (2, .int a2)]) hx hb dX9_high_7 rfl hl (by decide) rfl (fun ls hl => ?_)
    refine lv_iload_n hx hb dX9_high_8 rfl (lv_at hl 0 rfl) ?_
    refine lv_if_eq (tgt := 15) hx hb dX9_high_9 (by decide) (fun c_372 => absurd c_372 (by decide)) (fun _ => ?_)
    refine lv_iload_n hx hb dX9_high_12 rfl (lv_at hl 0 rfl) ?_
    refine lv_i2l (v := (-6)) hx hb dX9_high_13 (by decide +kernel) ?_
    exact fiL hx hb hr hlk hK hP hD hS dX9_high_14 (Nat.le_of_ble_eq_true rfl) (Nat.le_of_ble_eq_true rfl) (rfl)
