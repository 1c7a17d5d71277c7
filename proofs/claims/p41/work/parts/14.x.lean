set_option maxHeartbeats 4000000 in
set_option maxRecDepth 100000 in
theorem k_X9_goOnFrom_1 (l : Launch) (V : GV) (y : Nat → Nat) (a2 : Int32) (a3 : Int32) (a4 : Int32) (py0_1 : Int32) (o11 : Value) (py0_12 : Int32) (py0_13 : Int32) (py0_14 : Int32) (py2_0 : Int32) (py2_1 : Int32) (py2_2 : Int32) (py2_3 : Int32) (py2_4 : Int32) (py2_5 : Int32) (py2_13 : Int32) (py2_14 : Int32) (py2_15 : Int32) (py2_16 : Int32) (py2_17 : Int32) (fy3 : Nat → Int32) (fy4 : Nat → Int32) (fy5 : Nat → Int32) (fy6 : Nat → Int32) (fy7 : Nat → Int32) (fy8 : Nat → Int32) (fy9 : Nat → Int32) (fy20 : Nat → Int32) (py26_3 : Int32) (py51_0 : Int32) (py51_1 : Int32) (py51_2 : Int32) (py51_3 : Int32) (py51_4 : Int32) (py51_5 : Int32) (py51_13 : Int32) (py51_14 : Int32) (py51_15 : Int32) (py51_16 : Int32) (py51_17 : Int32) (fy52 : Nat → Int32) (fy53 : Nat → Int32) (fy54 : Nat → Int32) (fy55 : Nat → Int32) (fy56 : Nat → Int32) (fy57 : Nat → Int32) (fy58 : Nat → Int32) (bpy0_1 : iv 0 900 py0_1) (bpy2_1 : iv 0 4 py2_1) (bpy2_2 : iv 0 4 py2_2) (bpy2_3 : iv 0 8 py2_3) (bpy2_13 : iv 0 900 py2_13) (bpy2_14 : iv 0 900 py2_14) (bpy2_15 : iv 0 900 py2_15) (bpy2_16 : iv 0 900 py2_16) (bpy2_17 : iv 0 900 py2_17) (bpy26_3 : iv 0 10 py26_3) (bpy51_1 : iv 0 4 py51_1) (bpy51_2 : iv 0 4 py51_2) (bpy51_3 : iv 0 8 py51_3) (bpy51_13 : iv 0 900 py51_13) (bpy51_14 : iv 0 900 py51_14) (bpy51_15 : iv 0 900 py51_15) (bpy51_16 : iv 0 900 py51_16) (bpy51_17 : iv 0 900 py51_17) : Ct l V yX9_goOnFrom (.code yX9_goOnFrom cX9_goOnFrom 5 none) 4 [.ref (y 0), .ref (y 51), .int a2, .int a3, .int a4] [(y 0, .inr (9, [.ref (y 1), .int py0_1, .ref (y 2), .ref (y 10), .ref (y 19), .ref (y 25), .ref (y 26), .ref (y 30), .ref (y 31), .ref (y 32), .null, o11, .int py0_12, .int py0_13, .int py0_14])), (y 2, .inr (1, [.int py2_0, .int py2_1, .int py2_2, .int py2_3, .int py2_4, .int py2_5, .ref (y 3), .ref (y 4), .ref (y 5), .ref (y 6), .ref (y 7), .ref (y 8), .ref (y 9), .int py2_13, .int py2_14, .int py2_15, .int py2_16, .int py2_17])), (y 3, aI V 4 fy3), (y 4, aI V 4 fy4), (y 5, aI V 4 fy5), (y 6, aI V 8 fy6), (y 7, aI V 8 fy7), (y 8, aI V 8 fy8), (y 9, aI V 900 fy9), (y 19, .inr (4, [.ref (y 2), .ref (y 20), .ref (y 21), .ref (y 22), .ref (y 23), .ref (y 24)])), (y 20, aI V 2000 fy20), (y 26, .inr (5, [.ref (y 27), .ref (y 28), .ref (y 29), .int py26_3])), (y 51, .inr (1, [.int py51_0, .int py51_1, .int py51_2, .int py51_3, .int py51_4, .int py51_5, .ref (y 52), .ref (y 53), .ref (y 54), .ref (y 55), .ref (y 56), .ref (y 57), .ref (y 58), .int py51_13, .int py51_14, .int py51_15, .int py51_16, .int py51_17])), (y 52, aI V 4 fy52), (y 53, aI V 4 fy53), (y 54, aI V 4 fy54), (y 55, aI V 8 fy55), (y 56, aI V 8 fy56), (y 57, aI V 8 fy57), (y 58, aI V 900 fy58)] 0 0 (QV V (fun (w : va_W) => ∃ (v0 : Int32) (v1 : Int32) (v2 : Int32) (v3 : Int32) (v4 : Int32) (v5 : Int32) (v6 : Int32) (v7 : Int32) (v8 : Int32) (v9 : Int32) (v10 : Int32) (v11 : Int32) (v12 : Int32) (v13 : Int32) (g14 : Nat → Int32) (g15 : Nat → Int32) (g16 : Nat → Int32) (g17 : Nat → Int32) (g18 : Nat → Int32) (g19 : Nat → Int32) (g20 : Nat → Int32) (g21 : Nat → Int32) (v22 : Int32), iv 0 4 v4 ∧ iv 0 4 v5 ∧ iv 0 8 v6 ∧ iv 0 900 v9 ∧ iv 0 900 v10 ∧ iv 0 900 v11 ∧ iv 0 900 v12 ∧ iv 0 900 v13 ∧ iv 0 10 v22 ∧ w = [(y 0, .inr (9, [.ref (y 1), .int py0_1, .ref (y 2), .ref (y 10), .ref (y 19), .ref (y 25), .ref (y 26), .ref (y 30), .ref (y 31), .ref (y 32), .null, o11, .int v0, .int v1, .int v2])), (y 2, .inr (1, [.int v3, .int v4, .int v5, .int v6, .int v7, .int v8, .ref (y 3), .ref (y 4), .ref (y 5), .ref (y 6), .ref (y 7), .ref (y 8), .ref (y 9), .int v9, .int v10, .int v11, .int v12, .int v13])), (y 3, aI V 4 g14), (y 4, aI V 4 g15), (y 5, aI V 4 g16), (y 6, aI V 8 g17), (y 7, aI V 8 g18), (y 8, aI V 8 g19), (y 9, aI V 900 g20), (y 19, .inr (4, [.ref (y 2), .ref (y 20), .ref (y 21), .ref (y 22), .ref (y 23), .ref (y 24)])), (y 20, aI V 2000 g21), (y 26, .inr (5, [.ref (y 27), .ref (y 28), .ref (y 29), .int v22])), (y 51, .inr (1, [.int py51_0, .int py51_1, .int py51_2, .int py51_3, .int py51_4, .int py51_5, .ref (y 52), .ref (y 53), .ref (y 54), .ref (y 55), .ref (y 56), .ref (y 57), .ref (y 58), .int py51_13, .int py51_14, .int py51_15, .int py51_16, .int py51_17])), (y 52, aI V 4 fy52), (y 53, aI V 4 fy53), (y 54, aI V 4 fy54), (y 55, aI V 8 fy55), (y 56, aI V 8 fy56), (y 57, aI V 8 fy57), (y 58, aI V 900 fy58)])) := by
  refine Ct.of (by decide) (Nat.le_of_ble_eq_true rfl) (fun p e s m below meth c A ls hx hb hr hml hown hlk hnm hg hP hK hD hE hA hS hl => ?_)
  have hl : lv_has ls 5 [(0, .ref (y 0)), (1, .ref (y 51)), (2, .int a2), (3, .int a3), (4, .int a4)] := hl
  refine lv_aload_n hx hb dX9_goOnFrom_0 rfl (lv_at hl 0 rfl) ?_
  refine va_get (ci := 9) (v := .ref (y 2)) (C := RX9) (T := TX9) (N := 15) hx hb hg inX9 hown hK hP 0 rfl rfl 2 (by decide) (hg _ q_2_38) (fun _ h9 => h9) rfl dX9_goOnFrom_1 ?_
  refine lv_aload_n hx hb dX9_goOnFrom_4 rfl (lv_at hl 1 rfl) ?_
  refine jnV (wr := [(y 0, .inr (9, [.ref (y 1), .int py0_1, .ref (y 2), .ref (y 10), .ref (y 19), .ref (y 25), .ref (y 26), .ref (y 30), .ref (y 31), .ref (y 32), .null, o11, .int py0_12, .int py0_13, .int py0_14])), (y 19, .inr (4, [.ref (y 2), .ref (y 20), .ref (y 21), .ref (y 22), .ref (y 23), .ref (y 24)])), (y 20, aI V 2000 fy20), (y 26, .inr (5, [.ref (y 27), .ref (y 28), .ref (y 29), .int py26_3]))]) (rnV (rest := []) ⟨hx, hb, hml, hown, hg⟩ (k_X1_becomeLike_3 l V y py2_0 py2_1 py2_2 py2_3 py2_4 py2_5 py2_13 py2_14 py2_15 py2_16 py2_17 fy3 fy4 fy5 fy6 fy7 fy8 fy9 py51_0 py51_1 py51_2 py51_3 py51_4 py51_5 py51_13 py51_14 py51_15 py51_16 py51_17 fy52 fy53 fy54 fy55 fy56 fy57 fy58 bpy2_1 bpy2_2 bpy2_3 bpy2_13 bpy2_14 bpy2_15 bpy2_16 bpy2_17 bpy51_1 bpy51_2 bpy51_3 bpy51_13 bpy51_14 bpy51_15 bpy51_16 bpy51_17) mt_X1_becomeLike q_3_96 ⟨Nat.le_of_ble_eq_true rfl, Nat.le_of_ble_eq_true rfl⟩ hK hP hD hS hA hE [1, 2, 3, 4, 5, 6, 7, 8, 12, 13, 14, 15, 16, 17, 18, 19] rfl rfl 1 rfl rfl rfl rfl hl.1 rfl (Nat.le_of_ble_eq_true rfl) dX9_goOnFrom_5 ⟨Nat.le_of_ble_eq_true rfl, Nat.le_of_ble_eq_true rfl⟩) hP hD hS hA [1, 2, 3, 4, 5, 6, 7, 8, 12, 13, 14, 15, 16, 17, 18, 19] [0, 9, 10, 11] rfl rfl rfl (by decide) (fun  w H locs hw hP hD hS => ?_)
  obtain ⟨v_1, v_2, v_3, v_4, v_5, v_6, v_7, v_8, v_9, v_10, v_11, f_12, f_13, f_14, f_15, f_16, f_17, f_18, bv_2, bv_3, bv_4, bv_7, bv_8, bv_9, bv_10, bv_11, rfl⟩ := hw
  have hP : va_P V.1 vwCl [(y 0, .inr (9, [.ref (y 1), .int py0_1, .ref (y 2), .ref (y 10), .ref (y 19), .ref (y 25), .ref (y 26), .ref (y 30), .ref (y 31), .ref (y 32), .null, o11, .int py0_12, .int py0_13, .int py0_14])), (y 19, .inr (4, [.ref (y 2), .ref (y 20), .ref (y 21), .ref (y 22), .ref (y 23), .ref (y 24)])), (y 20, aI V 2000 fy20), (y 26, .inr (5, [.ref (y 27), .ref (y 28), .ref (y 29), .int py26_3])), (y 2, .inr (1, [.int v_1, .int v_2, .int v_3, .int v_4, .int v_5, .int v_6, .ref (y 3), .ref (y 4), .ref (y 5), .ref (y 6), .ref (y 7), .ref (y 8), .ref (y 9), .int v_7, .int v_8, .int v_9, .int v_10, .int v_11])), (y 3, aI V 4 f_12), (y 4, aI V 4 f_13), (y 5, aI V 4 f_14), (y 6, aI V 8 f_15), (y 7, aI V 8 f_16), (y 8, aI V 8 f_17), (y 9, aI V 900 f_18), (y 51, .inr (1, [.int py51_0, .int py51_1, .int py51_2, .int py51_3, .int py51_4, .int py51_5, .ref (y 52), .ref (y 53), .ref (y 54), .ref (y 55), .ref (y 56), .ref (y 57), .ref (y 58), .int py51_13, .int py51_14, .int py51_15, .int py51_16, .int py51_17])), (y 52, aI V 4 fy52), (y 53, aI V 4 fy53), (y 54, aI V 4 fy54), (y 55, aI V 8 fy55), (y 56, aI V 8 fy56), (y 57, aI V 8 fy57), (y 58, aI V 900 fy58)] H := hP
  have hD : va_D A [(y 0, .inr (9, [.ref (y 1), .int py0_1, .ref (y 2), .ref (y 10), .ref (y 19), .ref (y 25), .ref (y 26), .ref (y 30), .ref (y 31), .ref (y 32), .null, o11, .int py0_12, .int py0_13, .int py0_14])), (y 19, .inr (4, [.ref (y 2), .ref (y 20), .ref (y 21), .ref (y 22), .ref (y 23), .ref (y 24)])), (y 20, aI V 2000 fy20), (y 26, .inr (5, [.ref (y 27), .ref (y 28), .ref (y 29), .int py26_3])), (y 2, .inr (1, [.int v_1, .int v_2, .int v_3, .int v_4, .int v_5, .int v_6, .ref (y 3), .ref (y 4), .ref (y 5), .ref (y 6), .ref (y 7), .ref (y 8), .ref (y 9), .int v_7, .int v_8, .int v_9, .int v_10, .int v_11])), (y 3, aI V 4 f_12), (y 4, aI V 4 f_13), (y 5, aI V 4 f_14), (y 6, aI V 8 f_15), (y 7, aI V 8 f_16), (y 8, aI V 8 f_17), (y 9, aI V 900 f_18), (y 51, .inr (1, [.int py51_0, .int py51_1, .int py51_2, .int py51_3, .int py51_4, .int py51_5, .ref (y 52), .ref (y 53), .ref (y 54), .ref (y 55), .ref (y 56), .ref (y 57), .ref (y 58), .int py51_13, .int py51_14, .int py51_15, .int py51_16, .int py51_17])), (y 52, aI V 4 fy52), (y 53, aI V 4 fy53), (y 54, aI V 4 fy54), (y 55, aI V 8 fy55), (y 56, aI V 8 fy56), (y 57, aI V 8 fy57), (y 58, aI V 900 fy58)] := hD
  refine lv_aload_n hx hb dX9_goOnFrom_8 rfl (lv_at hl 0 rfl) ?_
  refine va_get (ci := 9) (v := .ref (y 19)) (C := RX9) (T := TX9) (N := 15) hx hb hg inX9 hown hK hP 0 rfl rfl 4 (by decide) (hg _ q_2_40) (fun _ h9 => h9) rfl dX9_goOnFrom_9 ?_
  refine jnV (wr := [(y 0, .inr (9, [.ref (y 1), .int py0_1, .ref (y 2), .ref (y 10), .ref (y 19), .ref (y 25), .ref (y 26), .ref (y 30), .ref (y 31), .ref (y 32), .null, o11, .int py0_12, .int py0_13, .int py0_14])), (y 26, .inr (5, [.ref (y 27), .ref (y 28), .ref (y 29), .int py26_3])), (y 2, .inr (1, [.int v_1, .int v_2, .int v_3, .int v_4, .int v_5, .int v_6, .ref (y 3), .ref (y 4), .ref (y 5), .ref (y 6), .ref (y 7), .ref (y 8), .ref (y 9), .int v_7, .int v_8, .int v_9, .int v_10, .int v_11])), (y 3, aI V 4 f_12), (y 4, aI V 4 f_13), (y 5, aI V 4 f_14), (y 6, aI V 8 f_15), (y 7, aI V 8 f_16), (y 8, aI V 8 f_17), (y 9, aI V 900 f_18), (y 51, .inr (1, [.int py51_0, .int py51_1, .int py51_2, .int py51_3, .int py51_4, .int py51_5, .ref (y 52), .ref (y 53), .ref (y 54), .ref (y 55), .ref (y 56), .ref (y 57), .ref (y 58), .int py51_13, .int py51_14, .int py51_15, .int py51_16, .int py51_17])), (y 52, aI V 4 fy52), (y 53, aI V 4 fy53), (y 54, aI V 4 fy54), (y 55, aI V 8 fy55), (y 56, aI V 8 fy56), (y 57, aI V 8 fy57), (y 58, aI V 900 fy58)]) (rnV (rest := []) ⟨hx, hb, hml, hown, hg⟩ (k_X4_forget_0 l V y fy20) mt_X4_forget q_3_103 ⟨Nat.le_of_ble_eq_true rfl, Nat.le_of_ble_eq_true rfl⟩ hK hP hD hS hA hE [1, 2] rfl rfl 1 rfl rfl rfl rfl hl.1 rfl (Nat.le_of_ble_eq_true rfl) dX9_goOnFrom_12 ⟨Nat.le_of_ble_eq_true rfl, Nat.le_of_ble_eq_true rfl⟩) hP hD hS hA [1, 2] [0, 3, 4, 5, 6, 7, 8, 9, 10, 11, 12, 13, 14, 15, 16, 17, 18, 19] rfl rfl rfl (by decide) (fun  w H locs hw hP hD hS => ?_)
  obtain ⟨f_19, rfl⟩ := hw
  have hP : va_P V.1 vwCl [(y 0, .inr (9, [.ref (y 1), .int py0_1, .ref (y 2), .ref (y 10), .ref (y 19), .ref (y 25), .ref (y 26), .ref (y 30), .ref (y 31), .ref (y 32), .null, o11, .int py0_12, .int py0_13, .int py0_14])), (y 26, .inr (5, [.ref (y 27), .ref (y 28), .ref (y 29), .int py26_3])), (y 2, .inr (1, [.int v_1, .int v_2, .int v_3, .int v_4, .int v_5, .int v_6, .ref (y 3), .ref (y 4), .ref (y 5), .ref (y 6), .ref (y 7), .ref (y 8), .ref (y 9), .int v_7, .int v_8, .int v_9, .int v_10, .int v_11])), (y 3, aI V 4 f_12), (y 4, aI V 4 f_13), (y 5, aI V 4 f_14), (y 6, aI V 8 f_15), (y 7, aI V 8 f_16), (y 8, aI V 8 f_17), (y 9, aI V 900 f_18), (y 51, .inr (1, [.int py51_0, .int py51_1, .int py51_2, .int py51_3, .int py51_4, .int py51_5, .ref (y 52), .ref (y 53), .ref (y 54), .ref (y 55), .ref (y 56), .ref (y 57), .ref (y 58), .int py51_13, .int py51_14, .int py51_15, .int py51_16, .int py51_17])), (y 52, aI V 4 fy52), (y 53, aI V 4 fy53), (y 54, aI V 4 fy54), (y 55, aI V 8 fy55), (y 56, aI V 8 fy56), (y 57, aI V 8 fy57), (y 58, aI V 900 fy58), (y 19, .inr (4, [.ref (y 2), .ref (y 20), .ref (y 21), .ref (y 22), .ref (y 23), .ref (y 24)])), (y 20, aI V 2000 f_19)] H := hP
  have hD : va_D A [(y 0, .inr (9, [.ref (y 1), .int py0_1, .ref (y 2), .ref (y 10), .ref (y 19), .ref (y 25), .ref (y 26), .ref (y 30), .ref (y 31), .ref (y 32), .null, o11, .int py0_12, .int py0_13, .int py0_14])), (y 26, .inr (5, [.ref (y 27), .ref (y 28), .ref (y 29), .int py26_3])), (y 2, .inr (1, [.int v_1, .int v_2, .int v_3, .int v_4, .int v_5, .int v_6, .ref (y 3), .ref (y 4), .ref (y 5), .ref (y 6), .ref (y 7), .ref (y 8), .ref (y 9), .int v_7, .int v_8, .int v_9, .int v_10, .int v_11])), (y 3, aI V 4 f_12), (y 4, aI V 4 f_13), (y 5, aI V 4 f_14), (y 6, aI V 8 f_15), (y 7, aI V 8 f_16), (y 8, aI V 8 f_17), (y 9, aI V 900 f_18), (y 51, .inr (1, [.int py51_0, .int py51_1, .int py51_2, .int py51_3, .int py51_4, .int py51_5, .ref (y 52), .ref (y 53), .ref (y 54), .ref (y 55), .ref (y 56), .ref (y 57), .ref (y 58), .int py51_13, .int py51_14, .int py51_15, .int py51_16, .int py51_17])), (y 52, aI V 4 fy52), (y 53, aI V 4 fy53), (y 54, aI V 4 fy54), (y 55, aI V 8 fy55), (y 56, aI V 8 fy56), (y 57, aI V 8 fy57), (y 58, aI V 900 fy58), (y 19, .inr (4, [.ref (y 2), .ref (y 20), .ref (y 21), .ref (y 22), .ref (y 23), .ref (y 24)])), (y 20, aI V 2000 f_19)] := hD
  refine lv_aload_n hx hb dX9_goOnFrom_15 rfl (lv_at hl 0 rfl) ?_
  refine va_get (ci := 9) (v := .null) (C := RX9) (T := TX9) (N := 15) hx hb hg inX9 hown hK hP 0 rfl rfl 10 (by decide) (hg _ q_2_46) (fun _ h9 => h9) rfl dX9_goOnFrom_16 ?_
  refine lv_ifnullN (tgt := 29) hx hb dX9_goOnFrom_19 (by decide) ?_
  refine lv_aload_n hx hb dX9_goOnFrom_29 rfl (lv_at hl 0 rfl) ?_
  refine lv_iload_n hx hb dX9_goOnFrom_30 rfl (lv_at hl 2 rfl) ?_
  refine va_put (ci := 9) (v := .int a2) (ty := .int) (C := RX9) (T := TX9) (N := 15) hx hb hg inX9 tyX9 tyX9_ok nmX9 hown hK hP hD hS 0 rfl rfl 12 (by decide) (hg _ q_2_48) (fun _ h9 => h9) rfl (by decide +kernel) rfl rfl (Nat.le_of_ble_eq_true rfl) dX9_goOnFrom_31 (fun H locs hP hD hS => ?_)
  have hP : va_P V.1 vwCl [(y 0, .inr (9, [.ref (y 1), .int py0_1, .ref (y 2), .ref (y 10), .ref (y 19), .ref (y 25), .ref (y 26), .ref (y 30), .ref (y 31), .ref (y 32), .null, o11, .int a2, .int py0_13, .int py0_14])), (y 26, .inr (5, [.ref (y 27), .ref (y 28), .ref (y 29), .int py26_3])), (y 2, .inr (1, [.int v_1, .int v_2, .int v_3, .int v_4, .int v_5, .int v_6, .ref (y 3), .ref (y 4), .ref (y 5), .ref (y 6), .ref (y 7), .ref (y 8), .ref (y 9), .int v_7, .int v_8, .int v_9, .int v_10, .int v_11])), (y 3, aI V 4 f_12), (y 4, aI V 4 f_13), (y 5, aI V 4 f_14), (y 6, aI V 8 f_15), (y 7, aI V 8 f_16), (y 8, aI V 8 f_17), (y 9, aI V 900 f_18), (y 51, .inr (1, [.int py51_0, .int py51_1, .int py51_2, .int py51_3, .int py51_4, .int py51_5, .ref (y 52), .ref (y 53), .ref (y 54), .ref (y 55), .ref (y 56), .ref (y 57), .ref (y 58), .int py51_13, .int py51_14, .int py51_15, .int py51_16, .int py51_17])), (y 52, aI V 4 fy52), (y 53, aI V 4 fy53), (y 54, aI V 4 fy54), (y 55, aI V 8 fy55), (y 56, aI V 8 fy56), (y 57, aI V 8 fy57), (y 58, aI V 900 fy58), (y 19, .inr (4, [.ref (y 2), .ref (y 20), .ref (y 21), .ref (y 22), .ref (y 23), .ref (y 24)])), (y 20, aI V 2000 f_19)] H := hP
  have hD : va_D A [(y 0, .inr (9, [.ref (y 1), .int py0_1, .ref (y 2), .ref (y 10), .ref (y 19), .ref (y 25), .ref (y 26), .ref (y 30), .ref (y 31), .ref (y 32), .null, o11, .int a2, .int py0_13, .int py0_14])), (y 26, .inr (5, [.ref (y 27), .ref (y 28), .ref (y 29), .int py26_3])), (y 2, .inr (1, [.int v_1, .int v_2, .int v_3, .int v_4, .int v_5, .int v_6, .ref (y 3), .ref (y 4), .ref (y 5), .ref (y 6), .ref (y 7), .ref (y 8), .ref (y 9), .int v_7, .int v_8, .int v_9, .int v_10, .int v_11])), (y 3, aI V 4 f_12), (y 4, aI V 4 f_13), (y 5, aI V 4 f_14), (y 6, aI V 8 f_15), (y 7, aI V 8 f_16), (y 8, aI V 8 f_17), (y 9, aI V 900 f_18), (y 51, .inr (1, [.int py51_0, .int py51_1, .int py51_2, .int py51_3, .int py51_4, .int py51_5, .ref (y 52), .ref (y 53), .ref (y 54), .ref (y 55), .ref (y 56), .ref (y 57), .ref (y 58), .int py51_13, .int py51_14, .int py51_15, .int py51_16, .int py51_17])), (y 52, aI V 4 fy52), (y 53, aI V 4 fy53), (y 54, aI V 4 fy54), (y 55, aI V 8 fy55), (y 56, aI V 8 fy56), (y 57, aI V 8 fy57), (y 58, aI V 900 fy58), (y 19, .inr (4, [.ref (y 2), .ref (y 20), .ref (y 21), .ref (y 22), .ref (y 23), .ref (y 24)])), (y 20, aI V 2000 f_19)] := hD
  refine lv_aload_n hx hb dX9_goOnFrom_34 rfl (lv_at hl 0 rfl) ?_
  refine lv_iload_n hx hb dX9_goOnFrom_35 rfl (lv_at hl 3 rfl) ?_
  refine va_put (ci := 9) (v := .int a3) (ty := .int) (C := RX9) (T := TX9) (N := 15) hx hb hg inX9 tyX9 tyX9_ok nmX9 hown hK hP hD hS 0 rfl rfl 13 (by decide) (hg _ q_2_49) (fun _ h9 => h9) rfl (by decide +kernel) rfl rfl (Nat.le_of_ble_eq_true rfl) dX9_goOnFrom_36 (fun H locs hP hD hS => ?_)
  have hP : va_P V.1 vwCl [(y 0, .inr (9, [.ref (y 1), .int py0_1, .ref (y 2), .ref (y 10), .ref (y 19), .ref (y 25), .ref (y 26), .ref (y 30), .ref (y 31), .ref (y 32), .null, o11, .int a2, .int a3, .int py0_14])), (y 26, .inr (5, [.ref (y 27), .ref (y 28), .ref (y 29), .int py26_3])), (y 2, .inr (1, [.int v_1, .int v_2, .int v_3, .int v_4, .int v_5, .int v_6, .ref (y 3), .ref (y 4), .ref (y 5), .ref (y 6), .ref (y 7), .ref (y 8), .ref (y 9), .int v_7, .int v_8, .int v_9, .int v_10, .int v_11])), (y 3, aI V 4 f_12), (y 4, aI V 4 f_13), (y 5, aI V 4 f_14), (y 6, aI V 8 f_15), (y 7, aI V 8 f_16), (y 8, aI V 8 f_17), (y 9, aI V 900 f_18), (y 51, .inr (1, [.int py51_0, .int py51_1, .int py51_2, .int py51_3, .int py51_4, .int py51_5, .ref (y 52), .ref (y 53), .ref (y 54), .ref (y 55), .ref (y 56), .ref (y 57), .ref (y 58), .int py51_13, .int py51_14, .int py51_15, .int py51_16, .int py51_17])), (y 52, aI V 4 fy52), (y 53, aI V 4 fy53), (y 54, aI V 4 fy54), (y 55, aI V 8 fy55), (y 56, aI V 8 fy56), (y 57, aI V 8 fy57), (y 58, aI V 900 fy58), (y 19, .inr (4, [.ref (y 2), .ref (y 20), .ref (y 21), .ref (y 22), .ref (y 23), .ref (y 24)])), (y 20, aI V 2000 f_19)] H := hP
  have hD : va_D A [(y 0, .inr (9, [.ref (y 1), .int py0_1, .ref (y 2), .ref (y 10), .ref (y 19), .ref (y 25), .ref (y 26), .ref (y 30), .ref (y 31), .ref (y 32), .null, o11, .int a2, .int a3, .int py0_14])), (y 26, .inr (5, [.ref (y 27), .ref (y 28), .ref (y 29), .int py26_3])), (y 2, .inr (1, [.int v_1, .int v_2, .int v_3, .int v_4, .int v_5, .int v_6, .ref (y 3), .ref (y 4), .ref (y 5), .ref (y 6), .ref (y 7), .ref (y 8), .ref (y 9), .int v_7, .int v_8, .int v_9, .int v_10, .int v_11])), (y 3, aI V 4 f_12), (y 4, aI V 4 f_13), (y 5, aI V 4 f_14), (y 6, aI V 8 f_15), (y 7, aI V 8 f_16), (y 8, aI V 8 f_17), (y 9, aI V 900 f_18), (y 51, .inr (1, [.int py51_0, .int py51_1, .int py51_2, .int py51_3, .int py51_4, .int py51_5, .ref (y 52), .ref (y 53), .ref (y 54), .ref (y 55), .ref (y 56), .ref (y 57), .ref (y 58), .int py51_13, .int py51_14, .int py51_15, .int py51_16, .int py51_17])), (y 52, aI V 4 fy52), (y 53, aI V 4 fy53), (y 54, aI V 4 fy54), (y 55, aI V 8 fy55), (y 56, aI V 8 fy56), (y 57, aI V 8 fy57), (y 58, aI V 900 fy58), (y 19, .inr (4, [.ref (y 2), .ref (y 20), .ref (y 21), .ref (y 22), .ref (y 23), .ref (y 24)])), (y 20, aI V 2000 f_19)] := hD
  refine lv_aload_n hx hb dX9_goOnFrom_39 rfl (lv_at hl 0 rfl) ?_
  refine lv_iload hx hb dX9_goOnFrom_40 (lv_at hl 4 rfl) ?_
  refine va_put (ci := 9) (v := .int a4) (ty := .int) (C := RX9) (T := TX9) (N := 15) hx hb hg inX9 tyX9 tyX9_ok nmX9 hown hK hP hD hS 0 rfl rfl 14 (by decide) (hg _ q_2_50) (fun _ h9 => h9) rfl (by decide +kernel) rfl rfl (Nat.le_of_ble_eq_true rfl) dX9_goOnFrom_42 (fun H locs hP hD hS => ?_)
  have hP : va_P V.1 vwCl [(y 0, .inr (9, [.ref (y 1), .int py0_1, .ref (y 2), .ref (y 10), .ref (y 19), .ref (y 25), .ref (y 26), .ref (y 30), .ref (y 31), .ref (y 32), .null, o11, .int a2, .int a3, .int a4])), (y 26, .inr (5, [.ref (y 27), .ref (y 28), .ref (y 29), .int py26_3])), (y 2, .inr (1, [.int v_1, .int v_2, .int v_3, .int v_4, .int v_5, .int v_6, .ref (y 3), .ref (y 4), .ref (y 5), .ref (y 6), .ref (y 7), .ref (y 8), .ref (y 9), .int v_7, .int v_8, .int v_9, .int v_10, .int v_11])), (y 3, aI V 4 f_12), (y 4, aI V 4 f_13), (y 5, aI V 4 f_14), (y 6, aI V 8 f_15), (y 7, aI V 8 f_16), (y 8, aI V 8 f_17), (y 9, aI V 900 f_18), (y 51, .inr (1, [.int py51_0, .int py51_1, .int py51_2, .int py51_3, .int py51_4, .int py51_5, .ref (y 52), .ref (y 53), .ref (y 54), .ref (y 55), .ref (y 56), .ref (y 57), .ref (y 58), .int py51_13, .int py51_14, .int py51_15, .int py51_16, .int py51_17])), (y 52, aI V 4 fy52), (y 53, aI V 4 fy53), (y 54, aI V 4 fy54), (y 55, aI V 8 fy55), (y 56, aI V 8 fy56), (y 57, aI V 8 fy57), (y 58, aI V 900 fy58), (y 19, .inr (4, [.ref (y 2), .ref (y 20), .ref (y 21), .ref (y 22), .ref (y 23), .ref (y 24)])), (y 20, aI V 2000 f_19)] H := hP
  have hD : va_D A [(y 0, .inr (9, [.ref (y 1), .int py0_1, .ref (y 2), .ref (y 10), .ref (y 19), .ref (y 25), .ref (y 26), .ref (y 30), .ref (y 31), .ref (y 32), .null, o11, .int a2, .int a3, .int a4])), (y 26, .inr (5, [.ref (y 27), .ref (y 28), .ref (y 29), .int py26_3])), (y 2, .inr (1, [.int v_1, .int v_2, .int v_3, .int v_4, .int v_5, .int v_6, .ref (y 3), .ref (y 4), .ref (y 5), .ref (y 6), .ref (y 7), .ref (y 8), .ref (y 9), .int v_7, .int v_8, .int v_9, .int v_10, .int v_11])), (y 3, aI V 4 f_12), (y 4, aI V 4 f_13), (y 5, aI V 4 f_14), (y 6, aI V 8 f_15), (y 7, aI V 8 f_16), (y 8, aI V 8 f_17), (y 9, aI V 900 f_18), (y 51, .inr (1, [.int py51_0, .int py51_1, .int py51_2, .int py51_3, .int py51_4, .int py51_5, .ref (y 52), .ref (y 53), .ref (y 54), .ref (y 55), .ref (y 56), .ref (y 57), .ref (y 58), .int py51_13, .int py51_14, .int py51_15, .int py51_16, .int py51_17])), (y 52, aI V 4 fy52), (y 53, aI V 4 fy53), (y 54, aI V 4 fy54), (y 55, aI V 8 fy55), (y 56, aI V 8 fy56), (y 57, aI V 8 fy57), (y 58, aI V 900 fy58), (y 19, .inr (4, [.ref (y 2), .ref (y 20), .ref (y 21), .ref (y 22), .ref (y 23), .ref (y 24)])), (y 20, aI V 2000 f_19)] := hD
  refine lv_aload_n hx hb dX9_goOnFrom_45 rfl (lv_at hl 0 rfl) ?_
  refine va_get (ci := 9) (v := .ref (y 26)) (C := RX9) (T := TX9) (N := 15) hx hb hg inX9 hown hK hP 0 rfl rfl 6 (by decide) (hg _ q_2_42) (fun _ h9 => h9) rfl dX9_goOnFrom_46 ?_
  refine lv_iconst (v := 0) hx hb dX9_goOnFrom_49 (by decide) ?_
  refine va_put (ci := 5) (v := .int 0) (ty := .int) (C := RX5) (T := TX5) (N := 4) hx hb hg inX5 tyX5 tyX5_ok nmX5 hown hK hP hD hS 1 rfl rfl 3 (by decide) (hg _ q_1_218) (fun _ h9 => h9) rfl (by decide +kernel) rfl rfl (Nat.le_of_ble_eq_true rfl) dX9_goOnFrom_50 (fun H locs hP hD hS => ?_)
  have hP : va_P V.1 vwCl [(y 0, .inr (9, [.ref (y 1), .int py0_1, .ref (y 2), .ref (y 10), .ref (y 19), .ref (y 25), .ref (y 26), .ref (y 30), .ref (y 31), .ref (y 32), .null, o11, .int a2, .int a3, .int a4])), (y 26, .inr (5, [.ref (y 27), .ref (y 28), .ref (y 29), .int 0])), (y 2, .inr (1, [.int v_1, .int v_2, .int v_3, .int v_4, .int v_5, .int v_6, .ref (y 3), .ref (y 4), .ref (y 5), .ref (y 6), .ref (y 7), .ref (y 8), .ref (y 9), .int v_7, .int v_8, .int v_9, .int v_10, .int v_11])), (y 3, aI V 4 f_12), (y 4, aI V 4 f_13), (y 5, aI V 4 f_14), (y 6, aI V 8 f_15), (y 7, aI V 8 f_16), (y 8, aI V 8 f_17), (y 9, aI V 900 f_18), (y 51, .inr (1, [.int py51_0, .int py51_1, .int py51_2, .int py51_3, .int py51_4, .int py51_5, .ref (y 52), .ref (y 53), .ref (y 54), .ref (y 55), .ref (y 56), .ref (y 57), .ref (y 58), .int py51_13, .int py51_14, .int py51_15, .int py51_16, .int py51_17])), (y 52, aI V 4 fy52), (y 53, aI V 4 fy53), (y 54, aI V 4 fy54), (y 55, aI V 8 fy55), (y 56, aI V 8 fy56), (y 57, aI V 8 fy57), (y 58, aI V 900 fy58), (y 19, .inr (4, [.ref (y 2), .ref (y 20), .ref (y 21), .ref (y 22), .ref (y 23), .ref (y 24)])), (y 20, aI V 2000 f_19)] H := hP
  have hD : va_D A [(y 0, .inr (9, [.ref (y 1), .int py0_1, .ref (y 2), .ref (y 10), .ref (y 19), .ref (y 25), .ref (y 26), .ref (y 30), .ref (y 31), .ref (y 32), .null, o11, .int a2, .int a3, .int a4])), (y 26, .inr (5, [.ref (y 27), .ref (y 28), .ref (y 29), .int 0])), (y 2, .inr (1, [.int v_1, .int v_2, .int v_3, .int v_4, .int v_5, .int v_6, .ref (y 3), .ref (y 4), .ref (y 5), .ref (y 6), .ref (y 7), .ref (y 8), .ref (y 9), .int v_7, .int v_8, .int v_9, .int v_10, .int v_11])), (y 3, aI V 4 f_12), (y 4, aI V 4 f_13), (y 5, aI V 4 f_14), (y 6, aI V 8 f_15), (y 7, aI V 8 f_16), (y 8, aI V 8 f_17), (y 9, aI V 900 f_18), (y 51, .inr (1, [.int py51_0, .int py51_1, .int py51_2, .int py51_3, .int py51_4, .int py51_5, .ref (y 52), .ref (y 53), .ref (y 54), .ref (y 55), .ref (y 56), .ref (y 57), .ref (y 58), .int py51_13, .int py51_14, .int py51_15, .int py51_16, .int py51_17])), (y 52, aI V 4 fy52), (y 53, aI V 4 fy53), (y 54, aI V 4 fy54), (y 55, aI V 8 fy55), (y 56, aI V 8 fy56), (y 57, aI V 8 fy57), (y 58, aI V 900 fy58), (y 19, .inr (4, [.ref (y 2), .ref (y 20), .ref (y 21), .ref (y 22), .ref (y 23), .ref (y 24)])), (y 20, aI V 2000 f_19)] := hD
  have hP := subP (ws' := [(y 0, .inr (9, [.ref (y 1), .int py0_1, .ref (y 2), .ref (y 10), .ref (y 19), .ref (y 25), .ref (y 26), .ref (y 30), .ref (y 31), .ref (y 32), .null, o11, .int a2, .int a3, .int a4])), (y 2, .inr (1, [.int v_1, .int v_2, .int v_3, .int v_4, .int v_5, .int v_6, .ref (y 3), .ref (y 4), .ref (y 5), .ref (y 6), .ref (y 7), .ref (y 8), .ref (y 9), .int v_7, .int v_8, .int v_9, .int v_10, .int v_11])), (y 3, aI V 4 f_12), (y 4, aI V 4 f_13), (y 5, aI V 4 f_14), (y 6, aI V 8 f_15), (y 7, aI V 8 f_16), (y 8, aI V 8 f_17), (y 9, aI V 900 f_18), (y 19, .inr (4, [.ref (y 2), .ref (y 20), .ref (y 21), .ref (y 22), .ref (y 23), .ref (y 24)])), (y 20, aI V 2000 f_19), (y 26, .inr (5, [.ref (y 27), .ref (y 28), .ref (y 29), .int 0])), (y 51, .inr (1, [.int py51_0, .int py51_1, .int py51_2, .int py51_3, .int py51_4, .int py51_5, .ref (y 52), .ref (y 53), .ref (y 54), .ref (y 55), .ref (y 56), .ref (y 57), .ref (y 58), .int py51_13, .int py51_14, .int py51_15, .int py51_16, .int py51_17])), (y 52, aI V 4 fy52), (y 53, aI V 4 fy53), (y 54, aI V 4 fy54), (y 55, aI V 8 fy55), (y 56, aI V 8 fy56), (y 57, aI V 8 fy57), (y 58, aI V 900 fy58)]) hP [0, 2, 3, 4, 5, 6, 7, 8, 9, 18, 19, 1, 10, 11, 12, 13, 14, 15, 16, 17] rfl
  have hD := hD.sub (ws' := [(y 0, .inr (9, [.ref (y 1), .int py0_1, .ref (y 2), .ref (y 10), .ref (y 19), .ref (y 25), .ref (y 26), .ref (y 30), .ref (y 31), .ref (y 32), .null, o11, .int a2, .int a3, .int a4])), (y 2, .inr (1, [.int v_1, .int v_2, .int v_3, .int v_4, .int v_5, .int v_6, .ref (y 3), .ref (y 4), .ref (y 5), .ref (y 6), .ref (y 7), .ref (y 8), .ref (y 9), .int v_7, .int v_8, .int v_9, .int v_10, .int v_11])), (y 3, aI V 4 f_12), (y 4, aI V 4 f_13), (y 5, aI V 4 f_14), (y 6, aI V 8 f_15), (y 7, aI V 8 f_16), (y 8, aI V 8 f_17), (y 9, aI V 900 f_18), (y 19, .inr (4, [.ref (y 2), .ref (y 20), .ref (y 21), .ref (y 22), .ref (y 23), .ref (y 24)])), (y 20, aI V 2000 f_19), (y 26, .inr (5, [.ref (y 27), .ref (y 28), .ref (y 29), .int 0])), (y 51, .inr (1, [.int py51_0, .int py51_1, .int py51_2, .int py51_3, .int py51_4, .int py51_5, .ref (y 52), .ref (y 53), .ref (y 54), .ref (y 55), .ref (y 56), .ref (y 57), .ref (y 58), .int py51_13, .int py51_14, .int py51_15, .int py51_16, .int py51_17])), (y 52, aI V 4 fy52), (y 53, aI V 4 fy53), (y 54, aI V 4 fy54), (y 55, aI V 8 fy55), (y 56, aI V 8 fy56), (y 57, aI V 8 fy57), (y 58, aI V 900 fy58)]) [0, 2, 3, 4, 5, 6, 7, 8, 9, 18, 19, 1, 10, 11, 12, 13, 14, 15, 16, 17] rfl rfl
  exact fiV hx hb hr hlk hK hP hD hS dX9_goOnFrom_53 (Nat.le_of_ble_eq_true rfl) (Nat.le_of_ble_eq_true rfl) (⟨a2, a3, a4, v_1, v_2, v_3, v_4, v_5, v_6, v_7, v_8, v_9, v_10, v_11, f_12, f_13, f_14, f_15, f_16, f_17, f_18, f_19, 0, bv_2, bv_3, bv_4, bv_7, bv_8, bv_9, bv_10, bv_11, (iv_c (0 : Int32) (by decide)), rfl⟩)
theorem dX9_restore_0 : decode cX9_restore 0 = .ok (.iload_n 1, 1) := by decide +kernel
theorem dX9_restore_1 : decode cX9_restore 1 = .ok (.invokestatic 393, 3) := by decide +kernel
theorem dX9_restore_4 : decode cX9_restore 4 = .ok (.ifCond .ne 6, 3) := by decide +kernel
theorem dX9_restore_7 : decode cX9_restore 7 = .ok (.bipush (-2), 2) := by decide +kernel
theorem dX9_restore_9 : decode cX9_restore 9 = .ok (.ireturn, 1) := by decide +kernel
theorem dX9_restore_10 : decode cX9_restore 10 = .ok (.aload_n 0, 1) := by decide +kernel
theorem dX9_restore_11 : decode cX9_restore 11 = .ok (.getfield 60, 3) := by decide +kernel
theorem dX9_restore_14 : decode cX9_restore 14 = .ok (.iload_n 1, 1) := by decide +kernel
theorem dX9_restore_15 : decode cX9_restore 15 = .ok (.aaload, 1) := by decide +kernel
theorem dX9_restore_16 : decode cX9_restore 16 = .ok (.astore_n 2, 1) := by decide +kernel
theorem dX9_restore_17 : decode cX9_restore 17 = .ok (.aload_n 2, 1) := by decide +kernel
theorem dX9_restore_18 : decode cX9_restore 18 = .ok (.getfield 400, 3) := by decide +kernel
theorem dX9_restore_21 : decode cX9_restore 21 = .ok (.ifCond .ne 6, 3) := by decide +kernel
theorem dX9_restore_27 : decode cX9_restore 27 = .ok (.aload_n 0, 1) := by decide +kernel
theorem dX9_restore_28 : decode cX9_restore 28 = .ok (.aload_n 2, 1) := by decide +kernel
theorem dX9_restore_29 : decode cX9_restore 29 = .ok (.getfield 396, 3) := by decide +kernel
theorem dX9_restore_32 : decode cX9_restore 32 = .ok (.aload_n 2, 1) := by decide +kernel
theorem dX9_restore_33 : decode cX9_restore 33 = .ok (.getfield 397, 3) := by decide +kernel
theorem dX9_restore_36 : decode cX9_restore 36 = .ok (.aload_n 2, 1) := by decide +kernel
theorem dX9_restore_37 : decode cX9_restore 37 = .ok (.getfield 398, 3) := by decide +kernel
theorem dX9_restore_40 : decode cX9_restore 40 = .ok (.aload_n 2, 1) := by decide +kernel
theorem dX9_restore_41 : decode cX9_restore 41 = .ok (.getfield 399, 3) := by decide +kernel
theorem q_3_95 : Cond.code yX9_goOnFrom prog_1_method_5_code 5 none ∈ gw := gw_3 (i := 95) (rfl) rfl
theorem q_3_94 : Cond.instanceMethod yX9_goOnFrom ∈ gw := gw_3 (i := 94) (by decide +kernel) rfl
theorem q_s_22 : Cond.selects "BeaconDelay" yX9_goOnFrom yX9_goOnFrom ∈ gw := gw_s (i := 22) (by decide +kernel) rfl
theorem mt_X9_goOnFrom : MtV yX9_goOnFrom cX9_goOnFrom 5 none 4 := ⟨⟨q_3_95, q_1_1, by decide +kernel, by decide +kernel, by decide +kernel⟩, q_3_94, q_s_22⟩
theorem q_3_92 : Cond.methodLink "BeaconDelay" 93 yX9_goOnFrom ∈ gw := gw_3 (i := 92) (by decide +kernel) rfl
theorem dX9_restore_44 : decode cX9_restore 44 = .ok (.invokevirtual 93, 3) := by decide +kernel
theorem dX9_restore_47 : decode cX9_restore 47 = .ok (.iconst 0, 1) := by decide +kernel
theorem dX9_restore_48 : decode cX9_restore 48 = .ok (.ireturn, 1) := by decide +kernel
theorem dX9_restore_24 : decode cX9_restore 24 = .ok (.bipush (-5), 2) := by decide +kernel
theorem dX9_restore_26 : decode cX9_restore 26 = .ok (.ireturn, 1) := by decide +kernel
set_option maxHeartbeats 4000000 in
set_option maxRecDepth 100000 in
theorem k_X9_restore_0 (l : Launch) (V : GV) (y : Nat → Nat) (a1 : Int32) (py0_1 : Int32) (o11 : Value) (py0_12 : Int32) (py0_13 : Int32) (py0_14 : Int32) (py2_0 : Int32) (py2_1 : Int32) (py2_2 : Int32) (py2_3 : Int32) (py2_4 : Int32) (py2_5 : Int32) (py2_13 : Int32) (py2_14 : Int32) (py2_15 : Int32) (py2_16 : Int32) (py2_17 : Int32) (fy3 : Nat → Int32) (fy4 : Nat → Int32) (fy5 : Nat → Int32) (fy6 : Nat → Int32) (fy7 : Nat → Int32) (fy8 : Nat → Int32) (fy9 : Nat → Int32) (fy20 : Nat → Int32) (py26_3 : Int32) (py41_1 : Int32) (py41_2 : Int32) (py41_3 : Int32) (py41_4 : Int32) (py42_0 : Int32) (py42_1 : Int32) (py42_2 : Int32) (py42_3 : Int32) (py42_4 : Int32) (py42_5 : Int32) (py42_13 : Int32) (py42_14 : Int32) (py42_15 : Int32) (py42_16 : Int32) (py42_17 : Int32) (fy43 : Nat → Int32) (fy44 : Nat → Int32) (fy45 : Nat → Int32) (fy46 : Nat → Int32) (fy47 : Nat → Int32) (fy48 : Nat → Int32) (fy49 : Nat → Int32) (py50_1 : Int32) (py50_2 : Int32) (py50_3 : Int32) (py50_4 : Int32) (py51_0 : Int32) (py51_1 : Int32) (py51_2 : Int32) (py51_3 : Int32) (py51_4 : Int32) (py51_5 : Int32) (py51_13 : Int32) (py51_14 : Int32) (py51_15 : Int32) (py51_16 : Int32) (py51_17 : Int32) (fy52 : Nat → Int32) (fy53 : Nat → Int32) (fy54 : Nat → Int32) (fy55 : Nat → Int32) (fy56 : Nat → Int32) (fy57 : Nat → Int32) (fy58 : Nat → Int32) (bpy0_1 : iv 0 900 py0_1) (bpy2_1 : iv 0 4 py2_1) (bpy2_2 : iv 0 4 py2_2) (bpy2_3 : iv 0 8 py2_3) (bpy2_13 : iv 0 900 py2_13) (bpy2_14 : iv 0 900 py2_14) (bpy2_15 : iv 0 900 py2_15) (bpy2_16 : iv 0 900 py2_16) (bpy2_17 : iv 0 900 py2_17) (bpy26_3 : iv 0 10 py26_3) (bpy42_1 : iv 0 4 py42_1) (bpy42_2 : iv 0 4 py42_2) (bpy42_3 : iv 0 8 py42_3) (bpy42_13 : iv 0 900 py42_13) (bpy42_14 : iv 0 900 py42_14) (bpy42_15 : iv 0 900 py42_15) (bpy42_16 : iv 0 900 py42_16) (bpy42_17 : iv 0 900 py42_17) (bpy51_1 : iv 0 4 py51_1) (bpy51_2 : iv 0 4 py51_2) (bpy51_3 : iv 0 8 py51_3) (bpy51_13 : iv 0 900 py51_13) (bpy51_14 : iv 0 900 py51_14) (bpy51_15 : iv 0 900 py51_15) (bpy51_16 : iv 0 900 py51_16) (bpy51_17 : iv 0 900 py51_17) : Ct l V yX9_restore (.code yX9_restore cX9_restore 3 (some .int)) 5 [.ref (y 0), .int a1] [(y 0, .inr (9, [.ref (y 1), .int py0_1, .ref (y 2), .ref (y 10), .ref (y 19), .ref (y 25), .ref (y 26), .ref (y 30), .ref (y 31), .ref (y 32), .null, o11, .int py0_12, .int py0_13, .int py0_14])), (y 2, .inr (1, [.int py2_0, .int py2_1, .int py2_2, .int py2_3, .int py2_4, .int py2_5, .ref (y 3), .ref (y 4), .ref (y 5), .ref (y 6), .ref (y 7), .ref (y 8), .ref (y 9), .int py2_13, .int py2_14, .int py2_15, .int py2_16, .int py2_17])), (y 3, aI V 4 fy3), (y 4, aI V 4 fy4), (y 5, aI V 4 fy5), (y 6, aI V 8 fy6), (y 7, aI V 8 fy7), (y 8, aI V 8 fy8), (y 9, aI V 900 fy9), (y 19, .inr (4, [.ref (y 2), .ref (y 20), .ref (y 21), .ref (y 22), .ref (y 23), .ref (y 24)])), (y 20, aI V 2000 fy20), (y 26, .inr (5, [.ref (y 27), .ref (y 28), .ref (y 29), .int py26_3])), (y 31, aM V 2 (va_up (va_up (fun _ => none) 0 (some (y 41))) 1 (some (y 50)))), (y 41, .inr (3, [.ref (y 42), .int py41_1, .int py41_2, .int py41_3, .int py41_4])), (y 42, .inr (1, [.int py42_0, .int py42_1, .int py42_2, .int py42_3, .int py42_4, .int py42_5, .ref (y 43), .ref (y 44), .ref (y 45), .ref (y 46), .ref (y 47), .ref (y 48), .ref (y 49), .int py42_13, .int py42_14, .int py42_15, .int py42_16, .int py42_17])), (y 43, aI V 4 fy43), (y 44, aI V 4 fy44), (y 45, aI V 4 fy45), (y 46, aI V 8 fy46), (y 47, aI V 8 fy47), (y 48, aI V 8 fy48), (y 49, aI V 900 fy49), (y 50, .inr (3, [.ref (y 51), .int py50_1, .int py50_2, .int py50_3, .int py50_4])), (y 51, .inr (1, [.int py51_0, .int py51_1, .int py51_2, .int py51_3, .int py51_4, .int py51_5, .ref (y 52), .ref (y 53), .ref (y 54), .ref (y 55), .ref (y 56), .ref (y 57), .ref (y 58), .int py51_13, .int py51_14, .int py51_15, .int py51_16, .int py51_17])), (y 52, aI V 4 fy52), (y 53, aI V 4 fy53), (y 54, aI V 4 fy54), (y 55, aI V 8 fy55), (y 56, aI V 8 fy56), (y 57, aI V 8 fy57), (y 58, aI V 900 fy58)] 0 0 (QI V (fun (r : Int32) (w : va_W) => ∃ (v0 : Int32) (v1 : Int32) (v2 : Int32) (v3 : Int32) (v4 : Int32) (v5 : Int32) (v6 : Int32) (v7 : Int32) (v8 : Int32) (v9 : Int32) (v10 : Int32) (v11 : Int32) (v12 : Int32) (v13 : Int32) (g14 : Nat → Int32) (g15 : Nat → Int32) (g16 : Nat → Int32) (g17 : Nat → Int32) (g18 : Nat → Int32) (g19 : Nat → Int32) (g20 : Nat → Int32) (g21 : Nat → Int32) (v22 : Int32), iv 0 4 v4 ∧ iv 0 4 v5 ∧ iv 0 8 v6 ∧ iv 0 900 v9 ∧ iv 0 900 v10 ∧ iv 0 900 v11 ∧ iv 0 900 v12 ∧ iv 0 900 v13 ∧ iv 0 10 v22 ∧ iv (-5) 0 r ∧ w = [(y 0, .inr (9, [.ref (y 1), .int py0_1, .ref (y 2), .ref (y 10), .ref (y 19), .ref (y 25), .ref (y 26), .ref (y 30), .ref (y 31), .ref (y 32), .null, o11, .int v0, .int v1, .int v2])), (y 2, .inr (1, [.int v3, .int v4, .int v5, .int v6, .int v7, .int v8, .ref (y 3), .ref (y 4), .ref (y 5), .ref (y 6), .ref (y 7), .ref (y 8), .ref (y 9), .int v9, .int v10, .int v11, .int v12, .int v13])), (y 3, aI V 4 g14), (y 4, aI V 4 g15), (y 5, aI V 4 g16), (y 6, aI V 8 g17), (y 7, aI V 8 g18), (y 8, aI V 8 g19), (y 9, aI V 900 g20), (y 19, .inr (4, [.ref (y 2), .ref (y 20), .ref (y 21), .ref (y 22), .ref (y 23), .ref (y 24)])), (y 20, aI V 2000 g21), (y 26, .inr (5, [.ref (y 27), .ref (y 28), .ref (y 29), .int v22])), (y 31, aM V 2 (va_up (va_up (fun _ => none) 0 (some (y 41))) 1 (some (y 50)))), (y 41, .inr (3, [.ref (y 42), .int py41_1, .int py41_2, .int py41_3, .int py41_4])), (y 42, .inr (1, [.int py42_0, .int py42_1, .int py42_2, .int py42_3, .int py42_4, .int py42_5, .ref (y 43), .ref (y 44), .ref (y 45), .ref (y 46), .ref (y 47), .ref (y 48), .ref (y 49), .int py42_13, .int py42_14, .int py42_15, .int py42_16, .int py42_17])), (y 43, aI V 4 fy43), (y 44, aI V 4 fy44), (y 45, aI V 4 fy45), (y 46, aI V 8 fy46), (y 47, aI V 8 fy47), (y 48, aI V 8 fy48), (y 49, aI V 900 fy49), (y 50, .inr (3, [.ref (y 51), .int py50_1, .int py50_2, .int py50_3, .int py50_4])), (y 51, .inr (1, [.int py51_0, .int py51_1, .int py51_2, .int py51_3, .int py51_4, .int py51_5, .ref (y 52), .ref (y 53), .ref (y 54), .ref (y 55), .ref (y 56), .ref (y 57), .ref (y 58), .int py51_13, .int py51_14, .int py51_15, .int py51_16, .int py51_17])), (y 52, aI V 4 fy52), (y 53, aI V 4 fy53), (y 54, aI V 4 fy54), (y 55, aI V 8 fy55), (y 56, aI V 8 fy56), (y 57, aI V 8 fy57), (y 58, aI V 900 fy58)])) := by
  refine Ct.of (by decide) (Nat.le_of_ble_eq_true rfl) (fun p e s m below meth c A ls hx hb hr hml hown hlk hnm hg hP hK hD hE hA hS hl => ?_)
  have hl : lv_has ls 3 [(0, .ref (y 0)), (1, .int a1)] := hl
  refine lv_iload_n hx hb dX9_restore_0 rfl (lv_at hl 1 rfl) ?_
  refine jnI (wr := [(y 0, .inr (9, [.ref (y 1), .int py0_1, .ref (y 2), .ref (y 10), .ref (y 19), .ref (y 25), .ref (y 26), .ref (y 30), .ref (y 31), .ref (y 32), .null, o11, .int py0_12, .int py0_13, .int py0_14])), (y 2, .inr (1, [.int py2_0, .int py2_1, .int py2_2, .int py2_3, .int py2_4, .int py2_5, .ref (y 3), .ref (y 4), .ref (y 5), .ref (y 6), .ref (y 7), .ref (y 8), .ref (y 9), .int py2_13, .int py2_14, .int py2_15, .int py2_16, .int py2_17])), (y 3, aI V 4 fy3), (y 4, aI V 4 fy4), (y 5, aI V 4 fy5), (y 6, aI V 8 fy6), (y 7, aI V 8 fy7), (y 8, aI V 8 fy8), (y 9, aI V 900 fy9), (y 19, .inr (4, [.ref (y 2), .ref (y 20), .ref (y 21), .ref (y 22), .ref (y 23), .ref (y 24)])), (y 20, aI V 2000 fy20), (y 26, .inr (5, [.ref (y 27), .ref (y 28), .ref (y 29), .int py26_3])), (y 31, aM V 2 (va_up (va_up (fun _ => none) 0 (some (y 41))) 1 (some (y 50)))), (y 41, .inr (3, [.ref (y 42), .int py41_1, .int py41_2, .int py41_3, .int py41_4])), (y 42, .inr (1, [.int py42_0, .int py42_1, .int py42_2, .int py42_3, .int py42_4, .int py42_5, .ref (y 43), .ref (y 44), .ref (y 45), .ref (y 46), .ref (y 47), .ref (y 48), .ref (y 49), .int py42_13, .int py42_14, .int py42_15, .int py42_16, .int py42_17])), (y 43, aI V 4 fy43), (y 44, aI V 4 fy44), (y 45, aI V 4 fy45), (y 46, aI V 8 fy46), (y 47, aI V 8 fy47), (y 48, aI V 8 fy48), (y 49, aI V 900 fy49), (y 50, .inr (3, [.ref (y 51), .int py50_1, .int py50_2, .int py50_3, .int py50_4])), (y 51, .inr (1, [.int py51_0, .int py51_1, .int py51_2, .int py51_3, .int py51_4, .int py51_5, .ref (y 52), .ref (y 53), .ref (y 54), .ref (y 55), .ref (y 56), .ref (y 57), .ref (y 58), .int py51_13, .int py51_14, .int py51_15, .int py51_16, .int py51_17])), (y 52, aI V 4 fy52), (y 53, aI V 4 fy53), (y 54, aI V 4 fy54), (y 55, aI V 8 fy55), (y 56, aI V 8 fy56), (y 57, aI V 8 fy57), (y 58, aI V 900 fy58)]) (rnS (rest := []) ⟨hx, hb, hml, hown, hg⟩ (k_X9_isImage_0 l V a1) mt_X9_isImage q_5_202 ⟨Nat.le_of_ble_eq_true rfl, Nat.le_of_ble_eq_true rfl⟩ hK hP hD hS hA hE [] rfl rfl rfl hl.1 rfl (Nat.le_of_ble_eq_true rfl) dX9_restore_1 ⟨Nat.le_of_ble_eq_true rfl, Nat.le_of_ble_eq_true rfl⟩) hP hD hS hA [] [0, 1, 2, 3, 4, 5, 6, 7, 8, 9, 10, 11, 12, 13, 14, 15, 16, 17, 18, 19, 20, 21, 22, 23, 24, 25, 26, 27, 28, 29, 30] rfl rfl rfl (by decide) (fun r_1 w H locs hw hP hD hS => ?_)
  rcases hw with ⟨c_2, rfl, rfl⟩ | ⟨c_3, c_4, rfl, rfl⟩ | ⟨c_5, c_6, rfl, rfl⟩
  · have hP : va_P V.1 vwCl [(y 0, .inr (9, [.ref (y 1), .int py0_1, .ref (y 2), .ref (y 10), .ref (y 19), .ref (y 25), .ref (y 26), .ref (y 30), .ref (y 31), .ref (y 32), .null, o11, .int py0_12, .int py0_13, .int py0_14])), (y 2, .inr (1, [.int py2_0, .int py2_1, .int py2_2, .int py2_3, .int py2_4, .int py2_5, .ref (y 3), .ref (y 4), .ref (y 5), .ref (y 6), .ref (y 7), .ref (y 8), .ref (y 9), .int py2_13, .int py2_14, .int py2_15, .int py2_16, .int py2_17])), (y 3, aI V 4 fy3), (y 4, aI V 4 fy4), (y 5, aI V 4 fy5), (y 6, aI V 8 fy6), (y 7, aI V 8 fy7), (y 8, aI V 8 fy8), (y 9, aI V 900 fy9), (y 19, .inr (4, [.ref (y 2), .ref (y 20), .ref (y 21), .ref (y 22), .ref (y 23), .ref (y 24)])), (y 20, aI V 2000 fy20), (y 26, .inr (5, [.ref (y 27), .ref (y 28), .ref (y 29), .int py26_3])), (y 31, aM V 2 (va_up (va_up (fun _ => none) 0 (some (y 41))) 1 (some (y 50)))), (y 41, .inr (3, [.ref (y 42), .int py41_1, .int py41_2, .int py41_3, .int py41_4])), (y 42, .inr (1, [.int py42_0, .int py42_1, .int py42_2, .int py42_3, .int py42_4, .int py42_5, .ref (y 43), .ref (y 44), .ref (y 45), .ref (y 46), .ref (y 47), .ref (y 48), .ref (y 49), .int py42_13, .int py42_14, .int py42_15, .int py42_16, .int py42_17])), (y 43, aI V 4 fy43), (y 44, aI V 4 fy44), (y 45, aI V 4 fy45), (y 46, aI V 8 fy46), (y 47, aI V 8 fy47), (y 48, aI V 8 fy48), (y 49, aI V 900 fy49), (y 50, .inr (3, [.ref (y 51), .int py50_1, .int py50_2, .int py50_3, .int py50_4])), (y 51, .inr (1, [.int py51_0, .int py51_1, .int py51_2, .int py51_3, .int py51_4, .int py51_5, .ref (y 52), .ref (y 53), .ref (y 54), .ref (y 55), .ref (y 56), .ref (y 57), .ref (y 58), .int py51_13, .int py51_14, .int py51_15, .int py51_16, .int py51_17])), (y 52, aI V 4 fy52), (y 53, aI V 4 fy53), (y 54, aI V 4 fy54), (y 55, aI V 8 fy55), (y 56, aI V 8 fy56), (y 57, aI V 8 fy57), (y 58, aI V 900 fy58)] H := hP
    have hD : va_D A [(y 0, .inr (9, [.ref (y 1), .int py0_1, .ref (y 2), .ref (y 10), .ref (y 19), .ref (y 25), .ref (y 26), .ref (y 30), .ref (y 31), .ref (y 32), .null, o11, .int py0_12, .int py0_13, .int py0_14])), (y 2, .inr (1, [.int py2_0, .int py2_1, .int py2_2, .int py2_3, .int py2_4, .int py2_5, .ref (y 3), .ref (y 4), .ref (y 5), .ref (y 6), .ref (y 7), .ref (y 8), .ref (y 9), .int py2_13, .int py2_14, .int py2_15, .int py2_16, .int py2_17])), (y 3, aI V 4 fy3), (y 4, aI V 4 fy4), (y 5, aI V 4 fy5), (y 6, aI V 8 fy6), (y 7, aI V 8 fy7), (y 8, aI V 8 fy8), (y 9, aI V 900 fy9), (y 19, .inr (4, [.ref (y 2), .ref (y 20), .ref (y 21), .ref (y 22), .ref (y 23), .ref (y 24)])), (y 20, aI V 2000 fy20), (y 26, .inr (5, [.ref (y 27), .ref (y 28), .ref (y 29), .int py26_3])), (y 31, aM V 2 (va_up (va_up (fun _ => none) 0 (some (y 41))) 1 (some (y 50)))), (y 41, .inr (3, [.ref (y 42), .int py41_1, .int py41_2, .int py41_3, .int py41_4])), (y 42, .inr (1, [.int py42_0, .int py42_1, .int py42_2, .int py42_3, .int py42_4, .int py42_5, .ref (y 43), .ref (y 44), .ref (y 45), .ref (y 46), .ref (y 47), .ref (y 48), .ref (y 49), .int py42_13, .int py42_14, .int py42_15, .int py42_16, .int py42_17])), (y 43, aI V 4 fy43), (y 44, aI V 4 fy44), (y 45, aI V 4 fy45), (y 46, aI V 8 fy46), (y 47, aI V 8 fy47), (y 48, aI V 8 fy48), (y 49, aI V 900 fy49), (y 50, .inr (3, [.ref (y 51), .int py50_1, .int py50_2, .int py50_3, .int py50_4])), (y 51, .inr (1, [.int py51_0, .int py51_1, .int py51_2, .int py51_3, .int py51_4, .int py51_5, .ref (y 52), .ref (y 53), .ref (y 54), .ref (y 55), .ref (y 56), .ref (y 57), .ref (y 58), .int py51_13, .int py51_14, .int py51_15, .int py51_16, .int py51_17])), (y 52, aI V 4 fy52), (y 53, aI V 4 fy53), (y 54, aI V 4 fy54), (y 55, aI V 8 fy55), (y 56, aI V 8 fy56), (y 57, aI V 8 fy57), (y 58, aI V 900 fy58)] := hD
    have b_7 : iv (-2147483648) (-1) a1 := iv_l1 c_2 (iv_top a1) (iv_c (0 : Int32) (a := 0) (b := 0) (by decide)) (by decide)
    refine lv_if_ne (tgt := 10) hx hb dX9_restore_4 (by decide) (fun c_9 => absurd c_9 (by decide)) (fun _ => ?_)
    refine lv_bipush (v := (-2)) hx hb dX9_restore_7 (by decide) ?_
    exact fiI hx hb hr hlk hK hP hD hS dX9_restore_9 (Nat.le_of_ble_eq_true rfl) (Nat.le_of_ble_eq_true rfl) (⟨py0_12, py0_13, py0_14, py2_0, py2_1, py2_2, py2_3, py2_4, py2_5, py2_13, py2_14, py2_15, py2_16, py2_17, fy3, fy4, fy5, fy6, fy7, fy8, fy9, fy20, py26_3, bpy2_1, bpy2_2, bpy2_3, bpy2_13, bpy2_14, bpy2_15, bpy2_16, bpy2_17, bpy26_3, (iv_c ((-2) : Int32) (by decide)), rfl⟩)
  · have hP : va_P V.1 vwCl [(y 0, .inr (9, [.ref (y 1), .int py0_1, .ref (y 2), .ref (y 10), .ref (y 19), .ref (y 25), .ref (y 26), .ref (y 30), .ref (y 31), .ref (y 32), .null, o11, .int py0_12, .int py0_13, .int py0_14])), (y 2, .inr (1, [.int py2_0, .int py2_1, .int py2_2, .int py2_3, .int py2_4, .int py2_5, .ref (y 3), .ref (y 4), .ref (y 5), .ref (y 6), .ref (y 7), .ref (y 8), .ref (y 9), .int py2_13, .int py2_14, .int py2_15, .int py2_16, .int py2_17])), (y 3, aI V 4 fy3), (y 4, aI V 4 fy4), (y 5, aI V 4 fy5), (y 6, aI V 8 fy6), (y 7, aI V 8 fy7), (y 8, aI V 8 fy8), (y 9, aI V 900 fy9), (y 19, .inr (4, [.ref (y 2), .ref (y 20), .ref (y 21), .ref (y 22), .ref (y 23), .ref (y 24)])), (y 20, aI V 2000 fy20), (y 26, .inr (5, [.ref (y 27), .ref (y 28), .ref (y 29), .int py26_3])), (y 31, aM V 2 (va_up (va_up (fun _ => none) 0 (some (y 41))) 1 (some (y 50)))), (y 41, .inr (3, [.ref (y 42), .int py41_1, .int py41_2, .int py41_3, .int py41_4])), (y 42, .inr (1, [.int py42_0, .int py42_1, .int py42_2, .int py42_3, .int py42_4, .int py42_5, .ref (y 43), .ref (y 44), .ref (y 45), .ref (y 46), .ref (y 47), .ref (y 48), .ref (y 49), .int py42_13, .int py42_14, .int py42_15, .int py42_16, .int py42_17])), (y 43, aI V 4 fy43), (y 44, aI V 4 fy44), (y 45, aI V 4 fy45), (y 46, aI V 8 fy46), (y 47, aI V 8 fy47), (y 48, aI V 8 fy48), (y 49, aI V 900 fy49), (y 50, .inr (3, [.ref (y 51), .int py50_1, .int py50_2, .int py50_3, .int py50_4])), (y 51, .inr (1, [.int py51_0, .int py51_1, .int py51_2, .int py51_3, .int py51_4, .int py51_5, .ref (y 52), .ref (y 53), .ref (y 54), .ref (y 55), .ref (y 56), .ref (y 57), .ref (y 58), .int py51_13, .int py51_14, .int py51_15, .int py51_16, .int py51_17])), (y 52, aI V 4 fy52), (y 53, aI V 4 fy53), (y 54, aI V 4 fy54), (y 55, aI V 8 fy55), (y 56, aI V 8 fy56), (y 57, aI V 8 fy57), (y 58, aI V 900 fy58)] H := hP
    have hD : va_D A [(y 0, .inr (9, [.ref (y 1), .int py0_1, .ref (y 2), .ref (y 10), .ref (y 19), .ref (y 25), .ref (y 26), .ref (y 30), .ref (y 31), .ref (y 32), .null, o11, .int py0_12, .int py0_13, .int py0_14])), (y 2, .inr (1, [.int py2_0, .int py2_1, .int py2_2, .int py2_3, .int py2_4, .int py2_5, .ref (y 3), .ref (y 4), .ref (y 5), .ref (y 6), .ref (y 7), .ref (y 8), .ref (y 9), .int py2_13, .int py2_14, .int py2_15, .int py2_16, .int py2_17])), (y 3, aI V 4 fy3), (y 4, aI V 4 fy4), (y 5, aI V 4 fy5), (y 6, aI V 8 fy6), (y 7, aI V 8 fy7), (y 8, aI V 8 fy8), (y 9, aI V 900 fy9), (y 19, .inr (4, [.ref (y 2), .ref (y 20), .ref (y 21), .ref (y 22), .ref (y 23), .ref (y 24)])), (y 20, aI V 2000 fy20), (y 26, .inr (5, [.ref (y 27), .ref (y 28), .ref (y 29), .int py26_3])), (y 31, aM V 2 (va_up (va_up (fun _ => none) 0 (some (y 41))) 1 (some (y 50)))), (y 41, .inr (3, [.ref (y 42), .int py41_1, .int py41_2, .int py41_3, .int py41_4])), (y 42, .inr (1, [.int py42_0, .int py42_1, .int py42_2, .int py42_3, .int py42_4, .int py42_5, .ref (y 43), .ref (y 44), .ref (y 45), .ref (y 46), .ref (y 47), .ref (y 48), .ref (y 49), .int py42_13, .int py42_14, .int py42_15, .int py42_16, .int py42_17])), (y 43, aI V 4 fy43), (y 44, aI V 4 fy44), (y 45, aI V 4 fy45), (y 46, aI V 8 fy46), (y 47, aI V 8 fy47), (y 48, aI V 8 fy48), (y 49, aI V 900 fy49), (y 50, .inr (3, [.ref (y 51), .int py50_1, .int py50_2, .int py50_3, .int py50_4])), (y 51, .inr (1, [.int py51_0, .int py51_1, .int py51_2, .int py51_3, .int py51_4, .int py51_5, .ref (y 52), .ref (y 53), .ref (y 54), .ref (y 55), .ref (y 56), .ref (y 57), .ref (y 58), .int py51_13, .int py51_14, .int py51_15, .int py51_16, .int py51_17])), (y 52, aI V 4 fy52), (y 53, aI V 4 fy53), (y 54, aI V 4 fy54), (y 55, aI V 8 fy55), (y 56, aI V 8 fy56), (y 57, aI V 8 fy57), (y 58, aI V 900 fy58)] := hD
    have b_10 : iv 0 2147483647 a1 := iv_e2 (Int32.not_lt.mp c_3) (iv_c (0 : Int32) (a := 0) (b := 0) (by decide)) (iv_top a1) (by decide)
    have b_11 : iv 2 2147483647 a1 := iv_e2 c_4 (iv_c (2 : Int32) (a := 2) (b := 2) (by decide)) b_10 (by decide)
    refine lv_if_ne (tgt := 10) hx hb dX9_restore_4 (by decide) (fun c_13 => absurd c_13 (by decide)) (fun _ => ?_)
    refine lv_bipush (v := (-2)) hx hb dX9_restore_7 (by decide) ?_
    exact fiI hx hb hr hlk hK hP hD hS dX9_restore_9 (Nat.le_of_ble_eq_true rfl) (Nat.le_of_ble_eq_true rfl) (⟨py0_12, py0_13, py0_14, py2_0, py2_1, py2_2, py2_3, py2_4, py2_5, py2_13, py2_14, py2_15, py2_16, py2_17, fy3, fy4, fy5, fy6, fy7, fy8, fy9, fy20, py26_3, bpy2_1, bpy2_2, bpy2_3, bpy2_13, bpy2_14, bpy2_15, bpy2_16, bpy2_17, bpy26_3, (iv_c ((-2) : Int32) (by decide)), rfl⟩)
  · have hP : va_P V.1 vwCl [(y 0, .inr (9, [.ref (y 1), .int py0_1, .ref (y 2), .ref (y 10), .ref (y 19), .ref (y 25), .ref (y 26), .ref (y 30), .ref (y 31), .ref (y 32), .null, o11, .int py0_12, .int py0_13, .int py0_14])), (y 2, .inr (1, [.int py2_0, .int py2_1, .int py2_2, .int py2_3, .int py2_4, .int py2_5, .ref (y 3), .ref (y 4), .ref (y 5), .ref (y 6), .ref (y 7), .ref (y 8), .ref (y 9), .int py2_13, .int py2_14, .int py2_15, .int py2_16, .int py2_17])), (y 3, aI V 4 fy3), (y 4, aI V 4 fy4), (y 5, aI V 4 fy5), (y 6, aI V 8 fy6), (y 7, aI V 8 fy7), (y 8, aI V 8 fy8), (y 9, aI V 900 fy9), (y 19, .inr (4, [.ref (y 2), .ref (y 20), .ref (y 21), .ref (y 22), .ref (y 23), .ref (y 24)])), (y 20, aI V 2000 fy20), (y 26, .inr (5, [.ref (y 27), .ref (y 28), .ref (y 29), .int py26_3])), (y 31, aM V 2 (va_up (va_up (fun _ => none) 0 (some (y 41))) 1 (some (y 50)))), (y 41, .inr (3, [.ref (y 42), .int py41_1, .int py41_2, .int py41_3, .int py41_4])), (y 42, .inr (1, [.int py42_0, .int py42_1, .int py42_2, .int py42_3, .int py42_4, .int py42_5, .ref (y 43), .ref (y 44), .ref (y 45), .ref (y 46), .ref (y 47), .ref (y 48), .ref (y 49), .int py42_13, .int py42_14, .int py42_15, .int py42_16, .int py42_17])), (y 43, aI V 4 fy43), (y 44, aI V 4 fy44), (y 45, aI V 4 fy45), (y 46, aI V 8 fy46), (y 47, aI V 8 fy47), (y 48, aI V 8 fy48), (y 49, aI V 900 fy49), (y 50, .inr (3, [.ref (y 51), .int py50_1, .int py50_2, .int py50_3, .int py50_4])), (y 51, .inr (1, [.int py51_0, .int py51_1, .int py51_2, .int py51_3, .int py51_4, .int py51_5, .ref (y 52), .ref (y 53), .ref (y 54), .ref (y 55), .ref (y 56), .ref (y 57), .ref (y 58), .int py51_13, .int py51_14, .int py51_15, .int py51_16, .int py51_17])), (y 52, aI V 4 fy52), (y 53, aI V 4 fy53), (y 54, aI V 4 fy54), (y 55, aI V 8 fy55), (y 56, aI V 8 fy56), (y 57, aI V 8 fy57), (y 58, aI V 900 fy58)] H := hP
    have hD : va_D A [(y 0, .inr (9, [.ref (y 1), .int py0_1, .ref (y 2), .ref (y 10), .ref (y 19), .ref (y 25), .ref (y 26), .ref (y 30), .ref (y 31), .ref (y 32), .null, o11, .int py0_12, .int py0_13, .int py0_14])), (y 2, .inr (1, [.int py2_0, .int py2_1, .int py2_2, .int py2_3, .int py2_4, .int py2_5, .ref (y 3), .ref (y 4), .ref (y 5), .ref (y 6), .ref (y 7), .ref (y 8), .ref (y 9), .int py2_13, .int py2_14, .int py2_15, .int py2_16, .int py2_17])), (y 3, aI V 4 fy3), (y 4, aI V 4 fy4), (y 5, aI V 4 fy5), (y 6, aI V 8 fy6), (y 7, aI V 8 fy7), (y 8, aI V 8 fy8), (y 9, aI V 900 fy9), (y 19, .inr (4, [.ref (y 2), .ref (y 20), .ref (y 21), .ref (y 22), .ref (y 23), .ref (y 24)])), (y 20, aI V 2000 fy20), (y 26, .inr (5, [.ref (y 27), .ref (y 28), .ref (y 29), .int py26_3])), (y 31, aM V 2 (va_up (va_up (fun _ => none) 0 (some (y 41))) 1 (some (y 50)))), (y 41, .inr (3, [.ref (y 42), .int py41_1, .int py41_2, .int py41_3, .int py41_4])), (y 42, .inr (1, [.int py42_0, .int py42_1, .int py42_2, .int py42_3, .int py42_4, .int py42_5, .ref (y 43), .ref (y 44), .ref (y 45), .ref (y 46), .ref (y 47), .ref (y 48), .ref (y 49), .int py42_13, .int py42_14, .int py42_15, .int py42_16, .int py42_17])), (y 43, aI V 4 fy43), (y 44, aI V 4 fy44), (y 45, aI V 4 fy45), (y 46, aI V 8 fy46), (y 47, aI V 8 fy47), (y 48, aI V 8 fy48), (y 49, aI V 900 fy49), (y 50, .inr (3, [.ref (y 51), .int py50_1, .int py50_2, .int py50_3, .int py50_4])), (y 51, .inr (1, [.int py51_0, .int py51_1, .int py51_2, .int py51_3, .int py51_4, .int py51_5, .ref (y 52), .ref (y 53), .ref (y 54), .ref (y 55), .ref (y 56), .ref (y 57), .ref (y 58), .int py51_13, .int py51_14, .int py51_15, .int py51_16, .int py51_17])), (y 52, aI V 4 fy52), (y 53, aI V 4 fy53), (y 54, aI V 4 fy54), (y 55, aI V 8 fy55), (y 56, aI V 8 fy56), (y 57, aI V 8 fy57), (y 58, aI V 900 fy58)] := hD
    have b_14 : iv 0 2147483647 a1 := iv_e2 (Int32.not_lt.mp c_5) (iv_c (0 : Int32) (a := 0) (b := 0) (by decide)) (iv_top a1) (by decide)
    have b_15 : iv 0 1 a1 := iv_l1 (Int32.not_le.mp c_6) b_14 (iv_c (2 : Int32) (a := 2) (b := 2) (by decide)) (by decide)
    refine lv_if_ne (tgt := 10) hx hb dX9_restore_4 (by decide) (fun _ => ?_) (fun c_17 => absurd c_17 (by decide))
    refine lv_aload_n hx hb dX9_restore_10 rfl (lv_at hl 0 rfl) ?_
    refine va_get (ci := 9) (v := .ref (y 31)) (C := RX9) (T := TX9) (N := 15) hx hb hg inX9 hown hK hP 0 rfl rfl 8 (by decide) (hg _ q_2_44) (fun _ h9 => h9) rfl dX9_restore_11 ?_
    refine lv_iload_n hx hb dX9_restore_14 rfl (lv_at hl 1 rfl) ?_
    have c_18 : a1 = 0 ∨ a1 = 1 := by have q9 := b_15; unfold iv at q9; simp only [tI_eq, (by decide : (0 : Int32).toInt = 0), (by decide : (1 : Int32).toInt = 1)]; omega
    rcases c_18 with rfl | rfl
    · refine va_aldq hx hb hK hP 12 5 rfl rfl (vin (by decide +kernel)) dX9_restore_15 ?_
      refine W.eq (g2 := F0 m 16 ls (.ref (y 41) :: [])) rfl ?_
      refine lv_astore_n (lv' := [(2, .ref (y 41)), (0, .ref (y 0)), (1, .int 0)]) hx hb dX9_restore_16 rfl hl (by decide) rfl (fun ls hl => ?_)
      refine lv_aload_n hx hb dX9_restore_17 rfl (lv_at hl 0 rfl) ?_
      refine va_get (ci := 3) (v := .int py41_4) (C := RX3) (T := TX3) (N := 5) hx hb hg inX3 hown hK hP 13 rfl rfl 4 (by decide) (hg _ q_2_24) (fun _ h9 => h9) rfl dX9_restore_18 ?_
      refine lv_if_ne (tgt := 27) hx hb dX9_restore_21 (by decide) (fun c_19 => ?_) (fun c_19 => ?_)
      · refine lv_aload_n hx hb dX9_restore_27 rfl (lv_at hl 1 rfl) ?_
        refine lv_aload_n hx hb dX9_restore_28 rfl (lv_at hl 0 rfl) ?_
        refine va_get (ci := 3) (v := .ref (y 42)) (C := RX3) (T := TX3) (N := 5) hx hb hg inX3 hown hK hP 13 rfl rfl 0 (by decide) (hg _ q_2_20) (fun _ h9 => h9) rfl dX9_restore_29 ?_
        refine lv_aload_n hx hb dX9_restore_32 rfl (lv_at hl 0 rfl) ?_
        refine va_get (ci := 3) (v := .int py41_1) (C := RX3) (T := TX3) (N := 5) hx hb hg inX3 hown hK hP 13 rfl rfl 1 (by decide) (hg _ q_2_21) (fun _ h9 => h9) rfl dX9_restore_33 ?_
        refine lv_aload_n hx hb dX9_restore_36 rfl (lv_at hl 0 rfl) ?_
        refine va_get (ci := 3) (v := .int py41_2) (C := RX3) (T := TX3) (N := 5) hx hb hg inX3 hown hK hP 13 rfl rfl 2 (by decide) (hg _ q_2_22) (fun _ h9 => h9) rfl dX9_restore_37 ?_
        refine lv_aload_n hx hb dX9_restore_40 rfl (lv_at hl 0 rfl) ?_
        refine va_get (ci := 3) (v := .int py41_3) (C := RX3) (T := TX3) (N := 5) hx hb hg inX3 hown hK hP 13 rfl rfl 3 (by decide) (hg _ q_2_23) (fun _ h9 => h9) rfl dX9_restore_41 ?_
        refine jnV (wr := [(y 31, aM V 2 (va_up (va_up (fun _ => none) 0 (some (y 41))) 1 (some (y 50)))), (y 41, .inr (3, [.ref (y 42), .int py41_1, .int py41_2, .int py41_3, .int py41_4])), (y 50, .inr (3, [.ref (y 51), .int py50_1, .int py50_2, .int py50_3, .int py50_4])), (y 51, .inr (1, [.int py51_0, .int py51_1, .int py51_2, .int py51_3, .int py51_4, .int py51_5, .ref (y 52), .ref (y 53), .ref (y 54), .ref (y 55), .ref (y 56), .ref (y 57), .ref (y 58), .int py51_13, .int py51_14, .int py51_15, .int py51_16, .int py51_17])), (y 52, aI V 4 fy52), (y 53, aI V 4 fy53), (y 54, aI V 4 fy54), (y 55, aI V 8 fy55), (y 56, aI V 8 fy56), (y 57, aI V 8 fy57), (y 58, aI V 900 fy58)]) (rnV (rest := []) ⟨hx, hb, hml, hown, hg⟩ (k_X9_goOnFrom_0 l V y py41_1 py41_2 py41_3 py0_1 o11 py0_12 py0_13 py0_14 py2_0 py2_1 py2_2 py2_3 py2_4 py2_5 py2_13 py2_14 py2_15 py2_16 py2_17 fy3 fy4 fy5 fy6 fy7 fy8 fy9 fy20 py26_3 py42_0 py42_1 py42_2 py42_3 py42_4 py42_5 py42_13 py42_14 py42_15 py42_16 py42_17 fy43 fy44 fy45 fy46 fy47 fy48 fy49 bpy0_1 bpy2_1 bpy2_2 bpy2_3 bpy2_13 bpy2_14 bpy2_15 bpy2_16 bpy2_17 bpy26_3 bpy42_1 bpy42_2 bpy42_3 bpy42_13 bpy42_14 bpy42_15 bpy42_16 bpy42_17) mt_X9_goOnFrom q_3_92 ⟨Nat.le_of_ble_eq_true rfl, Nat.le_of_ble_eq_true rfl⟩ hK hP hD hS hA hE [0, 1, 2, 3, 4, 5, 6, 7, 8, 9, 10, 11, 14, 15, 16, 17, 18, 19, 20, 21] rfl rfl 0 rfl rfl rfl rfl hl.1 rfl (Nat.le_of_ble_eq_true rfl) dX9_restore_44 ⟨Nat.le_of_ble_eq_true rfl, Nat.le_of_ble_eq_true rfl⟩) hP hD hS hA [0, 1, 2, 3, 4, 5, 6, 7, 8, 9, 10, 11, 14, 15, 16, 17, 18, 19, 20, 21] [12, 13, 22, 23, 24, 25, 26, 27, 28, 29, 30] rfl rfl rfl (by decide) (fun  w H locs hw hP hD hS => ?_)
        obtain ⟨v_20, v_21, v_22, v_23, v_24, v_25, v_26, v_27, v_28, v_29, v_30, v_31, v_32, v_33, f_34, f_35, f_36, f_37, f_38, f_39, f_40, f_41, v_42, bv_24, bv_25, bv_26, bv_29, bv_30, bv_31, bv_32, bv_33, bv_42, rfl⟩ := hw
        have hP : va_P V.1 vwCl [(y 31, aM V 2 (va_up (va_up (fun _ => none) 0 (some (y 41))) 1 (some (y 50)))), (y 41, .inr (3, [.ref (y 42), .int py41_1, .int py41_2, .int py41_3, .int py41_4])), (y 50, .inr (3, [.ref (y 51), .int py50_1, .int py50_2, .int py50_3, .int py50_4])), (y 51, .inr (1, [.int py51_0, .int py51_1, .int py51_2, .int py51_3, .int py51_4, .int py51_5, .ref (y 52), .ref (y 53), .ref (y 54), .ref (y 55), .ref (y 56), .ref (y 57), .ref (y 58), .int py51_13, .int py51_14, .int py51_15, .int py51_16, .int py51_17])), (y 52, aI V 4 fy52), (y 53, aI V 4 fy53), (y 54, aI V 4 fy54), (y 55, aI V 8 fy55), (y 56, aI V 8 fy56), (y 57, aI V 8 fy57), (y 58, aI V 900 fy58), (y 0, .inr (9, [.ref (y 1), .int py0_1, .ref (y 2), .ref (y 10), .ref (y 19), .ref (y 25), .ref (y 26), .ref (y 30), .ref (y 31), .ref (y 32), .null, o11, .int v_20, .int v_21, .int v_22])), (y 2, .inr (1, [.int v_23, .int v_24, .int v_25, .int v_26, .int v_27, .int v_28, .ref (y 3), .ref (y 4), .ref (y 5), .ref (y 6), .ref (y 7), .ref (y 8), .ref (y 9), .int v_29, .int v_30, .int v_31, .int v_32, .int v_33])), (y 3, aI V 4 f_34), (y 4, aI V 4 f_35), (y 5, aI V 4 f_36), (y 6, aI V 8 f_37), (y 7, aI V 8 f_38), (y 8, aI V 8 f_39), (y 9, aI V 900 f_40), (y 19, .inr (4, [.ref (y 2), .ref (y 20), .ref (y 21), .ref (y 22), .ref (y 23), .ref (y 24)])), (y 20, aI V 2000 f_41), (y 26, .inr (5, [.ref (y 27), .ref (y 28), .ref (y 29), .int v_42])), (y 42, .inr (1, [.int py42_0, .int py42_1, .int py42_2, .int py42_3, .int py42_4, .int py42_5, .ref (y 43), .ref (y 44), .ref (y 45), .ref (y 46), .ref (y 47), .ref (y 48), .ref (y 49), .int py42_13, .int py42_14, .int py42_15, .int py42_16, .int py42_17])), (y 43, aI V 4 fy43), (y 44, aI V 4 fy44), (y 45, aI V 4 fy45), (y 46, aI V 8 fy46), (y 47, aI V 8 fy47), (y 48, aI V 8 fy48), (y 49, aI V 900 fy49)] H := hP
        have hD : va_D A [(y 31, aM V 2 (va_up (va_up (fun _ => none) 0 (some (y 41))) 1 (some (y 50)))), (y 41, .inr (3, [.ref (y 42), .int py41_1, .int py41_2, .int py41_3, .int py41_4])), (y 50, .inr (3, [.ref (y 51), .int py50_1, .int py50_2, .int py50_3, .int py50_4])), (y 51, .inr (1, [.int py51_0, .int py51_1, .int py51_2, .int py51_3, .int py51_4, .int py51_5, .ref (y 52), .ref (y 53), .ref (y 54), .ref (y 55), .ref (y 56), .ref (y 57), .ref (y 58), .int py51_13, .int py51_14, .int py51_15, .int py51_16, .int py51_17])), (y 52, aI V 4 fy52), (y 53, aI V 4 fy53), (y 54, aI V 4 fy54), (y 55, aI V 8 fy55), (y 56, aI V 8 fy56), (y 57, aI V 8 fy57), (y 58, aI V 900 fy58), (y 0, .inr (9, [.ref (y 1), .int py0_1, .ref (y 2), .ref (y 10), .ref (y 19), .ref (y 25), .ref (y 26), .ref (y 30), .ref (y 31), .ref (y 32), .null, o11, .int v_20, .int v_21, .int v_22])), (y 2, .inr (1, [.int v_23, .int v_24, .int v_25, .int v_26, .int v_27, .int v_28, .ref (y 3), .ref (y 4), .ref (y 5), .ref (y 6), .ref (y 7), .ref (y 8), .ref (y 9), .int v_29, .int v_30, .int v_31, .int v_32, .int v_33])), (y 3, aI V 4 f_34), (y 4, aI V 4 f_35), (y 5, aI V 4 f_36), (y 6, aI V 8 f_37), (y 7, aI V 8 f_38), (y 8, aI V 8 f_39), (y 9, aI V 900 f_40), (y 19, .inr (4, [.ref (y 2), .ref (y 20), .ref (y 21), .ref (y 22), .ref (y 23), .ref (y 24)])), (y 20, aI V 2000 f_41), (y 26, .inr (5, [.ref (y 27), .ref (y 28), .ref (y 29), .int v_42])), (y 42, .inr (1, [.int py42_0, .int py42_1, .int py42_2, .int py42_3, .int py42_4, .int py42_5, .ref (y 43), .ref (y 44), .ref (y 45), .ref (y 46), .ref (y 47), .ref (y 48), .ref (y 49), .int py42_13, .int py42_14, .int py42_15, .int py42_16, .int py42_17])), (y 43, aI V 4 fy43), (y 44, aI V 4 fy44), (y 45, aI V 4 fy45), (y 46, aI V 8 fy46), (y 47, aI V 8 fy47), (y 48, aI V 8 fy48), (y 49, aI V 900 fy49)] := hD
        refine lv_iconst (v := 0) hx hb dX9_restore_47 (by decide) ?_
        have hP := subP (ws' := [(y 0, .inr (9, [.ref (y 1), .int py0_1, .ref (y 2), .ref (y 10), .ref (y 19), .ref (y 25), .ref (y 26), .ref (y 30), .ref (y 31), .ref (y 32), .null, o11, .int v_20, .int v_21, .int v_22])), (y 2, .inr (1, [.int v_23, .int v_24, .int v_25, .int v_26, .int v_27, .int v_28, .ref (y 3), .ref (y 4), .ref (y 5), .ref (y 6), .ref (y 7), .ref (y 8), .ref (y 9), .int v_29, .int v_30, .int v_31, .int v_32, .int v_33])), (y 3, aI V 4 f_34), (y 4, aI V 4 f_35), (y 5, aI V 4 f_36), (y 6, aI V 8 f_37), (y 7, aI V 8 f_38), (y 8, aI V 8 f_39), (y 9, aI V 900 f_40), (y 19, .inr (4, [.ref (y 2), .ref (y 20), .ref (y 21), .ref (y 22), .ref (y 23), .ref (y 24)])), (y 20, aI V 2000 f_41), (y 26, .inr (5, [.ref (y 27), .ref (y 28), .ref (y 29), .int v_42])), (y 31, aM V 2 (va_up (va_up (fun _ => none) 0 (some (y 41))) 1 (some (y 50)))), (y 41, .inr (3, [.ref (y 42), .int py41_1, .int py41_2, .int py41_3, .int py41_4])), (y 42, .inr (1, [.int py42_0, .int py42_1, .int py42_2, .int py42_3, .int py42_4, .int py42_5, .ref (y 43), .ref (y 44), .ref (y 45), .ref (y 46), .ref (y 47), .ref (y 48), .ref (y 49), .int py42_13, .int py42_14, .int py42_15, .int py42_16, .int py42_17])), (y 43, aI V 4 fy43), (y 44, aI V 4 fy44), (y 45, aI V 4 fy45), (y 46, aI V 8 fy46), (y 47, aI V 8 fy47), (y 48, aI V 8 fy48), (y 49, aI V 900 fy49), (y 50, .inr (3, [.ref (y 51), .int py50_1, .int py50_2, .int py50_3, .int py50_4])), (y 51, .inr (1, [.int py51_0, .int py51_1, .int py51_2, .int py51_3, .int py51_4, .int py51_5, .ref (y 52), .ref (y 53), .ref (y 54), .ref (y 55), .ref (y 56), .ref (y 57), .ref (y 58), .int py51_13, .int py51_14, .int py51_15, .int py51_16, .int py51_17])), (y 52, aI V 4 fy52), (y 53, aI V 4 fy53), (y 54, aI V 4 fy54), (y 55, aI V 8 fy55), (y 56, aI V 8 fy56), (y 57, aI V 8 fy57), (y 58, aI V 900 fy58)]) hP [11, 12, 13, 14, 15, 16, 17, 18, 19, 20, 21, 22, 0, 1, 23, 24, 25, 26, 27, 28, 29, 30, 2, 3, 4, 5, 6, 7, 8, 9, 10] rfl
        have hD := hD.sub (ws' := [(y 0, .inr (9, [.ref (y 1), .int py0_1, .ref (y 2), .ref (y 10), .ref (y 19), .ref (y 25), .ref (y 26), .ref (y 30), .ref (y 31), .ref (y 32), .null, o11, .int v_20, .int v_21, .int v_22])), (y 2, .inr (1, [.int v_23, .int v_24, .int v_25, .int v_26, .int v_27, .int v_28, .ref (y 3), .ref (y 4), .ref (y 5), .ref (y 6), .ref (y 7), .ref (y 8), .ref (y 9), .int v_29, .int v_30, .int v_31, .int v_32, .int v_33])), (y 3, aI V 4 f_34), (y 4, aI V 4 f_35), (y 5, aI V 4 f_36), (y 6, aI V 8 f_37), (y 7, aI V 8 f_38), (y 8, aI V 8 f_39), (y 9, aI V 900 f_40), (y 19, .inr (4, [.ref (y 2), .ref (y 20), .ref (y 21), .ref (y 22), .ref (y 23), .ref (y 24)])), (y 20, aI V 2000 f_41), (y 26, .inr (5, [.ref (y 27), .ref (y 28), .ref (y 29), .int v_42])), (y 31, aM V 2 (va_up (va_up (fun _ => none) 0 (some (y 41))) 1 (some (y 50)))), (y 41, .inr (3, [.ref (y 42), .int py41_1, .int py41_2, .int py41_3, .int py41_4])), (y 42, .inr (1, [.int py42_0, .int py42_1, .int py42_2, .int py42_3, .int py42_4, .int py42_5, .ref (y 43), .ref (y 44), .ref (y 45), .ref (y 46), .ref (y 47), .ref (y 48), .ref (y 49), .int py42_13, .int py42_14, .int py42_15, .int py42_16, .int py42_17])), (y 43, aI V 4 fy43), (y 44, aI V 4 fy44), (y 45, aI V 4 fy45), (y 46, aI V 8 fy46), (y 47, aI V 8 fy47), (y 48, aI V 8 fy48), (y 49, aI V 900 fy49), (y 50, .inr (3, [.ref (y 51), .int py50_1, .int py50_2, .int py50_3, .int py50_4])), (y 51, .inr (1, [.int py51_0, .int py51_1, .int py51_2, .int py51_3, .int py51_4, .int py51_5, .ref (y 52), .ref (y 53), .ref (y 54), .ref (y 55), .ref (y 56), .ref (y 57), .ref (y 58), .int py51_13, .int py51_14, .int py51_15, .int py51_16, .int py51_17])), (y 52, aI V 4 fy52), (y 53, aI V 4 fy53), (y 54, aI V 4 fy54), (y 55, aI V 8 fy55), (y 56, aI V 8 fy56), (y 57, aI V 8 fy57), (y 58, aI V 900 fy58)]) [11, 12, 13, 14, 15, 16, 17, 18, 19, 20, 21, 22, 0, 1, 23, 24, 25, 26, 27, 28, 29, 30, 2, 3, 4, 5, 6, 7, 8, 9, 10] rfl rfl
        exact fiI hx hb hr hlk hK hP hD hS dX9_restore_48 (Nat.le_of_ble_eq_true rfl) (Nat.le_of_ble_eq_true rfl) (⟨v_20, v_21, v_22, v_23, v_24, v_25, v_26, v_27, v_28, v_29, v_30, v_31, v_32, v_33, f_34, f_35, f_36, f_37, f_38, f_39, f_40, f_41, v_42, bv_24, bv_25, bv_26, bv_29, bv_30, bv_31, bv_32, bv_33, bv_42, (iv_c (0 : Int32) (by decide)), rfl⟩)
      · have b_43 : iv 0 0 py41_4 := iv_q c_19 (iv_c (0 : Int32) (a := 0) (b := 0) (by decide))
        refine lv_bipush (v := (-5)) hx hb dX9_restore_24 (by decide) ?_
        exact fiI hx hb hr hlk hK hP hD hS dX9_restore_26 (Nat.le_of_ble_eq_true rfl) (Nat.le_of_ble_eq_true rfl) (⟨py0_12, py0_13, py0_14, py2_0, py2_1, py2_2, py2_3, py2_4, py2_5, py2_13, py2_14, py2_15, py2_16, py2_17, fy3, fy4, fy5, fy6, fy7, fy8, fy9, fy20, py26_3, bpy2_1, bpy2_2, bpy2_3, bpy2_13, bpy2_14, bpy2_15, bpy2_16, bpy2_17, bpy26_3, (iv_c ((-5) : Int32) (by decide)), rfl⟩)
    · refine va_aldq hx hb hK hP 12 5 rfl rfl (vin (by decide +kernel)) dX9_restore_15 ?_
      refine W.eq (g2 := F0 m 16 ls (.ref (y 50) :: [])) rfl ?_
      refine lv_astore_n (lv' := [(2, .ref (y 50)), (0, .ref (y 0)), (1, .int 1)]) hx hb dX9_restore_16 rfl hl (by decide) rfl (fun ls hl => ?_)
      refine lv_aload_n hx hb dX9_restore_17 rfl (lv_at hl 0 rfl) ?_
      refine va_get (ci := 3) (v := .int py50_4) (C := RX3) (T := TX3) (N := 5) hx hb hg inX3 hown hK hP 22 rfl rfl 4 (by decide) (hg _ q_2_24) (fun _ h9 => h9) rfl dX9_restore_18 ?_
      refine lv_if_ne (tgt := 27) hx hb dX9_restore_21 (by decide) (fun c_44 => ?_) (fun c_44 => ?_)
      · refine lv_aload_n hx hb dX9_restore_27 rfl (lv_at hl 1 rfl) ?_
        refine lv_aload_n hx hb dX9_restore_28 rfl (lv_at hl 0 rfl) ?_
        refine va_get (ci := 3) (v := .ref (y 51)) (C := RX3) (T := TX3) (N := 5) hx hb hg inX3 hown hK hP 22 rfl rfl 0 (by decide) (hg _ q_2_20) (fun _ h9 => h9) rfl dX9_restore_29 ?_
        refine lv_aload_n hx hb dX9_restore_32 rfl (lv_at hl 0 rfl) ?_
        refine va_get (ci := 3) (v := .int py50_1) (C := RX3) (T := TX3) (N := 5) hx hb hg inX3 hown hK hP 22 rfl rfl 1 (by decide) (hg _ q_2_21) (fun _ h9 => h9) rfl dX9_restore_33 ?_
        refine lv_aload_n hx hb dX9_restore_36 rfl (lv_at hl 0 rfl) ?_
        refine va_get (ci := 3) (v := .int py50_2) (C := RX3) (T := TX3) (N := 5) hx hb hg inX3 hown hK hP 22 rfl rfl 2 (by decide) (hg _ q_2_22) (fun _ h9 => h9) rfl dX9_restore_37 ?_
        refine lv_aload_n hx hb dX9_restore_40 rfl (lv_at hl 0 rfl) ?_
        refine va_get (ci := 3) (v := .int py50_3) (C := RX3) (T := TX3) (N := 5) hx hb hg inX3 hown hK hP 22 rfl rfl 3 (by decide) (hg _ q_2_23) (fun _ h9 => h9) rfl dX9_restore_41 ?_
        refine jnV (wr := [(y 31, aM V 2 (va_up (va_up (fun _ => none) 0 (some (y 41))) 1 (some (y 50)))), (y 41, .inr (3, [.ref (y 42), .int py41_1, .int py41_2, .int py41_3, .int py41_4])), (y 42, .inr (1, [.int py42_0, .int py42_1, .int py42_2, .int py42_3, .int py42_4, .int py42_5, .ref (y 43), .ref (y 44), .ref (y 45), .ref (y 46), .ref (y 47), .ref (y 48), .ref (y 49), .int py42_13, .int py42_14, .int py42_15, .int py42_16, .int py42_17])), (y 43, aI V 4 fy43), (y 44, aI V 4 fy44), (y 45, aI V 4 fy45), (y 46, aI V 8 fy46), (y 47, aI V 8 fy47), (y 48, aI V 8 fy48), (y 49, aI V 900 fy49), (y 50, .inr (3, [.ref (y 51), .int py50_1, .int py50_2, .int py50_3, .int py50_4]))]) (rnV (rest := []) ⟨hx, hb, hml, hown, hg⟩ (k_X9_goOnFrom_1 l V y py50_1 py50_2 py50_3 py0_1 o11 py0_12 py0_13 py0_14 py2_0 py2_1 py2_2 py2_3 py2_4 py2_5 py2_13 py2_14 py2_15 py2_16 py2_17 fy3 fy4 fy5 fy6 fy7 fy8 fy9 fy20 py26_3 py51_0 py51_1 py51_2 py51_3 py51_4 py51_5 py51_13 py51_14 py51_15 py51_16 py51_17 fy52 fy53 fy54 fy55 fy56 fy57 fy58 bpy0_1 bpy2_1 bpy2_2 bpy2_3 bpy2_13 bpy2_14 bpy2_15 bpy2_16 bpy2_17 bpy26_3 bpy51_1 bpy51_2 bpy51_3 bpy51_13 bpy51_14 bpy51_15 bpy51_16 bpy51_17) mt_X9_goOnFrom q_3_92 ⟨Nat.le_of_ble_eq_true rfl, Nat.le_of_ble_eq_true rfl⟩ hK hP hD hS hA hE [0, 1, 2, 3, 4, 5, 6, 7, 8, 9, 10, 11, 23, 24, 25, 26, 27, 28, 29, 30] rfl rfl 0 rfl rfl rfl rfl hl.1 rfl (Nat.le_of_ble_eq_true rfl) dX9_restore_44 ⟨Nat.le_of_ble_eq_true rfl, Nat.le_of_ble_eq_true rfl⟩) hP hD hS hA [0, 1, 2, 3, 4, 5, 6, 7, 8, 9, 10, 11, 23, 24, 25, 26, 27, 28, 29, 30] [12, 13, 14, 15, 16, 17, 18, 19, 20, 21, 22] rfl rfl rfl (by decide) (fun  w H locs hw hP hD hS => ?_)
        obtain ⟨v_45, v_46, v_47, v_48, v_49, v_50, v_51, v_52, v_53, v_54, v_55, v_56, v_57, v_58, f_59, f_60, f_61, f_62, f_63, f_64, f_65, f_66, v_67, bv_49, bv_50, bv_51, bv_54, bv_55, bv_56, bv_57, bv_58, bv_67, rfl⟩ := hw
        have hP : va_P V.1 vwCl [(y 31, aM V 2 (va_up (va_up (fun _ => none) 0 (some (y 41))) 1 (some (y 50)))), (y 41, .inr (3, [.ref (y 42), .int py41_1, .int py41_2, .int py41_3, .int py41_4])), (y 42, .inr (1, [.int py42_0, .int py42_1, .int py42_2, .int py42_3, .int py42_4, .int py42_5, .ref (y 43), .ref (y 44), .ref (y 45), .ref (y 46), .ref (y 47), .ref (y 48), .ref (y 49), .int py42_13, .int py42_14, .int py42_15, .int py42_16, .int py42_17])), (y 43, aI V 4 fy43), (y 44, aI V 4 fy44), (y 45, aI V 4 fy45), (y 46, aI V 8 fy46), (y 47, aI V 8 fy47), (y 48, aI V 8 fy48), (y 49, aI V 900 fy49), (y 50, .inr (3, [.ref (y 51), .int py50_1, .int py50_2, .int py50_3, .int py50_4])), (y 0, .inr (9, [.ref (y 1), .int py0_1, .ref (y 2), .ref (y 10), .ref (y 19), .ref (y 25), .ref (y 26), .ref (y 30), .ref (y 31), .ref (y 32), .null, o11, .int v_45, .int v_46, .int v_47])), (y 2, .inr (1, [.int v_48, .int v_49, .int v_50, .int v_51, .int v_52, .int v_53, .ref (y 3), .ref (y 4), .ref (y 5), .ref (y 6), .ref (y 7), .ref (y 8), .ref (y 9), .int v_54, .int v_55, .int v_56, .int v_57, .int v_58])), (y 3, aI V 4 f_59), (y 4, aI V 4 f_60), (y 5, aI V 4 f_61), (y 6, aI V 8 f_62), (y 7, aI V 8 f_63), (y 8, aI V 8 f_64), (y 9, aI V 900 f_65), (y 19, .inr (4, [.ref (y 2), .ref (y 20), .ref (y 21), .ref (y 22), .ref (y 23), .ref (y 24)])), (y 20, aI V 2000 f_66), (y 26, .inr (5, [.ref (y 27), .ref (y 28), .ref (y 29), .int v_67])), (y 51, .inr (1, [.int py51_0, .int py51_1, .int py51_2, .int py51_3, .int py51_4, .int py51_5, .ref (y 52), .ref (y 53), .ref (y 54), .ref (y 55), .ref (y 56), .ref (y 57), .ref (y 58), .int py51_13, .int py51_14, .int py51_15, .int py51_16, .int py51_17])), (y 52, aI V 4 fy52), (y 53, aI V 4 fy53), (y 54, aI V 4 fy54), (y 55, aI V 8 fy55), (y 56, aI V 8 fy56), (y 57, aI V 8 fy57), (y 58, aI V 900 fy58)] H := hP
        have hD : va_D A [(y 31, aM V 2 (va_up (va_up (fun _ => none) 0 (some (y 41))) 1 (some (y 50)))), (y 41, .inr (3, [.ref (y 42), .int py41_1, .int py41_2, .int py41_3, .int py41_4])), (y 42, .inr (1, [.int py42_0, .int py42_1, .int py42_2, .int py42_3, .int py42_4, .int py42_5, .ref (y 43), .ref (y 44), .ref (y 45), .ref (y 46), .ref (y 47), .ref (y 48), .ref (y 49), .int py42_13, .int py42_14, .int py42_15, .int py42_16, .int py42_17])), (y 43, aI V 4 fy43), (y 44, aI V 4 fy44), (y 45, aI V 4 fy45), (y 46, aI V 8 fy46), (y 47, aI V 8 fy47), (y 48, aI V 8 fy48), (y 49, aI V 900 fy49), (y 50, .inr (3, [.ref (y 51), .int py50_1, .int py50_2, .int py50_3, .int py50_4])), (y 0, .inr (9, [.ref (y 1), .int py0_1, .ref (y 2), .ref (y 10), .ref (y 19), .ref (y 25), .ref (y 26), .ref (y 30), .ref (y 31), .ref (y 32), .null, o11, .int v_45, .int v_46, .int v_47])), (y 2, .inr (1, [.int v_48, .int v_49, .int v_50, .int v_51, .int v_52, .int v_53, .ref (y 3), .ref (y 4), .ref (y 5), .ref (y 6), .ref (y 7), .ref (y 8), .ref (y 9), .int v_54, .int v_55, .int v_56, .int v_57, .int v_58])), (y 3, aI V 4 f_59), (y 4, aI V 4 f_60), (y 5, aI V 4 f_61), (y 6, aI V 8 f_62), (y 7, aI V 8 f_63), (y 8, aI V 8 f_64), (y 9, aI V 900 f_65), (y 19, .inr (4, [.ref (y 2), .ref (y 20), .ref (y 21), .ref (y 22), .ref (y 23), .ref (y 24)])), (y 20, aI V 2000 f_66), (y 26, .inr (5, [.ref (y 27), .ref (y 28), .ref (y 29), .int v_67])), (y 51, .inr (1, [.int py51_0, .int py51_1, .int py51_2, .int py51_3, .int py51_4, .int py51_5, .ref (y 52), .ref (y 53), .ref (y 54), .ref (y 55), .ref (y 56), .ref (y 57), .ref (y 58), .int py51_13, .int py51_14, .int py51_15, .int py51_16, .int py51_17])), (y 52, aI V 4 fy52), (y 53, aI V 4 fy53), (y 54, aI V 4 fy54), (y 55, aI V 8 fy55), (y 56, aI V 8 fy56), (y 57, aI V 8 fy57), (y 58, aI V 900 fy58)] := hD
        refine lv_iconst (v := 0) hx hb dX9_restore_47 (by decide) ?_
        have hP := subP (ws' := [(y 0, .inr (9, [.ref (y 1), .int py0_1, .ref (y 2), .ref (y 10), .ref (y 19), .ref (y 25), .ref (y 26), .ref (y 30), .ref (y 31), .ref (y 32), .null, o11, .int v_45, .int v_46, .int v_47])), (y 2, .inr (1, [.int v_48, .int v_49, .int v_50, .int v_51, .int v_52, .int v_53, .ref (y 3), .ref (y 4), .ref (y 5), .ref (y 6), .ref (y 7), .ref (y 8), .ref (y 9), .int v_54, .int v_55, .int v_56, .int v_57, .int v_58])), (y 3, aI V 4 f_59), (y 4, aI V 4 f_60), (y 5, aI V 4 f_61), (y 6, aI V 8 f_62), (y 7, aI V 8 f_63), (y 8, aI V 8 f_64), (y 9, aI V 900 f_65), (y 19, .inr (4, [.ref (y 2), .ref (y 20), .ref (y 21), .ref (y 22), .ref (y 23), .ref (y 24)])), (y 20, aI V 2000 f_66), (y 26, .inr (5, [.ref (y 27), .ref (y 28), .ref (y 29), .int v_67])), (y 31, aM V 2 (va_up (va_up (fun _ => none) 0 (some (y 41))) 1 (some (y 50)))), (y 41, .inr (3, [.ref (y 42), .int py41_1, .int py41_2, .int py41_3, .int py41_4])), (y 42, .inr (1, [.int py42_0, .int py42_1, .int py42_2, .int py42_3, .int py42_4, .int py42_5, .ref (y 43), .ref (y 44), .ref (y 45), .ref (y 46), .ref (y 47), .ref (y 48), .ref (y 49), .int py42_13, .int py42_14, .int py42_15, .int py42_16, .int py42_17])), (y 43, aI V 4 fy43), (y 44, aI V 4 fy44), (y 45, aI V 4 fy45), (y 46, aI V 8 fy46), (y 47, aI V 8 fy47), (y 48, aI V 8 fy48), (y 49, aI V 900 fy49), (y 50, .inr (3, [.ref (y 51), .int py50_1, .int py50_2, .int py50_3, .int py50_4])), (y 51, .inr (1, [.int py51_0, .int py51_1, .int py51_2, .int py51_3, .int py51_4, .int py51_5, .ref (y 52), .ref (y 53), .ref (y 54), .ref (y 55), .ref (y 56), .ref (y 57), .ref (y 58), .int py51_13, .int py51_14, .int py51_15, .int py51_16, .int py51_17])), (y 52, aI V 4 fy52), (y 53, aI V 4 fy53), (y 54, aI V 4 fy54), (y 55, aI V 8 fy55), (y 56, aI V 8 fy56), (y 57, aI V 8 fy57), (y 58, aI V 900 fy58)]) hP [11, 12, 13, 14, 15, 16, 17, 18, 19, 20, 21, 22, 0, 1, 2, 3, 4, 5, 6, 7, 8, 9, 10, 23, 24, 25, 26, 27, 28, 29, 30] rfl
        have hD := hD.sub (ws' := [(y 0, .inr (9, [.ref (y 1), .int py0_1, .ref (y 2), .ref (y 10), .ref (y 19), .ref (y 25), .ref (y 26), .ref (y 30), .ref (y 31), .ref (y 32), .null, o11, .int v_45, .int v_46, .int v_47])), (y 2, .inr (1, [.int v_48, .int v_49, .int v_50, .int v_51, .int v_52, .int v_53, .ref (y 3), .ref (y 4), .ref (y 5), .ref (y 6), .ref (y 7), .ref (y 8), .ref (y 9), .int v_54, .int v_55, .int v_56, .int v_57, .int v_58])), (y 3, aI V 4 f_59), (y 4, aI V 4 f_60), (y 5, aI V 4 f_61), (y 6, aI V 8 f_62), (y 7, aI V 8 f_63), (y 8, aI V 8 f_64), (y 9, aI V 900 f_65), (y 19, .inr (4, [.ref (y 2), .ref (y 20), .ref (y 21), .ref (y 22), .ref (y 23), .ref (y 24)])), (y 20, aI V 2000 f_66), (y 26, .inr (5, [.ref (y 27), .ref (y 28), .ref (y 29), .int v_67])), (y 31, aM V 2 (va_up (va_up (fun _ => none) 0 (some (y 41))) 1 (some (y 50)))), (y 41, .inr (3, [.ref (y 42), .int py41_1, .int py41_2, .int py41_3, .int py41_4])), (y 42, .inr (1, [.int py42_0, .int py42_1, .int py42_2, .int py42_3, .int py42_4, .int py42_5, .ref (y 43), .ref (y 44), .ref (y 45), .ref (y 46), .ref (y 47), .ref (y 48), .ref (y 49), .int py42_13, .int py42_14, .int py42_15, .int py42_16, .int py42_17])), (y 43, aI V 4 fy43), (y 44, aI V 4 fy44), (y 45, aI V 4 fy45), (y 46, aI V 8 fy46), (y 47, aI V 8 fy47), (y 48, aI V 8 fy48), (y 49, aI V 900 fy49), (y 50, .inr (3, [.ref (y 51), .int py50_1, .int py50_2, .int py50_3, .int py50_4])), (y 51, .inr (1, [.int py51_0, .int py51_1, .int py51_2, .int py51_3, .int py51_4, .int py51_5, .ref (y 52), .ref (y 53), .ref (y 54), .ref (y 55), .ref (y 56), .ref (y 57), .ref (y 58), .int py51_13, .int py51_14, .int py51_15, .int py51_16, .int py51_17])), (y 52, aI V 4 fy52), (y 53, aI V 4 fy53), (y 54, aI V 4 fy54), (y 55, aI V 8 fy55), (y 56, aI V 8 fy56), (y 57, aI V 8 fy57), (y 58, aI V 900 fy58)]) [11, 12, 13, 14, 15, 16, 17, 18, 19, 20, 21, 22, 0, 1, 2, 3, 4, 5, 6, 7, 8, 9, 10, 23, 24, 25, 26, 27, 28, 29, 30] rfl rfl
        exact fiI hx hb hr hlk hK hP hD hS dX9_restore_48 (Nat.le_of_ble_eq_true rfl) (Nat.le_of_ble_eq_true rfl) (⟨v_45, v_46, v_47, v_48, v_49, v_50, v_51, v_52, v_53, v_54, v_55, v_56, v_57, v_58, f_59, f_60, f_61, f_62, f_63, f_64, f_65, f_66, v_67, bv_49, bv_50, bv_51, bv_54, bv_55, bv_56, bv_57, bv_58, bv_67, (iv_c (0 : Int32) (by decide)), rfl⟩)
      · have b_68 : iv 0 0 py50_4 := iv_q c_44 (iv_c (0 : Int32) (a := 0) (b := 0) (by decide))
        refine lv_bipush (v := (-5)) hx hb dX9_restore_24 (by decide) ?_
        exact fiI hx hb hr hlk hK hP hD hS dX9_restore_26 (Nat.le_of_ble_eq_true rfl) (Nat.le_of_ble_eq_true rfl) (⟨py0_12, py0_13, py0_14, py2_0, py2_1, py2_2, py2_3, py2_4, py2_5, py2_13, py2_14, py2_15, py2_16, py2_17, fy3, fy4, fy5, fy6, fy7, fy8, fy9, fy20, py26_3, bpy2_1, bpy2_2, bpy2_3, bpy2_13, bpy2_14, bpy2_15, bpy2_16, bpy2_17, bpy26_3, (iv_c ((-5) : Int32) (by decide)), rfl⟩)
theorem dX9_putOnTape_0 : decode cX9_putOnTape 0 = .ok (.bipush 24, 2) := by decide +kernel
theorem dX9_putOnTape_2 : decode cX9_putOnTape 2 = .ok (.istore_n 2, 1) := by decide +kernel
theorem dX9_putOnTape_3 : decode cX9_putOnTape 3 = .ok (.iload_n 2, 1) := by decide +kernel
theorem dX9_putOnTape_4 : decode cX9_putOnTape 4 = .ok (.ifCond .lt 32, 3) := by decide +kernel
theorem dX9_putOnTape_7 : decode cX9_putOnTape 7 = .ok (.aload_n 0, 1) := by decide +kernel
theorem q_2_36 : Cond.fieldLink "BeaconDelay" 9 "BeaconDelay" "tape" "[B" ∈ gw := gw_2 (i := 36) (by decide +kernel) rfl
theorem dX9_putOnTape_8 : decode cX9_putOnTape 8 = .ok (.getfield 9, 3) := by decide +kernel
theorem dX9_putOnTape_11 : decode cX9_putOnTape 11 = .ok (.aload_n 0, 1) := by decide +kernel
theorem dX9_putOnTape_12 : decode cX9_putOnTape 12 = .ok (.getfield 70, 3) := by decide +kernel
theorem dX9_putOnTape_15 : decode cX9_putOnTape 15 = .ok (.iload_n 1, 1) := by decide +kernel
theorem dX9_putOnTape_16 : decode cX9_putOnTape 16 = .ok (.iload_n 2, 1) := by decide +kernel
theorem dX9_putOnTape_17 : decode cX9_putOnTape 17 = .ok (.iushr, 1) := by decide +kernel
theorem dX9_putOnTape_18 : decode cX9_putOnTape 18 = .ok (.i2b, 1) := by decide +kernel
theorem dX9_putOnTape_19 : decode cX9_putOnTape 19 = .ok (.bastore, 1) := by decide +kernel
theorem dX9_putOnTape_20 : decode cX9_putOnTape 20 = .ok (.aload_n 0, 1) := by decide +kernel
theorem dX9_putOnTape_21 : decode cX9_putOnTape 21 = .ok (.dup, 1) := by decide +kernel
theorem dX9_putOnTape_22 : decode cX9_putOnTape 22 = .ok (.getfield 70, 3) := by decide +kernel
theorem dX9_putOnTape_25 : decode cX9_putOnTape 25 = .ok (.iconst 1, 1) := by decide +kernel
theorem dX9_putOnTape_26 : decode cX9_putOnTape 26 = .ok (.iadd, 1) := by decide +kernel
theorem dX9_putOnTape_27 : decode cX9_putOnTape 27 = .ok (.putfield 70, 3) := by decide +kernel
theorem dX9_putOnTape_30 : decode cX9_putOnTape 30 = .ok (.iinc 2 (-8), 3) := by decide +kernel
theorem dX9_putOnTape_33 : decode cX9_putOnTape 33 = .ok (.goto (-30), 3) := by decide +kernel
theorem dX9_putOnTape_36 : decode cX9_putOnTape 36 = .ok (.return_, 1) := by decide +kernel
set_option maxHeartbeats 4000000 in
set_option maxRecDepth 100000 in
theorem k_X9_putOnTape_0 (l : Launch) (V : GV) (y : Nat → Nat) (a1 : Int32) (py0_1 : Int32) (o10 : Value) (o11 : Value) (py0_12 : Int32) (py0_13 : Int32) (py0_14 : Int32) (fy1 : Nat → Int32) (bpy0_1 : iv 0 880 py0_1) : Ct l V yX9_putOnTape (.code yX9_putOnTape cX9_putOnTape 3 none) 1 [.ref (y 0), .int a1] [(y 0, .inr (9, [.ref (y 1), .int py0_1, .ref (y 2), .ref (y 10), .ref (y 19), .ref (y 25), .ref (y 26), .ref (y 30), .ref (y 31), .ref (y 32), o10, o11, .int py0_12, .int py0_13, .int py0_14])), (y 1, aB V 900 fy1)] 0 0 (QV V (fun (w : va_W) => ∃ (v0 : Int32) (g1 : Nat → Int32), iv 0 884 v0 ∧ w = [(y 0, .inr (9, [.ref (y 1), .int v0, .ref (y 2), .ref (y 10), .ref (y 19), .ref (y 25), .ref (y 26), .ref (y 30), .ref (y 31), .ref (y 32), o10, o11, .int py0_12, .int py0_13, .int py0_14])), (y 1, aB V 900 g1)])) := by
  refine Ct.of (by decide) (Nat.le_of_ble_eq_true rfl) (fun p e s m below meth c A ls hx hb hr hml hown hlk hnm hg hP hK hD hE hA hS hl => ?_)
  have hl : lv_has ls 3 [(0, .ref (y 0)), (1, .int a1)] := hl
  refine lv_bipush (v := 24) hx hb dX9_putOnTape_0 (by decide) ?_
  refine lv_istore_n (lv' := [(2, .int 24), (0, .ref (y 0)), (1, .int a1)]) hx hb dX9_putOnTape_2 rfl hl (by decide) rfl (fun ls hl => ?_)
  refine lv_iload_n hx hb dX9_putOnTape_3 rfl (lv_at hl 0 rfl) ?_
  refine lv_if_lt (tgt := 36) hx hb dX9_putOnTape_4 (by decide) (fun c_2 => absurd c_2 (by decide)) (fun _ => ?_)
  refine lv_aload_n hx hb dX9_putOnTape_7 rfl (lv_at hl 1 rfl) ?_
  refine va_get (ci := 9) (v := .ref (y 1)) (C := RX9) (T := TX9) (N := 15) hx hb hg inX9 hown hK hP 0 rfl rfl 0 (by decide) (hg _ q_2_36) (fun _ h9 => h9) rfl dX9_putOnTape_8 ?_
  refine lv_aload_n hx hb dX9_putOnTape_11 rfl (lv_at hl 1 rfl) ?_
  refine va_get (ci := 9) (v := .int py0_1) (C := RX9) (T := TX9) (N := 15) hx hb hg inX9 hown hK hP 0 rfl rfl 1 (by decide) (hg _ q_2_37) (fun _ h9 => h9) rfl dX9_putOnTape_12 ?_
  refine lv_iload_n hx hb dX9_putOnTape_15 rfl (lv_at hl 2 rfl) ?_
  refine lv_iload_n hx hb dX9_putOnTape_16 rfl (lv_at hl 0 rfl) ?_
  refine lv_iushr hx hb dX9_putOnTape_17 rfl ?_
  refine lv_topi (fun x_3 ex_3 => ?_)
  refine lv_i2b hx hb dX9_putOnTape_18 rfl ?_
  refine lv_topi (fun x_4 ex_4 => ?_)
  refine va_bast hx hb hK hP hD hS 1 1 rfl rfl (iv_in bpy0_1 (by decide)) dX9_putOnTape_19 (fun H locs hP hD hS => ?_)
  obtain ⟨f_5, hP, hD⟩ : ∃ f_5 : Nat → Int32, va_P V.1 vwCl [(y 0, .inr (9, [.ref (y 1), .int py0_1, .ref (y 2), .ref (y 10), .ref (y 19), .ref (y 25), .ref (y 26), .ref (y 30), .ref (y 31), .ref (y 32), o10, o11, .int py0_12, .int py0_13, .int py0_14])), (y 1, aB V 900 f_5)] H ∧ va_D A [(y 0, .inr (9, [.ref (y 1), .int py0_1, .ref (y 2), .ref (y 10), .ref (y 19), .ref (y 25), .ref (y 26), .ref (y 30), .ref (y 31), .ref (y 32), o10, o11, .int py0_12, .int py0_13, .int py0_14])), (y 1, aB V 900 f_5)] := ⟨_, hP, hD⟩
  refine lv_aload_n hx hb dX9_putOnTape_20 rfl (lv_at hl 1 rfl) ?_
  refine lv_dup hx hb dX9_putOnTape_21 rfl ?_
  refine va_get (ci := 9) (v := .int py0_1) (C := RX9) (T := TX9) (N := 15) hx hb hg inX9 hown hK hP 0 rfl rfl 1 (by decide) (hg _ q_2_37) (fun _ h9 => h9) rfl dX9_putOnTape_22 ?_
  refine lv_iconst (v := 1) hx hb dX9_putOnTape_25 (by decide) ?_
  refine lv_iadd hx hb dX9_putOnTape_26 ?_
  refine lv_topi (fun x_6 ex_6 => ?_)
  have bx_6 : iv 1 881 x_6 := by rw [ex_6]; exact iv_add bpy0_1 (iv_c (1 : Int32) (a := 1) (b := 1) (by decide)) (by decide)
  refine va_put (ci := 9) (v := .int x_6) (ty := .int) (C := RX9) (T := TX9) (N := 15) hx hb hg inX9 tyX9 tyX9_ok nmX9 hown hK hP hD hS 0 rfl rfl 1 (by decide) (hg _ q_2_37) (fun _ h9 => h9) rfl (by decide +kernel) rfl rfl (Nat.le_of_ble_eq_true rfl) dX9_putOnTape_27 (fun H locs hP hD hS => ?_)
  have hP : va_P V.1 vwCl [(y 0, .inr (9, [.ref (y 1), .int x_6, .ref (y 2), .ref (y 10), .ref (y 19), .ref (y 25), .ref (y 26), .ref (y 30), .ref (y 31), .ref (y 32), o10, o11, .int py0_12, .int py0_13, .int py0_14])), (y 1, aB V 900 f_5)] H := hP
  have hD : va_D A [(y 0, .inr (9, [.ref (y 1), .int x_6, .ref (y 2), .ref (y 10), .ref (y 19), .ref (y 25), .ref (y 26), .ref (y 30), .ref (y 31), .ref (y 32), o10, o11, .int py0_12, .int py0_13, .int py0_14])), (y 1, aB V 900 f_5)] := hD
  refine lv_iinc (v := 16) (lv' := [(2, .int 16), (0, .ref (y 0)), (1, .int a1)]) hx hb dX9_putOnTape_30 hl (k := 0) rfl (by decide +kernel) (by decide) rfl (fun ls hl => ?_)
  refine lv_goto (tgt := 3) hx hb dX9_putOnTape_33 (by decide) ?_
  refine lv_iload_n hx hb dX9_putOnTape_3 rfl (lv_at hl 0 rfl) ?_
  refine lv_if_lt (tgt := 36) hx hb dX9_putOnTape_4 (by decide) (fun c_8 => absurd c_8 (by decide)) (fun _ => ?_)
  refine lv_aload_n hx hb dX9_putOnTape_7 rfl (lv_at hl 1 rfl) ?_
  refine va_get (ci := 9) (v := .ref (y 1)) (C := RX9) (T := TX9) (N := 15) hx hb hg inX9 hown hK hP 0 rfl rfl 0 (by decide) (hg _ q_2_36) (fun _ h9 => h9) rfl dX9_putOnTape_8 ?_
  refine lv_aload_n hx hb dX9_putOnTape_11 rfl (lv_at hl 1 rfl) ?_
  refine va_get (ci := 9) (v := .int x_6) (C := RX9) (T := TX9) (N := 15) hx hb hg inX9 hown hK hP 0 rfl rfl 1 (by decide) (hg _ q_2_37) (fun _ h9 => h9) rfl dX9_putOnTape_12 ?_
  refine lv_iload_n hx hb dX9_putOnTape_15 rfl (lv_at hl 2 rfl) ?_
  refine lv_iload_n hx hb dX9_putOnTape_16 rfl (lv_at hl 0 rfl) ?_
  refine lv_iushr hx hb dX9_putOnTape_17 rfl ?_
  refine lv_topi (fun x_9 ex_9 => ?_)
  refine lv_i2b hx hb dX9_putOnTape_18 rfl ?_
  refine lv_topi (fun x_10 ex_10 => ?_)
  refine va_bast hx hb hK hP hD hS 1 1 rfl rfl (iv_in bx_6 (by decide)) dX9_putOnTape_19 (fun H locs hP hD hS => ?_)
  obtain ⟨f_11, hP, hD⟩ : ∃ f_11 : Nat → Int32, va_P V.1 vwCl [(y 0, .inr (9, [.ref (y 1), .int x_6, .ref (y 2), .ref (y 10), .ref (y 19), .ref (y 25), .ref (y 26), .ref (y 30), .ref (y 31), .ref (y 32), o10, o11, .int py0_12, .int py0_13, .int py0_14])), (y 1, aB V 900 f_11)] H ∧ va_D A [(y 0, .inr (9, [.ref (y 1), .int x_6, .ref (y 2), .ref (y 10), .ref (y 19), .ref (y 25), .ref (y 26), .ref (y 30), .ref (y 31), .ref (y 32), o10, o11, .int py0_12, .int py0_13, .int py0_14])), (y 1, aB V 900 f_11)] := ⟨_, hP, hD⟩
  refine lv_aload_n hx hb dX9_putOnTape_20 rfl (lv_at hl 1 rfl) ?_
  refine lv_dup hx hb dX9_putOnTape_21 rfl ?_
  refine va_get (ci := 9) (v := .int x_6) (C := RX9) (T := TX9) (N := 15) hx hb hg inX9 hown hK hP 0 rfl rfl 1 (by decide) (hg _ q_2_37) (fun _ h9 => h9) rfl dX9_putOnTape_22 ?_
  refine lv_iconst (v := 1) hx hb dX9_putOnTape_25 (by decide) ?_
  refine lv_iadd hx hb dX9_putOnTape_26 ?_
  refine lv_topi (fun x_12 ex_12 => ?_)
  have bx_12 : iv 2 882 x_12 := by rw [ex_12]; exact iv_add bx_6 (iv_c (1 : Int32) (a := 1) (b := 1) (by decide)) (by decide)
  refine va_put (ci := 9) (v := .int x_12) (ty := .int) (C := RX9) (T := TX9) (N := 15) hx hb hg inX9 tyX9 tyX9_ok nmX9 hown hK hP hD hS 0 rfl rfl 1 (by decide) (hg _ q_2_37) (fun _ h9 => h9) rfl (by decide +kernel) rfl rfl (Nat.le_of_ble_eq_true rfl) dX9_putOnTape_27 (fun H locs hP hD hS => ?_)
  have hP : va_P V.1 vwCl [(y 0, .inr (9, [.ref (y 1), .int x_12, .ref (y 2), .ref (y 10), .ref (y 19), .ref (y 25), .ref (y 26), .ref (y 30), .ref (y 31), .ref (y 32), o10, o11, .int py0_12, .int py0_13, .int py0_14])), (y 1, aB V 900 f_11)] H := hP
  have hD : va_D A [(y 0, .inr (9, [.ref (y 1), .int x_12, .ref (y 2), .ref (y 10), .ref (y 19), .ref (y 25), .ref (y 26), .ref (y 30), .ref (y 31), .ref (y 32), o10, o11, .int py0_12, .int py0_13, .int py0_14])), (y 1, aB V 900 f_11)] := hD
  refine lv_iinc (v := 8) (lv' := [(2, .int 8), (0, .ref (y 0)), (1, .int a1)]) hx hb dX9_putOnTape_30 hl (k := 0) rfl (by decide +kernel) (by decide) rfl (fun ls hl => ?_)
  refine lv_goto (tgt := 3) hx hb dX9_putOnTape_33 (by decide) ?_
  refine lv_iload_n hx hb dX9_putOnTape_3 rfl (lv_at hl 0 rfl) ?_
  refine lv_if_lt (tgt := 36) hx hb dX9_putOnTape_4 (by decide) (fun c_14 => absurd c_14 (by decide)) (fun _ => ?_)
  refine lv_aload_n hx hb dX9_putOnTape_7 rfl (lv_at hl 1 rfl) ?_
  refine va_get (ci := 9) (v := .ref (y 1)) (C := RX9) (T := TX9) (N := 15) hx hb hg inX9 hown hK hP 0 rfl rfl 0 (by decide) (hg _ q_2_36) (fun _ h9 => h9) rfl dX9_putOnTape_8 ?_
  refine lv_aload_n hx hb dX9_putOnTape_11 rfl (lv_at hl 1 rfl) ?_
  refine va_get (ci := 9) (v := .int x_12) (C := RX9) (T := TX9) (N := 15) hx hb hg inX9 hown hK hP 0 rfl rfl 1 (by decide) (hg _ q_2_37) (fun _ h9 => h9) rfl dX9_putOnTape_12 ?_
  refine lv_iload_n hx hb dX9_putOnTape_15 rfl (lv_at hl 2 rfl) ?_
  refine lv_iload_n hx hb dX9_putOnTape_16 rfl (lv_at hl 0 rfl) ?_
  refine lv_iushr hx hb dX9_putOnTape_17 rfl ?_
  refine lv_topi (fun x_15 ex_15 => ?_)
  refine lv_i2b hx hb dX9_putOnTape_18 rfl ?_
  refine lv_topi (fun x_16 ex_16 => ?_)
  refine va_bast hx hb hK hP hD hS 1 1 rfl rfl (iv_in bx_12 (by decide)) dX9_putOnTape_19 (fun H locs hP hD hS => ?_)
  obtain ⟨f_17, hP, hD⟩ : ∃ f_17 : Nat → Int32, va_P V.1 vwCl [(y 0, .inr (9, [.ref (y 1), .int x_12, .ref (y 2), .ref (y 10), .ref (y 19), .ref (y 25), .ref (y 26), .ref (y 30), .ref (y 31), .ref (y 32), o10, o11, .int py0_12, .int py0_13, .int py0_14])), (y 1, aB V 900 f_17)] H ∧ va_D A [(y 0, .inr (9, [.ref (y 1), .int x_12, .ref (y 2), .ref (y 10), .ref (y 19), .ref (y 25), .ref (y 26), .ref (y 30), .ref (y 31), .ref (y 32), o10, o11, .int py0_12, .int py0_13, .int py0_14])), (y 1, aB V 900 f_17)] := ⟨_, hP, hD⟩
  refine lv_aload_n hx hb dX9_putOnTape_20 rfl (lv_at hl 1 rfl) ?_
  refine lv_dup hx hb dX9_putOnTape_21 rfl ?_
  refine va_get (ci := 9) (v := .int x_12) (C := RX9) (T := TX9) (N := 15) hx hb hg inX9 hown hK hP 0 rfl rfl 1 (by decide) (hg _ q_2_37) (fun _ h9 => h9) rfl dX9_putOnTape_22 ?_
  refine lv_iconst (v := 1) hx hb dX9_putOnTape_25 (by decide) ?_
  refine lv_iadd hx hb dX9_putOnTape_26 ?_
  refine lv_topi (fun x_18 ex_18 => ?_)
  have bx_18 : iv 3 883 x_18 := by rw [ex_18]; exact iv_add bx_12 (iv_c (1 : Int32) (a := 1) (b := 1) (by decide)) (by decide)
  refine va_put (ci := 9) (v := .int x_18) (ty := .int) (C := RX9) (T := TX9) (N := 15) hx hb hg inX9 tyX9 tyX9_ok nmX9 hown hK hP hD hS 0 rfl rfl 1 (by decide) (hg _ q_2_37) (fun _ h9 => h9) rfl (by decide +kernel) rfl rfl (Nat.le_of_ble_eq_true rfl) dX9_putOnTape_27 (fun H locs hP hD hS => ?_)
  have hP : va_P V.1 vwCl [(y 0, .inr (9, [.ref (y 1), .int x_18, .ref (y 2), .ref (y 10), .ref (y 19), .ref (y 25), .ref (y 26), .ref (y 30), .ref (y 31), .ref (y 32), o10, o11, .int py0_12, .int py0_13, .int py0_14])), (y 1, aB V 900 f_17)] H := hP
  have hD : va_D A [(y 0, .inr (9, [.ref (y 1), .int x_18, .ref (y 2), .ref (y 10), .ref (y 19), .ref (y 25), .ref (y 26), .ref (y 30), .ref (y 31), .ref (y 32), o10, o11, .int py0_12, .int py0_13, .int py0_14])), (y 1, aB V 900 f_17)] := hD
  refine lv_iinc (v := 0) (lv' := [(2, .int 0), (0, .ref (y 0)), (1, .int a1)]) hx hb dX9_putOnTape_30 hl (k := 0) rfl (by decide +kernel) (by decide) rfl (fun ls hl => ?_)
  refine lv_goto (tgt := 3) hx hb dX9_putOnTape_33 (by decide) ?_
  refine lv_iload_n hx hb dX9_putOnTape_3 rfl (lv_at hl 0 rfl) ?_
  refine lv_if_lt (tgt := 36) hx hb dX9_putOnTape_4 (by decide) (fun c_20 => absurd c_20 (by decide)) (fun _ => ?_)
  refine lv_aload_n hx hb dX9_putOnTape_7 rfl (lv_at hl 1 rfl) ?_
  refine va_get (ci := 9) (v := .ref (y 1)) (C := RX9) (T := TX9) (N := 15) hx hb hg inX9 hown hK hP 0 rfl rfl 0 (by decide) (hg _ q_2_36) (fun _ h9 => h9) rfl dX9_putOnTape_8 ?_
  refine lv_aload_n hx hb dX9_putOnTape_11 rfl (lv_at hl 1 rfl) ?_
  refine va_get (ci := 9) (v := .int x_18) (C := RX9) (T := TX9) (N := 15) hx hb hg inX9 hown hK hP 0 rfl rfl 1 (by decide) (hg _ q_2_37) (fun _ h9 => h9) rfl dX9_putOnTape_12 ?_
  refine lv_iload_n hx hb dX9_putOnTape_15 rfl (lv_at hl 2 rfl) ?_
  refine lv_iload_n hx hb dX9_putOnTape_16 rfl (lv_at hl 0 rfl) ?_
  refine lv_iushr hx hb dX9_putOnTape_17 rfl ?_
  refine lv_topi (fun x_21 ex_21 => ?_)
  refine lv_i2b hx hb dX9_putOnTape_18 rfl ?_
  refine lv_topi (fun x_22 ex_22 => ?_)
  refine va_bast hx hb hK hP hD hS 1 1 rfl rfl (iv_in bx_18 (by decide)) dX9_putOnTape_19 (fun H locs hP hD hS => ?_)
  obtain ⟨f_23, hP, hD⟩ : ∃ f_23 : Nat → Int32, va_P V.1 vwCl [(y 0, .inr (9, [.ref (y 1), .int x_18, .ref (y 2), .ref (y 10), .ref (y 19), .ref (y 25), .ref (y 26), .ref (y 30), .ref (y 31), .ref (y 32), o10, o11, .int py0_12, .int py0_13, .int py0_14])), (y 1, aB V 900 f_23)] H ∧ va_D A [(y 0, .inr (9, [.ref (y 1), .int x_18, .ref (y 2), .ref (y 10), .ref (y 19), .ref (y 25), .ref (y 26), .ref (y 30), .ref (y 31), .ref (y 32), o10, o11, .int py0_12, .int py0_13, .int py0_14])), (y 1, aB V 900 f_23)] := ⟨_, hP, hD⟩
  refine lv_aload_n hx hb dX9_putOnTape_20 rfl (lv_at hl 1 rfl) ?_
  refine lv_dup hx hb dX9_putOnTape_21 rfl ?_
  refine va_get (ci := 9) (v := .int x_18) (C := RX9) (T := TX9) (N := 15) hx hb hg inX9 hown hK hP 0 rfl rfl 1 (by decide) (hg _ q_2_37) (fun _ h9 => h9) rfl dX9_putOnTape_22 ?_
  refine lv_iconst (v := 1) hx hb dX9_putOnTape_25 (by decide) ?_
  refine lv_iadd hx hb dX9_putOnTape_26 ?_
  refine lv_topi (fun x_24 ex_24 => ?_)
  have bx_24 : iv 4 884 x_24 := by rw [ex_24]; exact iv_add bx_18 (iv_c (1 : Int32) (a := 1) (b := 1) (by decide)) (by decide)
  refine va_put (ci := 9) (v := .int x_24) (ty := .int) (C := RX9) (T := TX9) (N := 15) hx hb hg inX9 tyX9 tyX9_ok nmX9 hown hK hP hD hS 0 rfl rfl 1 (by decide) (hg _ q_2_37) (fun _ h9 => h9) rfl (by decide +kernel) rfl rfl (Nat.le_of_ble_eq_true rfl) dX9_putOnTape_27 (fun H locs hP hD hS => ?_)
  have hP : va_P V.1 vwCl [(y 0, .inr (9, [.ref (y 1), .int x_24, .ref (y 2), .ref (y 10), .ref (y 19), .ref (y 25), .ref (y 26), .ref (y 30), .ref (y 31), .ref (y 32), o10, o11, .int py0_12, .int py0_13, .int py0_14])), (y 1, aB V 900 f_23)] H := hP
  have hD : va_D A [(y 0, .inr (9, [.ref (y 1), .int x_24, .ref (y 2), .ref (y 10), .ref (y 19), .ref (y 25), .ref (y 26), .ref (y 30), .ref (y 31), .ref (y 32), o10, o11, .int py0_12, .int py0_13, .int py0_14])), (y 1, aB V 900 f_23)] := hD
  refine lv_iinc (v := (-8)) (lv' := [(2, .int (-8)), (0, .ref (y 0)), (1, .int a1)]) hx hb dX9_putOnTape_30 hl (k := 0) rfl (by decide +kernel) (by decide) rfl (fun ls hl => ?_)
  refine lv_goto (tgt := 3) hx hb dX9_putOnTape_33 (by decide) ?_
  refine lv_iload_n hx hb dX9_putOnTape_3 rfl (lv_at hl 0 rfl) ?_
  refine lv_if_lt (tgt := 36) hx hb dX9_putOnTape_4 (by decide) (fun _ => ?_) (fun c_26 => absurd c_26 (by decide))
  exact fiV hx hb hr hlk hK hP hD hS dX9_putOnTape_36 (Nat.le_of_ble_eq_true rfl) (Nat.le_of_ble_eq_true rfl) (⟨x_24, f_23, (iv_w bx_24 (by decide)), rfl⟩)
set_option maxHeartbeats 4000000 in
set_option maxRecDepth 100000 in
theorem k_X9_putOnTape_1 (l : Launch) (V : GV) (y : Nat → Nat) (a1 : Int32) (py0_1 : Int32) (o10 : Value) (o11 : Value) (py0_12 : Int32) (py0_13 : Int32) (py0_14 : Int32) (fy1 : Nat → Int32) (bpy0_1 : iv 0 884 py0_1) : Ct l V yX9_putOnTape (.code yX9_putOnTape cX9_putOnTape 3 none) 1 [.ref (y 0), .int a1] [(y 0, .inr (9, [.ref (y 1), .int py0_1, .ref (y 2), .ref (y 10), .ref (y 19), .ref (y 25), .ref (y 26), .ref (y 30), .ref (y 31), .ref (y 32), o10, o11, .int py0_12, .int py0_13, .int py0_14])), (y 1, aB V 900 fy1)] 0 0 (QV V (fun (w : va_W) => ∃ (v0 : Int32) (g1 : Nat → Int32), iv 0 888 v0 ∧ w = [(y 0, .inr (9, [.ref (y 1), .int v0, .ref (y 2), .ref (y 10), .ref (y 19), .ref (y 25), .ref (y 26), .ref (y 30), .ref (y 31), .ref (y 32), o10, o11, .int py0_12, .int py0_13, .int py0_14])), (y 1, aB V 900 g1)])) := by
  refine Ct.of (by decide) (Nat.le_of_ble_eq_true rfl) (fun p e s m below meth c A ls hx hb hr hml hown hlk hnm hg hP hK hD hE hA hS hl => ?_)
  have hl : lv_has ls 3 [(0, .ref (y 0)), (1, .int a1)] := hl
  refine lv_bipush (v := 24) hx hb dX9_putOnTape_0 (by decide) ?_
  refine lv_istore_n (lv' := [(2, .int 24), (0, .ref (y 0)), (1, .int a1)]) hx hb dX9_putOnTape_2 rfl hl (by decide) rfl (fun ls hl => ?_)
  refine lv_iload_n hx hb dX9_putOnTape_3 rfl (lv_at hl 0 rfl) ?_
  refine lv_if_lt (tgt := 36) hx hb dX9_putOnTape_4 (by decide) (fun c_2 => absurd c_2 (by decide)) (fun _ => ?_)
  refine lv_aload_n hx hb dX9_putOnTape_7 rfl (lv_at hl 1 rfl) ?_
  refine va_get (ci := 9) (v := .ref (y 1)) (C := RX9) (T := TX9) (N := 15) hx hb hg inX9 hown hK hP 0 rfl rfl 0 (by decide) (hg _ q_2_36) (fun _ h9 => h9) rfl dX9_putOnTape_8 ?_
  refine lv_aload_n hx hb dX9_putOnTape_11 rfl (lv_at hl 1 rfl) ?_
  refine va_get (ci := 9) (v := .int py0_1) (C := RX9) (T := TX9) (N := 15) hx hb hg inX9 hown hK hP 0 rfl rfl 1 (by decide) (hg _ q_2_37) (fun _ h9 => h9) rfl dX9_putOnTape_12 ?_
  refine lv_iload_n hx hb dX9_putOnTape_15 rfl (lv_at hl 2 rfl) ?_
  refine lv_iload_n hx hb dX9_putOnTape_16 rfl (lv_at hl 0 rfl) ?_
  refine lv_iushr hx hb dX9_putOnTape_17 rfl ?_
  refine lv_topi (fun x_3 ex_3 => ?_)
  refine lv_i2b hx hb dX9_putOnTape_18 rfl ?_
  refine lv_topi (fun x_4 ex_4 => ?_)
  refine va_bast hx hb hK hP hD hS 1 1 rfl rfl (iv_in bpy0_1 (by decide)) dX9_putOnTape_19 (fun H locs hP hD hS => ?_)
  obtain ⟨f_5, hP, hD⟩ : ∃ f_5 : Nat → Int32, va_P V.1 vwCl [(y 0, .inr (9, [.ref (y 1), .int py0_1, .ref (y 2), .ref (y 10), .ref (y 19), .ref (y 25), .ref (y 26), .ref (y 30), .ref (y 31), .ref (y 32), o10, o11, .int py0_12, .int py0_13, .int py0_14])), (y 1, aB V 900 f_5)] H ∧ va_D A [(y 0, .inr (9, [.ref (y 1), .int py0_1, .ref (y 2), .ref (y 10), .ref (y 19), .ref (y 25), .ref (y 26), .ref (y 30), .ref (y 31), .ref (y 32), o10, o11, .int py0_12, .int py0_13, .int py0_14])), (y 1, aB V 900 f_5)] := ⟨_, hP, hD⟩
  refine lv_aload_n hx hb dX9_putOnTape_20 rfl (lv_at hl 1 rfl) ?_
  refine lv_dup hx hb dX9_putOnTape_21 rfl ?_
  refine va_get (ci := 9) (v := .int py0_1) (C := RX9) (T := TX9) (N := 15) hx hb hg inX9 hown hK hP 0 rfl rfl 1 (by decide) (hg _ q_2_37) (fun _ h9 => h9) rfl dX9_putOnTape_22 ?_
  refine lv_iconst (v := 1) hx hb dX9_putOnTape_25 (by decide) ?_
  refine lv_iadd hx hb dX9_putOnTape_26 ?_
  refine lv_topi (fun x_6 ex_6 => ?_)
  have bx_6 : iv 1 885 x_6 := by rw [ex_6]; exact iv_add bpy0_1 (iv_c (1 : Int32) (a := 1) (b := 1) (by decide)) (by decide)
  refine va_put (ci := 9) (v := .int x_6) (ty := .int) (C := RX9) (T := TX9) (N := 15) hx hb hg inX9 tyX9 tyX9_ok nmX9 hown hK hP hD hS 0 rfl rfl 1 (by decide) (hg _ q_2_37) (fun _ h9 => h9) rfl (by decide +kernel) rfl rfl (Nat.le_of_ble_eq_true rfl) dX9_putOnTape_27 (fun H locs hP hD hS => ?_)
  have hP : va_P V.1 vwCl [(y 0, .inr (9, [.ref (y 1), .int x_6, .ref (y 2), .ref (y 10), .ref (y 19), .ref (y 25), .ref (y 26), .ref (y 30), .ref (y 31), .ref (y 32), o10, o11, .int py0_12, .int py0_13, .int py0_14])), (y 1, aB V 900 f_5)] H := hP
  have hD : va_D A [(y 0, .inr (9, [.ref (y 1), .int x_6, .ref (y 2), .ref (y 10), .ref (y 19), .ref (y 25), .ref (y 26), .ref (y 30), .ref (y 31), .ref (y 32), o10, o11, .int py0_12, .int py0_13, .int py0_14])), (y 1, aB V 900 f_5)] := hD
  refine lv_iinc (v := 16) (lv' := [(2, .int 16), (0, .ref (y 0)), (1, .int a1)]) hx hb dX9_putOnTape_30 hl (k := 0) rfl (by decide +kernel) (by decide) rfl (fun ls hl => ?_)
  refine lv_goto (tgt := 3) hx hb dX9_putOnTape_33 (by decide) ?_
  refine lv_iload_n hx hb dX9_putOnTape_3 rfl (lv_at hl 0 rfl) ?_
  refine lv_if_lt (tgt := 36) hx hb dX9_putOnTape_4 (by decide) (fun c_8 => absurd c_8 (by decide)) (fun _ => ?_)
  refine lv_aload_n hx hb dX9_putOnTape_7 rfl (lv_at hl 1 rfl) ?_
  refine va_get (ci := 9) (v := .ref (y 1)) (C := RX9) (T := TX9) (N := 15) hx hb hg inX9 hown hK hP 0 rfl rfl 0 (by decide) (hg _ q_2_36) (fun _ h9 => h9) rfl dX9_putOnTape_8 ?_
  refine lv_aload_n hx hb dX9_putOnTape_11 rfl (lv_at hl 1 rfl) ?_
  refine va_get (ci := 9) (v := .int x_6) (C := RX9) (T := TX9) (N := 15) hx hb hg inX9 hown hK hP 0 rfl rfl 1 (by decide) (hg _ q_2_37) (fun _ h9 => h9) rfl dX9_putOnTape_12 ?_
  refine lv_iload_n hx hb dX9_putOnTape_15 rfl (lv_at hl 2 rfl) ?_
  refine lv_iload_n hx hb dX9_putOnTape_16 rfl (lv_at hl 0 rfl) ?_
  refine lv_iushr hx hb dX9_putOnTape_17 rfl ?_
  refine lv_topi (fun x_9 ex_9 => ?_)
  refine lv_i2b hx hb dX9_putOnTape_18 rfl ?_
  refine lv_topi (fun x_10 ex_10 => ?_)
  refine va_bast hx hb hK hP hD hS 1 1 rfl rfl (iv_in bx_6 (by decide)) dX9_putOnTape_19 (fun H locs hP hD hS => ?_)
  obtain ⟨f_11, hP, hD⟩ : ∃ f_11 : Nat → Int32, va_P V.1 vwCl [(y 0, .inr (9, [.ref (y 1), .int x_6, .ref (y 2), .ref (y 10), .ref (y 19), .ref (y 25), .ref (y 26), .ref (y 30), .ref (y 31), .ref (y 32), o10, o11, .int py0_12, .int py0_13, .int py0_14])), (y 1, aB V 900 f_11)] H ∧ va_D A [(y 0, .inr (9, [.ref (y 1), .int x_6, .ref (y 2), .ref (y 10), .ref (y 19), .ref (y 25), .ref (y 26), .ref (y 30), .ref (y 31), .ref (y 32), o10, o11, .int py0_12, .int py0_13, .int py0_14])), (y 1, aB V 900 f_11)] := ⟨_, hP, hD⟩
  refine lv_aload_n hx hb dX9_putOnTape_20 rfl (lv_at hl 1 rfl) ?_
  refine lv_dup hx hb dX9_putOnTape_21 rfl ?_
  refine va_get (ci := 9) (v := .int x_6) (C := RX9) (T := TX9) (N := 15) hx hb hg inX9 hown hK hP 0 rfl rfl 1 (by decide) (hg _ q_2_37) (fun _ h9 => h9) rfl dX9_putOnTape_22 ?_
  refine lv_iconst (v := 1) hx hb dX9_putOnTape_25 (by decide) ?_
  refine lv_iadd hx hb dX9_putOnTape_26 ?_
  refine lv_topi (fun x_12 ex_12 => ?_)
  have bx_12 : iv 2 886 x_12 := by rw [ex_12]; exact iv_add bx_6 (iv_c (1 : Int32) (a := 1) (b := 1) (by decide)) (by decide)
  refine va_put (ci := 9) (v := .int x_12) (ty := .int) (C := RX9) (T := TX9) (N := 15) hx hb hg inX9 tyX9 tyX9_ok nmX9 hown hK hP hD hS 0 rfl rfl 1 (by decide) (hg _ q_2_37) (fun _ h9 => h9) rfl (by decide +kernel) rfl rfl (Nat.le_of_ble_eq_true rfl) dX9_putOnTape_27 (fun H locs hP hD hS => ?_)
  have hP : va_P V.1 vwCl [(y 0, .inr (9, [.ref (y 1), .int x_12, .ref (y 2), .ref (y 10), .ref (y 19), .ref (y 25), .ref (y 26), .ref (y 30), .ref (y 31), .ref (y 32), o10, o11, .int py0_12, .int py0_13, .int py0_14])), (y 1, aB V 900 f_11)] H := hP
  have hD : va_D A [(y 0, .inr (9, [.ref (y 1), .int x_12, .ref (y 2), .ref (y 10), .ref (y 19), .ref (y 25), .ref (y 26), .ref (y 30), .ref (y 31), .ref (y 32), o10, o11, .int py0_12, .int py0_13, .int py0_14])), (y 1, aB V 900 f_11)] := hD
  refine lv_iinc (v := 8) (lv' := [(2, .int 8), (0, .ref (y 0)), (1, .int a1)]) hx hb dX9_putOnTape_30 hl (k := 0) rfl (by decide +kernel) (by decide) rfl (fun ls hl => ?_)
  refine lv_goto (tgt := 3) hx hb dX9_putOnTape_33 (by decide) ?_
  refine lv_iload_n hx hb dX9_putOnTape_3 rfl (lv_at hl 0 rfl) ?_
  refine lv_if_lt (tgt := 36) hx hb dX9_putOnTape_4 (by decide) (fun c_14 => absurd c_14 (by decide)) (fun _ => ?_)
  refine lv_aload_n hx hb dX9_putOnTape_7 rfl (lv_at hl 1 rfl) ?_
  refine va_get (ci := 9) (v := .ref (y 1)) (C := RX9) (T := TX9) (N := 15) hx hb hg inX9 hown hK hP 0 rfl rfl 0 (by decide) (hg _ q_2_36) (fun _ h9 => h9) rfl dX9_putOnTape_8 ?_
  refine lv_aload_n hx hb dX9_putOnTape_11 rfl (lv_at hl 1 rfl) ?_
  refine va_get (ci := 9) (v := .int x_12) (C := RX9) (T := TX9) (N := 15) hx hb hg inX9 hown hK hP 0 rfl rfl 1 (by decide) (hg _ q_2_37) (fun _ h9 => h9) rfl dX9_putOnTape_12 ?_
  refine lv_iload_n hx hb dX9_putOnTape_15 rfl (lv_at hl 2 rfl) ?_
  refine lv_iload_n hx hb dX9_putOnTape_16 rfl (lv_at hl 0 rfl) ?_
  refine lv_iushr hx hb dX9_putOnTape_17 rfl ?_
  refine lv_topi (fun x_15 ex_15 => ?_)
  refine lv_i2b hx hb dX9_putOnTape_18 rfl ?_
  refine lv_topi (fun x_16 ex_16 => ?_)
  refine va_bast hx hb hK hP hD hS 1 1 rfl rfl (iv_in bx_12 (by decide)) dX9_putOnTape_19 (fun H locs hP hD hS => ?_)
  obtain ⟨f_17, hP, hD⟩ : ∃ f_17 : Nat → Int32, va_P V.1 vwCl [(y 0, .inr (9, [.ref (y 1), .int x_12, .ref (y 2), .ref (y 10), .ref (y 19), .ref (y 25), .ref (y 26), .ref (y 30), .ref (y 31), .ref (y 32), o10, o11, .int py0_12, .int py0_13, .int py0_14])), (y 1, aB V 900 f_17)] H ∧ va_D A [(y 0, .inr (9, [.ref (y 1), .int x_12, .ref (y 2), .ref (y 10), .ref (y 19), .ref (y 25), .ref (y 26), .ref (y 30), .ref (y 31), .ref (y 32), o10, o11, .int py0_12, .int py0_13, .int py0_14])), (y 1, aB V 900 f_17)] := ⟨_, hP, hD⟩
  refine lv_aload_n hx hb dX9_putOnTape_20 rfl (lv_at hl 1 rfl) ?_
  refine lv_dup hx hb dX9_putOnTape_21 rfl ?_
  refine va_get (ci := 9) (v := .int x_12) (C := RX9) (T := TX9) (N := 15) hx hb hg inX9 hown hK hP 0 rfl rfl 1 (by decide) (hg _ q_2_37) (fun _ h9 => h9) rfl dX9_putOnTape_22 ?_
  refine lv_iconst (v := 1) hx hb dX9_putOnTape_25 (by decide) ?_
  refine lv_iadd hx hb dX9_putOnTape_26 ?_
  refine lv_topi (fun x_18 ex_18 => ?_)
  have bx_18 : iv 3 887 x_18 := by rw [ex_18]; exact iv_add bx_12 (iv_c (1 : Int32) (a := 1) (b := 1) (by decide)) (by decide)
  refine va_put (ci := 9) (v := .int x_18) (ty := .int) (C := RX9) (T := TX9) (N := 15) hx hb hg inX9 tyX9 tyX9_ok nmX9 hown hK hP hD hS 0 rfl rfl 1 (by decide) (hg _ q_2_37) (fun _ h9 => h9) rfl (by decide +kernel) rfl rfl (Nat.le_of_ble_eq_true rfl) dX9_putOnTape_27 (fun H locs hP hD hS => ?_)
  have hP : va_P V.1 vwCl [(y 0, .inr (9, [.ref (y 1), .int x_18, .ref (y 2), .ref (y 10), .ref (y 19), .ref (y 25), .ref (y 26), .ref (y 30), .ref (y 31), .ref (y 32), o10, o11, .int py0_12, .int py0_13, .int py0_14])), (y 1, aB V 900 f_17)] H := hP
  have hD : va_D A [(y 0, .inr (9, [.ref (y 1), .int x_18, .ref (y 2), .ref (y 10), .ref (y 19), .ref (y 25), .ref (y 26), .ref (y 30), .ref (y 31), .ref (y 32), o10, o11, .int py0_12, .int py0_13, .int py0_14])), (y 1, aB V 900 f_17)] := hD
  refine lv_iinc (v := 0) (lv' := [(2, .int 0), (0, .ref (y 0)), (1, .int a1)]) hx hb dX9_putOnTape_30 hl (k := 0) rfl (by decide +kernel) (by decide) rfl (fun ls hl => ?_)
  refine lv_goto (tgt := 3) hx hb dX9_putOnTape_33 (by decide) ?_
  refine lv_iload_n hx hb dX9_putOnTape_3 rfl (lv_at hl 0 rfl) ?_
  refine lv_if_lt (tgt := 36) hx hb dX9_putOnTape_4 (by decide) (fun c_20 => absurd c_20 (by decide)) (fun _ => ?_)
  refine lv_aload_n hx hb dX9_putOnTape_7 rfl (lv_at hl 1 rfl) ?_
  refine va_get (ci := 9) (v := .ref (y 1)) (C := RX9) (T := TX9) (N := 15) hx hb hg inX9 hown hK hP 0 rfl rfl 0 (by decide) (hg _ q_2_36) (fun _ h9 => h9) rfl dX9_putOnTape_8 ?_
  refine lv_aload_n hx hb dX9_putOnTape_11 rfl (lv_at hl 1 rfl) ?_
  refine va_get (ci := 9) (v := .int x_18) (C := RX9) (T := TX9) (N := 15) hx hb hg inX9 hown hK hP 0 rfl rfl 1 (by decide) (hg _ q_2_37) (fun _ h9 => h9) rfl dX9_putOnTape_12 ?_
  refine lv_iload_n hx hb dX9_putOnTape_15 rfl (lv_at hl 2 rfl) ?_
  refine lv_iload_n hx hb dX9_putOnTape_16 rfl (lv_at hl 0 rfl) ?_
  refine lv_iushr hx hb dX9_putOnTape_17 rfl ?_
  refine lv_topi (fun x_21 ex_21 => ?_)
  refine lv_i2b hx hb dX9_putOnTape_18 rfl ?_
  refine lv_topi (fun x_22 ex_22 => ?_)
  refine va_bast hx hb hK hP hD hS 1 1 rfl rfl (iv_in bx_18 (by decide)) dX9_putOnTape_19 (fun H locs hP hD hS => ?_)
  obtain ⟨f_23, hP, hD⟩ : ∃ f_23 : Nat → Int32, va_P V.1 vwCl [(y 0, .inr (9, [.ref (y 1), .int x_18, .ref (y 2), .ref (y 10), .ref (y 19), .ref (y 25), .ref (y 26), .ref (y 30), .ref (y 31), .ref (y 32), o10, o11, .int py0_12, .int py0_13, .int py0_14])), (y 1, aB V 900 f_23)] H ∧ va_D A [(y 0, .inr (9, [.ref (y 1), .int x_18, .ref (y 2), .ref (y 10), .ref (y 19), .ref (y 25), .ref (y 26), .ref (y 30), .ref (y 31), .ref (y 32), o10, o11, .int py0_12, .int py0_13, .int py0_14])), (y 1, aB V 900 f_23)] := ⟨_, hP, hD⟩
  refine lv_aload_n hx hb dX9_putOnTape_20 rfl (lv_at hl 1 rfl) ?_
  refine lv_dup hx hb dX9_putOnTape_21 rfl ?_
  refine va_get (ci := 9) (v := .int x_18) (C := RX9) (T := TX9) (N := 15) hx hb hg inX9 hown hK hP 0 rfl rfl 1 (by decide) (hg _ q_2_37) (fun _ h9 => h9) rfl dX9_putOnTape_22 ?_
  refine lv_iconst (v := 1) hx hb dX9_putOnTape_25 (by decide) ?_
  refine lv_iadd hx hb dX9_putOnTape_26 ?_
  refine lv_topi (fun x_24 ex_24 => ?_)
  have bx_24 : iv 4 888 x_24 := by rw [ex_24]; exact iv_add bx_18 (iv_c (1 : Int32) (a := 1) (b := 1) (by decide)) (by decide)
  refine va_put (ci := 9) (v := .int x_24) (ty := .int) (C := RX9) (T := TX9) (N := 15) hx hb hg inX9 tyX9 tyX9_ok nmX9 hown hK hP hD hS 0 rfl rfl 1 (by decide) (hg _ q_2_37) (fun _ h9 => h9) rfl (by decide +kernel) rfl rfl (Nat.le_of_ble_eq_true rfl) dX9_putOnTape_27 (fun H locs hP hD hS => ?_)
  have hP : va_P V.1 vwCl [(y 0, .inr (9, [.ref (y 1), .int x_24, .ref (y 2), .ref (y 10), .ref (y 19), .ref (y 25), .ref (y 26), .ref (y 30), .ref (y 31), .ref (y 32), o10, o11, .int py0_12, .int py0_13, .int py0_14])), (y 1, aB V 900 f_23)] H := hP
  have hD : va_D A [(y 0, .inr (9, [.ref (y 1), .int x_24, .ref (y 2), .ref (y 10), .ref (y 19), .ref (y 25), .ref (y 26), .ref (y 30), .ref (y 31), .ref (y 32), o10, o11, .int py0_12, .int py0_13, .int py0_14])), (y 1, aB V 900 f_23)] := hD
  refine lv_iinc (v := (-8)) (lv' := [(2, .int (-8)), (0, .ref (y 0)), (1, .int a1)]) hx hb dX9_putOnTape_30 hl (k := 0) rfl (by decide +kernel) (by decide) rfl (fun ls hl => ?_)
  refine lv_goto (tgt := 3) hx hb dX9_putOnTape_33 (by decide) ?_
  refine lv_iload_n hx hb dX9_putOnTape_3 rfl (lv_at hl 0 rfl) ?_
  refine lv_if_lt (tgt := 36) hx hb dX9_putOnTape_4 (by decide) (fun _ => ?_) (fun c_26 => absurd c_26 (by decide))
  exact fiV hx hb hr hlk hK hP hD hS dX9_putOnTape_36 (Nat.le_of_ble_eq_true rfl) (Nat.le_of_ble_eq_true rfl) (⟨x_24, f_23, (iv_w bx_24 (by decide)), rfl⟩)
set_option maxHeartbeats 4000000 in
set_option maxRecDepth 100000 in
theorem k_X9_putOnTape_2 (l : Launch) (V : GV) (y : Nat → Nat) (a1 : Int32) (py0_1 : Int32) (o10 : Value) (o11 : Value) (py0_12 : Int32) (py0_13 : Int32) (py0_14 : Int32) (fy1 : Nat → Int32) (bpy0_1 : iv 0 888 py0_1) : Ct l V yX9_putOnTape (.code yX9_putOnTape cX9_putOnTape 3 none) 1 [.ref (y 0), .int a1] [(y 0, .inr (9, [.ref (y 1), .int py0_1, .ref (y 2), .ref (y 10), .ref (y 19), .ref (y 25), .ref (y 26), .ref (y 30), .ref (y 31), .ref (y 32), o10, o11, .int py0_12, .int py0_13, .int py0_14])), (y 1, aB V 900 fy1)] 0 0 (QV V (fun (w : va_W) => ∃ (v0 : Int32) (g1 : Nat → Int32), iv 0 892 v0 ∧ w = [(y 0, .inr (9, [.ref (y 1), .int v0, .ref (y 2), .ref (y 10), .ref (y 19), .ref (y 25), .ref (y 26), .ref (y 30), .ref (y 31), .ref (y 32), o10, o11, .int py0_12, .int py0_13, .int py0_14])), (y 1, aB V 900 g1)])) := by
  refine Ct.of (by decide) (Nat.le_of_ble_eq_true rfl) (fun p e s m below meth c A ls hx hb hr hml hown hlk hnm hg hP hK hD hE hA hS hl => ?_)
  have hl : lv_has ls 3 [(0, .ref (y 0)), (1, .int a1)] := hl
  refine lv_bipush (v := 24) hx hb dX9_putOnTape_0 (by decide) ?_
  refine lv_istore_n (lv' := [(2, .int 24), (0, .ref (y 0)), (1, .int a1)]) hx hb dX9_putOnTape_2 rfl hl (by decide) rfl (fun ls hl => ?_)
  refine lv_iload_n hx hb dX9_putOnTape_3 rfl (lv_at hl 0 rfl) ?_
  refine lv_if_lt (tgt := 36) hx hb dX9_putOnTape_4 (by decide) (fun c_2 => absurd c_2 (by decide)) (fun _ => ?_)
  refine lv_aload_n hx hb dX9_putOnTape_7 rfl (lv_at hl 1 rfl) ?_
  refine va_get (ci := 9) (v := .ref (y 1)) (C := RX9) (T := TX9) (N := 15) hx hb hg inX9 hown hK hP 0 rfl rfl 0 (by decide) (hg _ q_2_36) (fun _ h9 => h9) rfl dX9_putOnTape_8 ?_
  refine lv_aload_n hx hb dX9_putOnTape_11 rfl (lv_at hl 1 rfl) ?_
  refine va_get (ci := 9) (v := .int py0_1) (C := RX9) (T := TX9) (N := 15) hx hb hg inX9 hown hK hP 0 rfl rfl 1 (by decide) (hg _ q_2_37) (fun _ h9 => h9) rfl dX9_putOnTape_12 ?_
  refine lv_iload_n hx hb dX9_putOnTape_15 rfl (lv_at hl 2 rfl) ?_
  refine lv_iload_n hx hb dX9_putOnTape_16 rfl (lv_at hl 0 rfl) ?_
  refine lv_iushr hx hb dX9_putOnTape_17 rfl ?_
  refine lv_topi (fun x_3 ex_3 => ?_)
  refine lv_i2b hx hb dX9_putOnTape_18 rfl ?_
  refine lv_topi (fun x_4 ex_4 => ?_)
  refine va_bast hx hb hK hP hD hS 1 1 rfl rfl (iv_in bpy0_1 (by decide)) dX9_putOnTape_19 (fun H locs hP hD hS => ?_)
  obtain ⟨f_5, hP, hD⟩ : ∃ f_5 : Nat → Int32, va_P V.1 vwCl [(y 0, .inr (9, [.ref (y 1), .int py0_1, .ref (y 2), .ref (y 10), .ref (y 19), .ref (y 25), .ref (y 26), .ref (y 30), .ref (y 31), .ref (y 32), o10, o11, .int py0_12, .int py0_13, .int py0_14])), (y 1, aB V 900 f_5)] H ∧ va_D A [(y 0, .inr (9, [.ref (y 1), .int py0_1, .ref (y 2), .ref (y 10), .ref (y 19), .ref (y 25), .ref (y 26), .ref (y 30), .ref (y 31), .ref (y 32), o10, o11, .int py0_12, .int py0_13, .int py0_14])), (y 1, aB V 900 f_5)] := ⟨_, hP, hD⟩
  refine lv_aload_n hx hb dX9_putOnTape_20 rfl (lv_at hl 1 rfl) ?_
  refine lv_dup hx hb dX9_putOnTape_21 rfl ?_
  refine va_get (ci := 9) (v := .int py0_1) (C := RX9) (T := TX9) (N := 15) hx hb hg inX9 hown hK hP 0 rfl rfl 1 (by decide) (hg _ q_2_37) (fun _ h9 => h9) rfl dX9_putOnTape_22 ?_
  refine lv_iconst (v := 1) hx hb dX9_putOnTape_25 (by decide) ?_
  refine lv_iadd hx hb dX9_putOnTape_26 ?_
  refine lv_topi (fun x_6 ex_6 => ?_)
  have bx_6 : iv 1 889 x_6 := by rw [ex_6]; exact iv_add bpy0_1 (iv_c (1 : Int32) (a := 1) (b := 1) (by decide)) (by decide)
  refine va_put (ci := 9) (v := .int x_6) (ty := .int) (C := RX9) (T := TX9) (N := 15) hx hb hg inX9 tyX9 tyX9_ok nmX9 hown hK hP hD hS 0 rfl rfl 1 (by decide) (hg _ q_2_37) (fun _ h9 => h9) rfl (by decide +kernel) rfl rfl (Nat.le_of_ble_eq_true rfl) dX9_putOnTape_27 (fun H locs hP hD hS => ?_)
  have hP : va_P V.1 vwCl [(y 0, .inr (9, [.ref (y 1), .int x_6, .ref (y 2), .ref (y 10), .ref (y 19), .ref (y 25), .ref (y 26), .ref (y 30), .ref (y 31), .ref (y 32), o10, o11, .int py0_12, .int py0_13, .int py0_14])), (y 1, aB V 900 f_5)] H := hP
  have hD : va_D A [(y 0, .inr (9, [.ref (y 1), .int x_6, .ref (y 2), .ref (y 10), .ref (y 19), .ref (y 25), .ref (y 26), .ref (y 30), .ref (y 31), .ref (y 32), o10, o11, .int py0_12, .int py0_13, .int py0_14])), (y 1, aB V 900 f_5)] := hD
  refine lv_iinc (v := 16) (lv' := [(2, .int 16), (0, .ref (y 0)), (1, .int a1)]) hx hb dX9_putOnTape_30 hl (k := 0) rfl (by decide +kernel) (by decide) rfl (fun ls hl => ?_)
  refine lv_goto (tgt := 3) hx hb dX9_putOnTape_33 (by decide) ?_
  refine lv_iload_n hx hb dX9_putOnTape_3 rfl (lv_at hl 0 rfl) ?_
  refine lv_if_lt (tgt := 36) hx hb dX9_putOnTape_4 (by decide) (fun c_8 => absurd c_8 (by decide)) (fun _ => ?_)
  refine lv_aload_n hx hb dX9_putOnTape_7 rfl (lv_at hl 1 rfl) ?_
  refine va_get (ci := 9) (v := .ref (y 1)) (C := RX9) (T := TX9) (N := 15) hx hb hg inX9 hown hK hP 0 rfl rfl 0 (by decide) (hg _ q_2_36) (fun _ h9 => h9) rfl dX9_putOnTape_8 ?_
  refine lv_aload_n hx hb dX9_putOnTape_11 rfl (lv_at hl 1 rfl) ?_
  refine va_get (ci := 9) (v := .int x_6) (C := RX9) (T := TX9) (N := 15) hx hb hg inX9 hown hK hP 0 rfl rfl 1 (by decide) (hg _ q_2_37) (fun _ h9 => h9) rfl dX9_putOnTape_12 ?_
  refine lv_iload_n hx hb dX9_putOnTape_15 rfl (lv_at hl 2 rfl) ?_
  refine lv_iload_n hx hb dX9_putOnTape_16 rfl (lv_at hl 0 rfl) ?_
  refine lv_iushr hx hb dX9_putOnTape_17 rfl ?_
  refine lv_topi (fun x_9 ex_9 => ?_)
  refine lv_i2b hx hb dX9_putOnTape_18 rfl ?_
  refine lv_topi (fun x_10 ex_10 => ?_)
  refine va_bast hx hb hK hP hD hS 1 1 rfl rfl (iv_in bx_6 (by decide)) dX9_putOnTape_19 (fun H locs hP hD hS => ?_)
  obtain ⟨f_11, hP, hD⟩ : ∃ f_11 : Nat → Int32, va_P V.1 vwCl [(y 0, .inr (9, [.ref (y 1), .int x_6, .ref (y 2), .ref (y 10), .ref (y 19), .ref (y 25), .ref (y 26), .ref (y 30), .ref (y 31), .ref (y 32), o10, o11, .int py0_12, .int py0_13, .int py0_14])), (y 1, aB V 900 f_11)] H ∧ va_D A [(y 0, .inr (9, [.ref (y 1), .int x_6, .ref (y 2), .ref (y 10), .ref (y 19), .ref (y 25), .ref (y 26), .ref (y 30), .ref (y 31), .ref (y 32), o10, o11, .int py0_12, .int py0_13, .int py0_14])), (y 1, aB V 900 f_11)] := ⟨_, hP, hD⟩
  refine lv_aload_n hx hb dX9_putOnTape_20 rfl (lv_at hl 1 rfl) ?_
  refine lv_dup hx hb dX9_putOnTape_21 rfl ?_
  refine va_get (ci := 9) (v := .int x_6) (C := RX9) (T := TX9) (N := 15) hx hb hg inX9 hown hK hP 0 rfl rfl 1 (by decide) (hg _ q_2_37) (fun _ h9 => h9) rfl dX9_putOnTape_22 ?_
  refine lv_iconst (v := 1) hx hb dX9_putOnTape_25 (by decide) ?_
  refine lv_iadd hx hb dX9_putOnTape_26 ?_
  refine lv_topi (fun x_12 ex_12 => ?_)
  have bx_12 : iv 2 890 x_12 := by rw [ex_12]; exact iv_add bx_6 (iv_c (1 : Int32) (a := 1) (b := 1) (by decide)) (by decide)
  refine va_put (ci := 9) (v := .int x_12) (ty := .int) (C := RX9) (T := TX9) (N := 15) hx hb hg inX9 tyX9 tyX9_ok nmX9 hown hK hP hD hS 0 rfl rfl 1 (by decide) (hg _ q_2_37) (fun _ h9 => h9) rfl (by decide +kernel) rfl rfl (Nat.le_of_ble_eq_true rfl) dX9_putOnTape_27 (fun H locs hP hD hS => ?_)
  have hP : va_P V.1 vwCl [(y 0, .inr (9, [.ref (y 1), .int x_12, .ref (y 2), .ref (y 10), .ref (y 19), .ref (y 25), .ref (y 26), .ref (y 30), .ref (y 31), .ref (y 32), o10, o11, .int py0_12, .int py0_13, .int py0_14])), (y 1, aB V 900 f_11)] H := hP
  have hD : va_D A [(y 0, .inr (9, [.ref (y 1), .int x_12, .ref (y 2), .ref (y 10), .ref (y 19), .ref (y 25), .ref (y 26), .ref (y 30), .ref (y 31), .ref (y 32), o10, o11, .int py0_12, .int py0_13, .int py0_14])), (y 1, aB V 900 f_11)] := hD
  refine lv_iinc (v := 8) (lv' := [(2, .int 8), (0, .ref (y 0)), (1, .int a1)]) hx hb dX9_putOnTape_30 hl (k := 0) rfl (by decide +kernel) (by decide) rfl (fun ls hl => ?_)
  refine lv_goto (tgt := 3) hx hb dX9_putOnTape_33 (by decide) ?_
  refine lv_iload_n hx hb dX9_putOnTape_3 rfl (lv_at hl 0 rfl) ?_
  refine lv_if_lt (tgt := 36) hx hb dX9_putOnTape_4 (by decide) (fun c_14 => absurd c_14 (by decide)) (fun _ => ?_)
  refine lv_aload_n hx hb dX9_putOnTape_7 rfl (lv_at hl 1 rfl) ?_
  refine va_get (ci := 9) (v := .ref (y 1)) (C := RX9) (T := TX9) (N := 15) hx hb hg inX9 hown hK hP 0 rfl rfl 0 (by decide) (hg _ q_2_36) (fun _ h9 => h9) rfl dX9_putOnTape_8 ?_
  refine lv_aload_n hx hb dX9_putOnTape_11 rfl (lv_at hl 1 rfl) ?_
  refine va_get (ci := 9) (v := .int x_12) (C := RX9) (T := TX9) (N := 15) hx hb hg inX9 hown hK hP 0 rfl rfl 1 (by decide) (hg _ q_2_37) (fun _ h9 => h9) rfl dX9_putOnTape_12 ?_
  refine lv_iload_n hx hb dX9_putOnTape_15 rfl (lv_at hl 2 rfl) ?_
  refine lv_iload_n hx hb dX9_putOnTape_16 rfl (lv_at hl 0 rfl) ?_
  refine lv_iushr hx hb dX9_putOnTape_17 rfl ?_
  refine lv_topi (fun x_15 ex_15 => ?_)
  refine lv_i2b hx hb dX9_putOnTape_18 rfl ?_
  refine lv_topi (fun x_16 ex_16 => ?_)
  refine va_bast hx hb hK hP hD hS 1 1 rfl rfl (iv_in bx_12 (by decide)) dX9_putOnTape_19 (fun H locs hP hD hS => ?_)
  obtain ⟨f_17, hP, hD⟩ : ∃ f_17 : Nat → Int32, va_P V.1 vwCl [(y 0, .inr (9, [.ref (y 1), .int x_12, .ref (y 2), .ref (y 10), .ref (y 19), .ref (y 25), .ref (y 26), .ref (y 30), .ref (y 31), .ref (y 32), o10, o11, .int py0_12, .int py0_13, .int py0_14])), (y 1, aB V 900 f_17)] H ∧ va_D A [(y 0, .inr (9, [.ref (y 1), .int x_12, .ref (y 2), .ref (y 10), .ref (y 19), .ref (y 25), .ref (y 26), .ref (y 30), .ref (y 31), .ref (y 32), o10, o11, .int py0_12, .int py0_13, .int py0_14])), (y 1, aB V 900 f_17)] := ⟨_, hP, hD⟩
  refine lv_aload_n hx hb dX9_putOnTape_20 rfl (lv_at hl 1 rfl) ?_
  refine lv_dup hx hb dX9_putOnTape_21 rfl ?_
  refine va_get (ci := 9) (v := .int x_12) (C := RX9) (T := TX9) (N := 15) hx hb hg inX9 hown hK hP 0 rfl rfl 1 (by decide) (hg _ q_2_37) (fun _ h9 => h9) rfl dX9_putOnTape_22 ?_
  refine lv_iconst (v := 1) hx hb dX9_putOnTape_25 (by decide) ?_
  refine lv_iadd hx hb dX9_putOnTape_26 ?_
  refine lv_topi (fun x_18 ex_18 => ?_)
  have bx_18 : iv 3 891 x_18 := by rw [ex_18]; exact iv_add bx_12 (iv_c (1 : Int32) (a := 1) (b := 1) (by decide)) (by decide)
  refine va_put (ci := 9) (v := .int x_18) (ty := .int) (C := RX9) (T := TX9) (N := 15) hx hb hg inX9 tyX9 tyX9_ok nmX9 hown hK hP hD hS 0 rfl rfl 1 (by decide) (hg _ q_2_37) (fun _ h9 => h9) rfl (by decide +kernel) rfl rfl (Nat.le_of_ble_eq_true rfl) dX9_putOnTape_27 (fun H locs hP hD hS => ?_)
  have hP : va_P V.1 vwCl [(y 0, .inr (9, [.ref (y 1), .int x_18, .ref (y 2), .ref (y 10), .ref (y 19), .ref (y 25), .ref (y 26), .ref (y 30), .ref (y 31), .ref (y 32), o10, o11, .int py0_12, .int py0_13, .int py0_14])), (y 1, aB V 900 f_17)] H := hP
  have hD : va_D A [(y 0, .inr (9, [.ref (y 1), .int x_18, .ref (y 2), .ref (y 10), .ref (y 19), .ref (y 25), .ref (y 26), .ref (y 30), .ref (y 31), .ref (y 32), o10, o11, .int py0_12, .int py0_13, .int py0_14])), (y 1, aB V 900 f_17)] := hD
  refine lv_iinc (v := 0) (lv' := [(2, .int 0), (0, .ref (y 0)), (1, .int a1)]) hx hb dX9_putOnTape_30 hl (k := 0) rfl (by decide +kernel) (by decide) rfl (fun ls hl => ?_)
  refine lv_goto (tgt := 3) hx hb dX9_putOnTape_33 (by decide) ?_
  refine lv_iload_n hx hb dX9_putOnTape_3 rfl (lv_at hl 0 rfl) ?_
  refine lv_if_lt (tgt := 36) hx hb dX9_putOnTape_4 (by decide) (fun c_20 => absurd c_20 (by decide)) (fun _ => ?_)
  refine lv_aload_n hx hb dX9_putOnTape_7 rfl (lv_at hl 1 rfl) ?_
  refine va_get (ci := 9) (v := .ref (y 1)) (C := RX9) (T := TX9) (N := 15) hx hb hg inX9 hown hK hP 0 rfl rfl 0 (by decide) (hg _ q_2_36) (fun _ h9 => h9) rfl dX9_putOnTape_8 ?_
  refine lv_aload_n hx hb dX9_putOnTape_11 rfl (lv_at hl 1 rfl) ?_
  refine va_get (ci := 9) (v := .int x_18) (C := RX9) (T := TX9) (N := 15) hx hb hg inX9 hown hK hP 0 rfl rfl 1 (by decide) (hg _ q_2_37) (fun _ h9 => h9) rfl dX9_putOnTape_12 ?_
  refine lv_iload_n hx hb dX9_putOnTape_15 rfl (lv_at hl 2 rfl) ?_
  refine lv_iload_n hx hb dX9_putOnTape_16 rfl (lv_at hl 0 rfl) ?_
  refine lv_iushr hx hb dX9_putOnTape_17 rfl ?_
  refine lv_topi (fun x_21 ex_21 => ?_)
  refine lv_i2b hx hb dX9_putOnTape_18 rfl ?_
  refine lv_topi (fun x_22 ex_22 => ?_)
  refine va_bast hx hb hK hP hD hS 1 1 rfl rfl (iv_in bx_18 (by decide)) dX9_putOnTape_19 (fun H locs hP hD hS => ?_)
  obtain ⟨f_23, hP, hD⟩ : ∃ f_23 : Nat → Int32, va_P V.1 vwCl [(y 0, .inr (9, [.ref (y 1), .int x_18, .ref (y 2), .ref (y 10), .ref (y 19), .ref (y 25), .ref (y 26), .ref (y 30), .ref (y 31), .ref (y 32), o10, o11, .int py0_12, .int py0_13, .int py0_14])), (y 1, aB V 900 f_23)] H ∧ va_D A [(y 0, .inr (9, [.ref (y 1), .int x_18, .ref (y 2), .ref (y 10), .ref (y 19), .ref (y 25), .ref (y 26), .ref (y 30), .ref (y 31), .ref (y 32), o10, o11, .int py0_12, .int py0_13, .int py0_14])), (y 1, aB V 900 f_23)] := ⟨_, hP, hD⟩
  refine lv_aload_n hx hb dX9_putOnTape_20 rfl (lv_at hl 1 rfl) ?_
  refine lv_dup hx hb dX9_putOnTape_21 rfl ?_
  refine va_get (ci := 9) (v := .int x_18) (C := RX9) (T := TX9) (N := 15) hx hb hg inX9 hown hK hP 0 rfl rfl 1 (by decide) (hg _ q_2_37) (fun _ h9 => h9) rfl dX9_putOnTape_22 ?_
  refine lv_iconst (v := 1) hx hb dX9_putOnTape_25 (by decide) ?_
  refine lv_iadd hx hb dX9_putOnTape_26 ?_
  refine lv_topi (fun x_24 ex_24 => ?_)
  have bx_24 : iv 4 892 x_24 := by rw [ex_24]; exact iv_add bx_18 (iv_c (1 : Int32) (a := 1) (b := 1) (by decide)) (by decide)
  refine va_put (ci := 9) (v := .int x_24) (ty := .int) (C := RX9) (T := TX9) (N := 15) hx hb hg inX9 tyX9 tyX9_ok nmX9 hown hK hP hD hS 0 rfl rfl 1 (by decide) (hg _ q_2_37) (fun _ h9 => h9) rfl (by decide +kernel) rfl rfl (Nat.le_of_ble_eq_true rfl) dX9_putOnTape_27 (fun H locs hP hD hS => ?_)
  have hP : va_P V.1 vwCl [(y 0, .inr (9, [.ref (y 1), .int x_24, .ref (y 2), .ref (y 10), .ref (y 19), .ref (y 25), .ref (y 26), .ref (y 30), .ref (y 31), .ref (y 32), o10, o11, .int py0_12, .int py0_13, .int py0_14])), (y 1, aB V 900 f_23)] H := hP
  have hD : va_D A [(y 0, .inr (9, [.ref (y 1), .int x_24, .ref (y 2), .ref (y 10), .ref (y 19), .ref (y 25), .ref (y 26), .ref (y 30), .ref (y 31), .ref (y 32), o10, o11, .int py0_12, .int py0_13, .int py0_14])), (y 1, aB V 900 f_23)] := hD
  refine lv_iinc (v := (-8)) (lv' := [(2, .int (-8)), (0, .ref (y 0)), (1, .int a1)]) hx hb dX9_putOnTape_30 hl (k := 0) rfl (by decide +kernel) (by decide) rfl (fun ls hl => ?_)
  refine lv_goto (tgt := 3) hx hb dX9_putOnTape_33 (by decide) ?_
  refine lv_iload_n hx hb dX9_putOnTape_3 rfl (lv_at hl 0 rfl) ?_
  refine lv_if_lt (tgt := 36) hx hb dX9_putOnTape_4 (by decide) (fun _ => ?_) (fun c_26 => absurd c_26 (by decide))
  exact fiV hx hb hr hlk hK hP hD hS dX9_putOnTape_36 (Nat.le_of_ble_eq_true rfl) (Nat.le_of_ble_eq_true rfl) (⟨x_24, f_23, (iv_w bx_24 (by decide)), rfl⟩)
set_option maxHeartbeats 4000000 in
set_option maxRecDepth 100000 in
theorem k_X9_putOnTape_3 (l : Launch) (V : GV) (y : Nat → Nat) (a1 : Int32) (py0_1 : Int32) (o10 : Value) (o11 : Value) (py0_12 : Int32) (py0_13 : Int32) (py0_14 : Int32) (fy1 : Nat → Int32) (bpy0_1 : iv 0 892 py0_1) : Ct l V yX9_putOnTape (.code yX9_putOnTape cX9_putOnTape 3 none) 1 [.ref (y 0), .int a1] [(y 0, .inr (9, [.ref (y 1), .int py0_1, .ref (y 2), .ref (y 10), .ref (y 19), .ref (y 25), .ref (y 26), .ref (y 30), .ref (y 31), .ref (y 32), o10, o11, .int py0_12, .int py0_13, .int py0_14])), (y 1, aB V 900 fy1)] 0 0 (QV V (fun (w : va_W) => ∃ (v0 : Int32) (g1 : Nat → Int32), iv 0 896 v0 ∧ w = [(y 0, .inr (9, [.ref (y 1), .int v0, .ref (y 2), .ref (y 10), .ref (y 19), .ref (y 25), .ref (y 26), .ref (y 30), .ref (y 31), .ref (y 32), o10, o11, .int py0_12, .int py0_13, .int py0_14])), (y 1, aB V 900 g1)])) := by
  refine Ct.of (by decide) (Nat.le_of_ble_eq_true rfl) (fun p e s m below meth c A ls hx hb hr hml hown hlk hnm hg hP hK hD hE hA hS hl => ?_)
  have hl : lv_has ls 3 [(0, .ref (y 0)), (1, .int a1)] := hl
  refine lv_bipush (v := 24) hx hb dX9_putOnTape_0 (by decide) ?_
  refine lv_istore_n (lv' := [(2, .int 24), (0, .ref (y 0)), (1, .int a1)]) hx hb dX9_putOnTape_2 rfl hl (by decide) rfl (fun ls hl => ?_)
  refine lv_iload_n hx hb dX9_putOnTape_3 rfl (lv_at hl 0 rfl) ?_
  refine lv_if_lt (tgt := 36) hx hb dX9_putOnTape_4 (by decide) (fun c_2 => absurd c_2 (by decide)) (fun _ => ?_)
  refine lv_aload_n hx hb dX9_putOnTape_7 rfl (lv_at hl 1 rfl) ?_
  refine va_get (ci := 9) (v := .ref (y 1)) (C := RX9) (T := TX9) (N := 15) hx hb hg inX9 hown hK hP 0 rfl rfl 0 (by decide) (hg _ q_2_36) (fun _ h9 => h9) rfl dX9_putOnTape_8 ?_
  refine lv_aload_n hx hb dX9_putOnTape_11 rfl (lv_at hl 1 rfl) ?_
  refine va_get (ci := 9) (v := .int py0_1) (C := RX9) (T := TX9) (N := 15) hx hb hg inX9 hown hK hP 0 rfl rfl 1 (by decide) (hg _ q_2_37) (fun _ h9 => h9) rfl dX9_putOnTape_12 ?_
  refine lv_iload_n hx hb dX9_putOnTape_15 rfl (lv_at hl 2 rfl) ?_
  refine lv_iload_n hx hb dX9_putOnTape_16 rfl (lv_at hl 0 rfl) ?_
  refine lv_iushr hx hb dX9_putOnTape_17 rfl ?_
  refine lv_topi (fun x_3 ex_3 => ?_)
  refine lv_i2b hx hb dX9_putOnTape_18 rfl ?_
  refine lv_topi (fun x_4 ex_4 => ?_)
  refine va_bast hx hb hK hP hD hS 1 1 rfl rfl (iv_in bpy0_1 (by decide)) dX9_putOnTape_19 (fun H locs hP hD hS => ?_)
  obtain ⟨f_5, hP, hD⟩ : ∃ f_5 : Nat → Int32, va_P V.1 vwCl [(y 0, .inr (9, [.ref (y 1), .int py0_1, .ref (y 2), .ref (y 10), .ref (y 19), .ref (y 25), .ref (y 26), .ref (y 30), .ref (y 31), .ref (y 32), o10, o11, .int py0_12, .int py0_13, .int py0_14])), (y 1, aB V 900 f_5)] H ∧ va_D A [(y 0, .inr (9, [.ref (y 1), .int py0_1, .ref (y 2), .ref (y 10), .ref (y 19), .ref (y 25), .ref (y 26), .ref (y 30), .ref (y 31), .ref (y 32), o10, o11, .int py0_12, .int py0_13, .int py0_14])), (y 1, aB V 900 f_5)] := ⟨_, hP, hD⟩
  refine lv_aload_n hx hb dX9_putOnTape_20 rfl (lv_at hl 1 rfl) ?_
  refine lv_dup hx hb dX9_putOnTape_21 rfl ?_
  refine va_get (ci := 9) (v := .int py0_1) (C := RX9) (T := TX9) (N := 15) hx hb hg inX9 hown hK hP 0 rfl rfl 1 (by decide) (hg _ q_2_37) (fun _ h9 => h9) rfl dX9_putOnTape_22 ?_
  refine lv_iconst (v := 1) hx hb dX9_putOnTape_25 (by decide) ?_
  refine lv_iadd hx hb dX9_putOnTape_26 ?_
  refine lv_topi (fun x_6 ex_6 => ?_)
  have bx_6 : iv 1 893 x_6 := by rw [ex_6]; exact iv_add bpy0_1 (iv_c (1 : Int32) (a := 1) (b := 1) (by decide)) (by decide)
  refine va_put (ci := 9) (v := .int x_6) (ty := .int) (C := RX9) (T := TX9) (N := 15) hx hb hg inX9 tyX9 tyX9_ok nmX9 hown hK hP hD hS 0 rfl rfl 1 (by decide) (hg _ q_2_37) (fun _ h9 => h9) rfl (by decide +kernel) rfl rfl (Nat.le_of_ble_eq_true rfl) dX9_putOnTape_27 (fun H locs hP hD hS => ?_)
  have hP : va_P V.1 vwCl [(y 0, .inr (9, [.ref (y 1), .int x_6, .ref (y 2), .ref (y 10), .ref (y 19), .ref (y 25), .ref (y 26), .ref (y 30), .ref (y 31), .ref (y 32), o10, o11, .int py0_12, .int py0_13, .int py0_14])), (y 1, aB V 900 f_5)] H := hP
  have hD : va_D A [(y 0, .inr (9, [.ref (y 1), .int x_6, .ref (y 2), .ref (y 10), .ref (y 19), .ref (y 25), .ref (y 26), .ref (y 30), .ref (y 31), .ref (y 32), o10, o11, .int py0_12, .int py0_13, .int py0_14])), (y 1, aB V 900 f_5)] := hD
  refine lv_iinc (v := 16) (lv' := [(2, .int 16), (0, .ref (y 0)), (1, .int a1)]) hx hb dX9_putOnTape_30 hl (k := 0) rfl (by decide +kernel) (by decide) rfl (fun ls hl => ?_)
  refine lv_goto (tgt := 3) hx hb dX9_putOnTape_33 (by decide) ?_
  refine lv_iload_n hx hb dX9_putOnTape_3 rfl (lv_at hl 0 rfl) ?_
  refine lv_if_lt (tgt := 36) hx hb dX9_putOnTape_4 (by decide) (fun c_8 => absurd c_8 (by decide)) (fun _ => ?_)
  refine lv_aload_n hx hb dX9_putOnTape_7 rfl (lv_at hl 1 rfl) ?_
  refine va_get (ci := 9) (v := .ref (y 1)) (C := RX9) (T := TX9) (N := 15) hx hb hg inX9 hown hK hP 0 rfl rfl 0 (by decide) (hg _ q_2_36) (fun _ h9 => h9) rfl dX9_putOnTape_8 ?_
  refine lv_aload_n hx hb dX9_putOnTape_11 rfl (lv_at hl 1 rfl) ?_
  refine va_get (ci := 9) (v := .int x_6) (C := RX9) (T := TX9) (N := 15) hx hb hg inX9 hown hK hP 0 rfl rfl 1 (by decide) (hg _ q_2_37) (fun _ h9 => h9) rfl dX9_putOnTape_12 ?_
  refine lv_iload_n hx hb dX9_putOnTape_15 rfl (lv_at hl 2 rfl) ?_
  refine lv_iload_n hx hb dX9_putOnTape_16 rfl (lv_at hl 0 rfl) ?_
  refine lv_iushr hx hb dX9_putOnTape_17 rfl ?_
  refine lv_topi (fun x_9 ex_9 => ?_)
  refine lv_i2b hx hb dX9_putOnTape_18 rfl ?_
  refine lv_topi (fun x_10 ex_10 => ?_)
  refine va_bast hx hb hK hP hD hS 1 1 rfl rfl (iv_in bx_6 (by decide)) dX9_putOnTape_19 (fun H locs hP hD hS => ?_)
  obtain ⟨f_11, hP, hD⟩ : ∃ f_11 : Nat → Int32, va_P V.1 vwCl [(y 0, .inr (9, [.ref (y 1), .int x_6, .ref (y 2), .ref (y 10), .ref (y 19), .ref (y 25), .ref (y 26), .ref (y 30), .ref (y 31), .ref (y 32), o10, o11, .int py0_12, .int py0_13, .int py0_14])), (y 1, aB V 900 f_11)] H ∧ va_D A [(y 0, .inr (9, [.ref (y 1), .int x_6, .ref (y 2), .ref (y 10), .ref (y 19), .ref (y 25), .ref (y 26), .ref (y 30), .ref (y 31), .ref (y 32), o10, o11, .int py0_12, .int py0_13, .int py0_14])), (y 1, aB V 900 f_11)] := ⟨_, hP, hD⟩
  refine lv_aload_n hx hb dX9_putOnTape_20 rfl (lv_at hl 1 rfl) ?_
  refine lv_dup hx hb dX9_putOnTape_21 rfl ?_
  refine va_get (ci := 9) (v := .int x_6) (C := RX9) (T := TX9) (N := 15) hx hb hg inX9 hown hK hP 0 rfl rfl 1 (by decide) (hg _ q_2_37) (fun _ h9 => h9) rfl dX9_putOnTape_22 ?_
  refine lv_iconst (v := 1) hx hb dX9_putOnTape_25 (by decide) ?_
  refine lv_iadd hx hb dX9_putOnTape_26 ?_
  refine lv_topi (fun x_12 ex_12 => ?_)
  have bx_12 : iv 2 894 x_12 := by rw [ex_12]; exact iv_add bx_6 (iv_c (1 : Int32) (a := 1) (b := 1) (by decide)) (by decide)
  refine va_put (ci := 9) (v := .int x_12) (ty := .int) (C := RX9) (T := TX9) (N := 15) hx hb hg inX9 tyX9 tyX9_ok nmX9 hown hK hP hD hS 0 rfl rfl 1 (by decide) (hg _ q_2_37) (fun _ h9 => h9) rfl (by decide +kernel) rfl rfl (Nat.le_of_ble_eq_true rfl) dX9_putOnTape_27 (fun H locs hP hD hS => ?_)
  have hP : va_P V.1 vwCl [(y 0, .inr (9, [.ref (y 1), .int x_12, .ref (y 2), .ref (y 10), .ref (y 19), .ref (y 25), .ref (y 26), .ref (y 30), .ref (y 31), .ref (y 32), o10, o11, .int py0_12, .int py0_13, .int py0_14])), (y 1, aB V 900 f_11)] H := hP
  have hD : va_D A [(y 0, .inr (9, [.ref (y 1), .int x_12, .ref (y 2), .ref (y 10), .ref (y 19), .ref (y 25), .ref (y 26), .ref (y 30), .ref (y 31), .ref (y 32), o10, o11, .int py0_12, .int py0_13, .int py0_14])), (y 1, aB V 900 f_11)] := hD
  refine lv_iinc (v := 8) (lv' := [(2, .int 8), (0, .ref (y 0)), (1, .int a1)]) hx hb dX9_putOnTape_30 hl (k := 0) rfl (by decide +kernel) (by decide) rfl (fun ls hl => ?_)
  refine lv_goto (tgt := 3) hx hb dX9_putOnTape_33 (by decide) ?_
  refine lv_iload_n hx hb dX9_putOnTape_3 rfl (lv_at hl 0 rfl) ?_
  refine lv_if_lt (tgt := 36) hx hb dX9_putOnTape_4 (by decide) (fun c_14 => absurd c_14 (by decide)) (fun _ => ?_)
  refine lv_aload_n hx hb dX9_putOnTape_7 rfl (lv_at hl 1 rfl) ?_
  refine va_get (ci := 9) (v := .ref (y 1)) (C := RX9) (T := TX9) (N := 15) hx hb hg inX9 hown hK hP 0 rfl rfl 0 (by decide) (hg _ q_2_36) (fun _ h9 => h9) rfl dX9_putOnTape_8 ?_
  refine lv_aload_n hx hb dX9_putOnTape_11 rfl (lv_at hl 1 rfl) ?_
  refine va_get (ci := 9) (v := .int x_12) (C := RX9) (T := TX9) (N := 15) hx hb hg inX9 hown hK hP 0 rfl rfl 1 (by decide) (hg _ q_2_37) (fun _ h9 => h9) rfl dX9_putOnTape_12 ?_
  refine lv_iload_n hx hb dX9_putOnTape_15 rfl (lv_at hl 2 rfl) ?_
  refine lv_iload_n hx hb dX9_putOnTape_16 rfl (lv_at hl 0 rfl) ?_
  refine lv_iushr hx hb dX9_putOnTape_17 rfl ?_
  refine lv_topi (fun x_15 ex_15 => ?_)
  refine lv_i2b hx hb dX9_putOnTape_18 rfl ?_
  refine lv_topi (fun x_16 ex_16 => ?_)
  refine va_bast hx hb hK hP hD hS 1 1 rfl rfl (iv_in bx_12 (by decide)) dX9_putOnTape_19 (fun H locs hP hD hS => ?_)
  obtain ⟨f_17, hP, hD⟩ : ∃ f_17 : Nat → Int32, va_P V.1 vwCl [(y 0, .inr (9, [.ref (y 1), .int x_12, .ref (y 2), .ref (y 10), .ref (y 19), .ref (y 25), .ref (y 26), .ref (y 30), .ref (y 31), .ref (y 32), o10, o11, .int py0_12, .int py0_13, .int py0_14])), (y 1, aB V 900 f_17)] H ∧ va_D A [(y 0, .inr (9, [.ref (y 1), .int x_12, .ref (y 2), .ref (y 10), .ref (y 19), .ref (y 25), .ref (y 26), .ref (y 30), .ref (y 31), .ref (y 32), o10, o11, .int py0_12, .int py0_13, .int py0_14])), (y 1, aB V 900 f_17)] := ⟨_, hP, hD⟩
  refine lv_aload_n hx hb dX9_putOnTape_20 rfl (lv_at hl 1 rfl) ?_
  refine lv_dup hx hb dX9_putOnTape_21 rfl ?_
  refine va_get (ci := 9) (v := .int x_12) (C := RX9) (T := TX9) (N := 15) hx hb hg inX9 hown hK hP 0 rfl rfl 1 (by decide) (hg _ q_2_37) (fun _ h9 => h9) rfl dX9_putOnTape_22 ?_
  refine lv_iconst (v := 1) hx hb dX9_putOnTape_25 (by decide) ?_
  refine lv_iadd hx hb dX9_putOnTape_26 ?_
  refine lv_topi (fun x_18 ex_18 => ?_)
  have bx_18 : iv 3 895 x_18 := by rw [ex_18]; exact iv_add bx_12 (iv_c (1 : Int32) (a := 1) (b := 1) (by decide)) (by decide)
  refine va_put (ci := 9) (v := .int x_18) (ty := .int) (C := RX9) (T := TX9) (N := 15) hx hb hg inX9 tyX9 tyX9_ok nmX9 hown hK hP hD hS 0 rfl rfl 1 (by decide) (hg _ q_2_37) (fun _ h9 => h9) rfl (by decide +kernel) rfl rfl (Nat.le_of_ble_eq_true rfl) dX9_putOnTape_27 (fun H locs hP hD hS => ?_)
  have hP : va_P V.1 vwCl [(y 0, .inr (9, [.ref (y 1), .int x_18, .ref (y 2), .ref (y 10), .ref (y 19), .ref (y 25), .ref (y 26), .ref (y 30), .ref (y 31), .ref (y 32), o10, o11, .int py0_12, .int py0_13, .int py0_14])), (y 1, aB V 900 f_17)] H := hP
  have hD : va_D A [(y 0, .inr (9, [.ref (y 1), .int x_18, .ref (y 2), .ref (y 10), .ref (y 19), .ref (y 25), .ref (y 26), .ref (y 30), .ref (y 31), .ref (y 32), o10, o11, .int py0_12, .int py0_13, .int py0_14])), (y 1, aB V 900 f_17)] := hD
  refine lv_iinc (v := 0) (lv' := [(2, .int 0), (0, .ref (y 0)), (1, .int a1)]) hx hb dX9_putOnTape_30 hl (k := 0) rfl (by decide +kernel) (by decide) rfl (fun ls hl => ?_)
  refine lv_goto (tgt := 3) hx hb dX9_putOnTape_33 (by decide) ?_
  refine lv_iload_n hx hb dX9_putOnTape_3 rfl (lv_at hl 0 rfl) ?_
  refine lv_if_lt (tgt := 36) hx hb dX9_putOnTape_4 (by decide) (fun c_20 => absurd c_20 (by decide)) (fun _ => ?_)
  refine lv_aload_n hx hb dX9_putOnTape_7 rfl (lv_at hl 1 rfl) ?_
  refine va_get (ci := 9) (v := .ref (y 1)) (C := RX9) (T := TX9) (N := 15) hx hb hg inX9 hown hK hP 0 rfl rfl 0 (by decide) (hg _ q_2_36) (fun _ h9 => h9) rfl dX9_putOnTape_8 ?_
  refine lv_aload_n hx hb dX9_putOnTape_11 rfl (lv_at hl 1 rfl) ?_
  refine va_get (ci := 9) (v := .int x_18) (C := RX9) (T := TX9) (N := 15) hx hb hg inX9 hown hK hP 0 rfl rfl 1 (by decide) (hg _ q_2_37) (fun _ h9 => h9) rfl dX9_putOnTape_12 ?_
  refine lv_iload_n hx hb dX9_putOnTape_15 rfl (lv_at hl 2 rfl) ?_
  refine lv_iload_n hx hb dX9_putOnTape_16 rfl (lv_at hl 0 rfl) ?_
  refine lv_iushr hx hb dX9_putOnTape_17 rfl ?_
  refine lv_topi (fun x_21 ex_21 => ?_)
  refine lv_i2b hx hb dX9_putOnTape_18 rfl ?_
  refine lv_topi (fun x_22 ex_22 => ?_)
  refine va_bast hx hb hK hP hD hS 1 1 rfl rfl (iv_in bx_18 (by decide)) dX9_putOnTape_19 (fun H locs hP hD hS => ?_)
  obtain ⟨f_23, hP, hD⟩ : ∃ f_23 : Nat → Int32, va_P V.1 vwCl [(y 0, .inr (9, [.ref (y 1), .int x_18, .ref (y 2), .ref (y 10), .ref (y 19), .ref (y 25), .ref (y 26), .ref (y 30), .ref (y 31), .ref (y 32), o10, o11, .int py0_12, .int py0_13, .int py0_14])), (y 1, aB V 900 f_23)] H ∧ va_D A [(y 0, .inr (9, [.ref (y 1), .int x_18, .ref (y 2), .ref (y 10), .ref (y 19), .ref (y 25), .ref (y 26), .ref (y 30), .ref (y 31), .ref (y 32), o10, o11, .int py0_12, .int py0_13, .int py0_14])), (y 1, aB V 900 f_23)] := ⟨_, hP, hD⟩
  refine lv_aload_n hx hb dX9_putOnTape_20 rfl (lv_at hl 1 rfl) ?_
  refine lv_dup hx hb dX9_putOnTape_21 rfl ?_
  refine va_get (ci := 9) (v := .int x_18) (C := RX9) (T := TX9) (N := 15) hx hb hg inX9 hown hK hP 0 rfl rfl 1 (by decide) (hg _ q_2_37) (fun _ h9 => h9) rfl dX9_putOnTape_22 ?_
  refine lv_iconst (v := 1) hx hb dX9_putOnTape_25 (by decide) ?_
  refine lv_iadd hx hb dX9_putOnTape_26 ?_
  refine lv_topi (fun x_24 ex_24 => ?_)
  have bx_24 : iv 4 896 x_24 := by rw [ex_24]; exact iv_add bx_18 (iv_c (1 : Int32) (a := 1) (b := 1) (by decide)) (by decide)
  refine va_put (ci := 9) (v := .int x_24) (ty := .int) (C := RX9) (T := TX9) (N := 15) hx hb hg inX9 tyX9 tyX9_ok nmX9 hown hK hP hD hS 0 rfl rfl 1 (by decide) (hg _ q_2_37) (fun _ h9 => h9) rfl (by decide +kernel) rfl rfl (Nat.le_of_ble_eq_true rfl) dX9_putOnTape_27 (fun H locs hP hD hS => ?_)
  have hP : va_P V.1 vwCl [(y 0, .inr (9, [.ref (y 1), .int x_24, .ref (y 2), .ref (y 10), .ref (y 19), .ref (y 25), .ref (y 26), .ref (y 30), .ref (y 31), .ref (y 32), o10, o11, .int py0_12, .int py0_13, .int py0_14])), (y 1, aB V 900 f_23)] H := hP
  have hD : va_D A [(y 0, .inr (9, [.ref (y 1), .int x_24, .ref (y 2), .ref (y 10), .ref (y 19), .ref (y 25), .ref (y 26), .ref (y 30), .ref (y 31), .ref (y 32), o10, o11, .int py0_12, .int py0_13, .int py0_14])), (y 1, aB V 900 f_23)] := hD
  refine lv_iinc (v := (-8)) (lv' := [(2, .int (-8)), (0, .ref (y 0)), (1, .int a1)]) hx hb dX9_putOnTape_30 hl (k := 0) rfl (by decide +kernel) (by decide) rfl (fun ls hl => ?_)
  refine lv_goto (tgt := 3) hx hb dX9_putOnTape_33 (by decide) ?_
  refine lv_iload_n hx hb dX9_putOnTape_3 rfl (lv_at hl 0 rfl) ?_
  refine lv_if_lt (tgt := 36) hx hb dX9_putOnTape_4 (by decide) (fun _ => ?_) (fun c_26 => absurd c_26 (by decide))
  exact fiV hx hb hr hlk hK hP hD hS dX9_putOnTape_36 (Nat.le_of_ble_eq_true rfl) (Nat.le_of_ble_eq_true rfl) (⟨x_24, f_23, (iv_w bx_24 (by decide)), rfl⟩)
set_option maxHeartbeats 4000000 in
set_option maxRecDepth 100000 in
theorem k_X9_putOnTape_4 (l : Launch) (V : GV) (y : Nat → Nat) (a1 : Int32) (py0_1 : Int32) (o10 : Value) (o11 : Value) (py0_12 : Int32) (py0_13 : Int32) (py0_14 : Int32) (fy1 : Nat → Int32) (bpy0_1 : iv 0 896 py0_1) : Ct l V yX9_putOnTape (.code yX9_putOnTape cX9_putOnTape 3 none) 1 [.ref (y 0), .int a1] [(y 0, .inr (9, [.ref (y 1), .int py0_1, .ref (y 2), .ref (y 10), .ref (y 19), .ref (y 25), .ref (y 26), .ref (y 30), .ref (y 31), .ref (y 32), o10, o11, .int py0_12, .int py0_13, .int py0_14])), (y 1, aB V 900 fy1)] 0 0 (QV V (fun (w : va_W) => ∃ (v0 : Int32) (g1 : Nat → Int32), iv 0 900 v0 ∧ w = [(y 0, .inr (9, [.ref (y 1), .int v0, .ref (y 2), .ref (y 10), .ref (y 19), .ref (y 25), .ref (y 26), .ref (y 30), .ref (y 31), .ref (y 32), o10, o11, .int py0_12, .int py0_13, .int py0_14])), (y 1, aB V 900 g1)])) := by
  refine Ct.of (by decide) (Nat.le_of_ble_eq_true rfl) (fun p e s m below meth c A ls hx hb hr hml hown hlk hnm hg hP hK hD hE hA hS hl => ?_)
  have hl : lv_has ls 3 [(0, .ref (y 0)), (1, .int a1)] := hl
  refine lv_bipush (v := 24) hx hb dX9_putOnTape_0 (by decide) ?_
  refine lv_istore_n (lv' := [(2, .int 24), (0, .ref (y 0)), (1, .int a1)]) hx hb dX9_putOnTape_2 rfl hl (by decide) rfl (fun ls hl => ?_)
  refine lv_iload_n hx hb dX9_putOnTape_3 rfl (lv_at hl 0 rfl) ?_
  refine lv_if_lt (tgt := 36) hx hb dX9_putOnTape_4 (by decide) (fun c_2 => absurd c_2 (by decide)) (fun _ => ?_)
  refine lv_aload_n hx hb dX9_putOnTape_7 rfl (lv_at hl 1 rfl) ?_
  refine va_get (ci := 9) (v := .ref (y 1)) (C := RX9) (T := TX9) (N := 15) hx hb hg inX9 hown hK hP 0 rfl rfl 0 (by decide) (hg _ q_2_36) (fun _ h9 => h9) rfl dX9_putOnTape_8 ?_
  refine lv_aload_n hx hb dX9_putOnTape_11 rfl (lv_at hl 1 rfl) ?_
  refine va_get (ci := 9) (v := .int py0_1) (C := RX9) (T := TX9) (N := 15) hx hb hg inX9 hown hK hP 0 rfl rfl 1 (by decide) (hg _ q_2_37) (fun _ h9 => h9) rfl dX9_putOnTape_12 ?_
  refine lv_iload_n hx hb dX9_putOnTape_15 rfl (lv_at hl 2 rfl) ?_
  refine lv_iload_n hx hb dX9_putOnTape_16 rfl (lv_at hl 0 rfl) ?_
  refine lv_iushr hx hb dX9_putOnTape_17 rfl ?_
  refine lv_topi (fun x_3 ex_3 => ?_)
  refine lv_i2b hx hb dX9_putOnTape_18 rfl ?_
  refine lv_topi (fun x_4 ex_4 => ?_)
  refine va_bast hx hb hK hP hD hS 1 1 rfl rfl (iv_in bpy0_1 (by decide)) dX9_putOnTape_19 (fun H locs hP hD hS => ?_)
  obtain ⟨f_5, hP, hD⟩ : ∃ f_5 : Nat → Int32, va_P V.1 vwCl [(y 0, .inr (9, [.ref (y 1), .int py0_1, .ref (y 2), .ref (y 10), .ref (y 19), .ref (y 25), .ref (y 26), .ref (y 30), .ref (y 31), .ref (y 32), o10, o11, .int py0_12, .int py0_13, .int py0_14])), (y 1, aB V 900 f_5)] H ∧ va_D A [(y 0, .inr (9, [.ref (y 1), .int py0_1, .ref (y 2), .ref (y 10), .ref (y 19), .ref (y 25), .ref (y 26), .ref (y 30), .ref (y 31), .ref (y 32), o10, o11, .int py0_12, .int py0_13, .int py0_14])), (y 1, aB V 900 f_5)] := ⟨_, hP, hD⟩
  refine lv_aload_n hx hb dX9_putOnTape_20 rfl (lv_at hl 1 rfl) ?_
  refine lv_dup hx hb dX9_putOnTape_21 rfl ?_
  refine va_get (ci := 9) (v := .int py0_1) (C := RX9) (T := TX9) (N := 15) hx hb hg inX9 hown hK hP 0 rfl rfl 1 (by decide) (hg _ q_2_37) (fun _ h9 => h9) rfl dX9_putOnTape_22 ?_
  refine lv_iconst (v := 1) hx hb dX9_putOnTape_25 (by decide) ?_
  refine lv_iadd hx hb dX9_putOnTape_26 ?_
  refine lv_topi (fun x_6 ex_6 => ?_)
  have bx_6 : iv 1 897 x_6 := by rw [ex_6]; exact iv_add bpy0_1 (iv_c (1 : Int32) (a := 1) (b := 1) (by decide)) (by decide)
  refine va_put (ci := 9) (v := .int x_6) (ty := .int) (C := RX9) (T := TX9) (N := 15) hx hb hg inX9 tyX9 tyX9_ok nmX9 hown hK hP hD hS 0 rfl rfl 1 (by decide) (hg _ q_2_37) (fun _ h9 => h9) rfl (by decide +kernel) rfl rfl (Nat.le_of_ble_eq_true rfl) dX9_putOnTape_27 (fun H locs hP hD hS => ?_)
  have hP : va_P V.1 vwCl [(y 0, .inr (9, [.ref (y 1), .int x_6, .ref (y 2), .ref (y 10), .ref (y 19), .ref (y 25), .ref (y 26), .ref (y 30), .ref (y 31), .ref (y 32), o10, o11, .int py0_12, .int py0_13, .int py0_14])), (y 1, aB V 900 f_5)] H := hP
  have hD : va_D A [(y 0, .inr (9, [.ref (y 1), .int x_6, .ref (y 2), .ref (y 10), .ref (y 19), .ref (y 25), .ref (y 26), .ref (y 30), .ref (y 31), .ref (y 32), o10, o11, .int py0_12, .int py0_13, .int py0_14])), (y 1, aB V 900 f_5)] := hD
  refine lv_iinc (v := 16) (lv' := [(2, .int 16), (0, .ref (y 0)), (1, .int a1)]) hx hb dX9_putOnTape_30 hl (k := 0) rfl (by decide +kernel) (by decide) rfl (fun ls hl => ?_)
  refine lv_goto (tgt := 3) hx hb dX9_putOnTape_33 (by decide) ?_
  refine lv_iload_n hx hb dX9_putOnTape_3 rfl (lv_at hl 0 rfl) ?_
  refine lv_if_lt (tgt := 36) hx hb dX9_putOnTape_4 (by decide) (fun c_8 => absurd c_8 (by decide)) (fun _ => ?_)
  refine lv_aload_n hx hb dX9_putOnTape_7 rfl (lv_at hl 1 rfl) ?_
  refine va_get (ci := 9) (v := .ref (y 1)) (C := RX9) (T := TX9) (N := 15) hx hb hg inX9 hown hK hP 0 rfl rfl 0 (by decide) (hg _ q_2_36) (fun _ h9 => h9) rfl dX9_putOnTape_8 ?_
  refine lv_aload_n hx hb dX9_putOnTape_11 rfl (lv_at hl 1 rfl) ?_
  refine va_get (ci := 9) (v := .int x_6) (C := RX9) (T := TX9) (N := 15) hx hb hg inX9 hown hK hP 0 rfl rfl 1 (by decide) (hg _ q_2_37) (fun _ h9 => h9) rfl dX9_putOnTape_12 ?_
  refine lv_iload_n hx hb dX9_putOnTape_15 rfl (lv_at hl 2 rfl) ?_
  refine lv_iload_n hx hb dX9_putOnTape_16 rfl (lv_at hl 0 rfl) ?_
  refine lv_iushr hx hb dX9_putOnTape_17 rfl ?_
  refine lv_topi (fun x_9 ex_9 => ?_)
  refine lv_i2b hx hb dX9_putOnTape_18 rfl ?_
  refine lv_topi (fun x_10 ex_10 => ?_)
  refine va_bast hx hb hK hP hD hS 1 1 rfl rfl (iv_in bx_6 (by decide)) dX9_putOnTape_19 (fun H locs hP hD hS => ?_)
  obtain ⟨f_11, hP, hD⟩ : ∃ f_11 : Nat → Int32, va_P V.1 vwCl [(y 0, .inr (9, [.ref (y 1), .int x_6, .ref (y 2), .ref (y 10), .ref (y 19), .ref (y 25), .ref (y 26), .ref (y 30), .ref (y 31), .ref (y 32), o10, o11, .int py0_12, .int py0_13, .int py0_14])), (y 1, aB V 900 f_11)] H ∧ va_D A [(y 0, .inr (9, [.ref (y 1), .int x_6, .ref (y 2), .ref (y 10), .ref (y 19), .ref (y 25), .ref (y 26), .ref (y 30), .ref (y 31), .ref (y 32), o10, o11, .int py0_12, .int py0_13, .int py0_14])), (y 1, aB V 900 f_11)] := ⟨_, hP, hD⟩
  refine lv_aload_n hx hb dX9_putOnTape_20 rfl (lv_at hl 1 rfl) ?_
  refine lv_dup hx hb dX9_putOnTape_21 rfl ?_
  refine va_get (ci := 9) (v := .int x_6) (C := RX9) (T := TX9) (N := 15) hx hb hg inX9 hown hK hP 0 rfl rfl 1 (by decide) (hg _ q_2_37) (fun _ h9 => h9) rfl dX9_putOnTape_22 ?_
  refine lv_iconst (v := 1) hx hb dX9_putOnTape_25 (by decide) ?_
  refine lv_iadd hx hb dX9_putOnTape_26 ?_
  refine lv_topi (fun x_12 ex_12 => ?_)
  have bx_12 : iv 2 898 x_12 := by rw [ex_12]; exact iv_add bx_6 (iv_c (1 : Int32) (a := 1) (b := 1) (by decide)) (by decide)
  refine va_put (ci := 9) (v := .int x_12) (ty := .int) (C := RX9) (T := TX9) (N := 15) hx hb hg inX9 tyX9 tyX9_ok nmX9 hown hK hP hD hS 0 rfl rfl 1 (by decide) (hg _ q_2_37) (fun _ h9 => h9) rfl (by decide +kernel) rfl rfl (Nat.le_of_ble_eq_true rfl) dX9_putOnTape_27 (fun H locs hP hD hS => ?_)
  have hP : va_P V.1 vwCl [(y 0, .inr (9, [.ref (y 1), .int x_12, .ref (y 2), .ref (y 10), .ref (y 19), .ref (y 25), .ref (y 26), .ref (y 30), .ref (y 31), .ref (y 32), o10, o11, .int py0_12, .int py0_13, .int py0_14])), (y 1, aB V 900 f_11)] H := hP
  have hD : va_D A [(y 0, .inr (9, [.ref (y 1), .int x_12, .ref (y 2), .ref (y 10), .ref (y 19), .ref (y 25), .ref (y 26), .ref (y 30), .ref (y 31), .ref (y 32), o10, o11, .int py0_12, .int py0_13, .int py0_14])), (y 1, aB V 900 f_11)] := hD
  refine lv_iinc (v := 8) (lv' := [(2, .int 8), (0, .ref (y 0)), (1, .int a1)]) hx hb dX9_putOnTape_30 hl (k := 0) rfl (by decide +kernel) (by decide) rfl (fun ls hl => ?_)
  refine lv_goto (tgt := 3) hx hb dX9_putOnTape_33 (by decide) ?_
  refine lv_iload_n hx hb dX9_putOnTape_3 rfl (lv_at hl 0 rfl) ?_
  refine lv_if_lt (tgt := 36) hx hb dX9_putOnTape_4 (by decide) (fun c_14 => absurd c_14 (by decide)) (fun _ => ?_)
  refine lv_aload_n hx hb dX9_putOnTape_7 rfl (lv_at hl 1 rfl) ?_
  refine va_get (ci := 9) (v := .ref (y 1)) (C := RX9) (T := TX9) (N := 15) hx hb hg inX9 hown hK hP 0 rfl rfl 0 (by decide) (hg _ q_2_36) (fun _ h9 => h9) rfl dX9_putOnTape_8 ?_
  refine lv_aload_n hx hb dX9_putOnTape_11 rfl (lv_at hl 1 rfl) ?_
  refine va_get (ci := 9) (v := .int x_12) (C := RX9) (T := TX9) (N := 15) hx hb hg inX9 hown hK hP 0 rfl rfl 1 (by decide) (hg _ q_2_37) (fun _ h9 => h9) rfl dX9_putOnTape_12 ?_
  refine lv_iload_n hx hb dX9_putOnTape_15 rfl (lv_at hl 2 rfl) ?_
  refine lv_iload_n hx hb dX9_putOnTape_16 rfl (lv_at hl 0 rfl) ?_
  refine lv_iushr hx hb dX9_putOnTape_17 rfl ?_
  refine lv_topi (fun x_15 ex_15 => ?_)
  refine lv_i2b hx hb dX9_putOnTape_18 rfl ?_
  refine lv_topi (fun x_16 ex_16 => ?_)
  refine va_bast hx hb hK hP hD hS 1 1 rfl rfl (iv_in bx_12 (by decide)) dX9_putOnTape_19 (fun H locs hP hD hS => ?_)
  obtain ⟨f_17, hP, hD⟩ : ∃ f_17 : Nat → Int32, va_P V.1 vwCl [(y 0, .inr (9, [.ref (y 1), .int x_12, .ref (y 2), .ref (y 10), .ref (y 19), .ref (y 25), .ref (y 26), .ref (y 30), .ref (y 31), .ref (y 32), o10, o11, .int py0_12, .int py0_13, .int py0_14])), (y 1, aB V 900 f_17)] H ∧ va_D A [(y 0, .inr (9, [.ref (y 1), .int x_12, .ref (y 2), .ref (y 10), .ref (y 19), .ref (y 25), .ref (y 26), .ref (y 30), .ref (y 31), .ref (y 32), o10, o11, .int py0_12, .int py0_13, .int py0_14])), (y 1, aB V 900 f_17)] := ⟨_, hP, hD⟩
  refine lv_aload_n hx hb dX9_putOnTape_20 rfl (lv_at hl 1 rfl) ?_
  refine lv_dup hx hb dX9_putOnTape_21 rfl ?_
  refine va_get (ci := 9) (v := .int x_12) (C := RX9) (T := TX9) (N := 15) hx hb hg inX9 hown hK hP 0 rfl rfl 1 (by decide) (hg _ q_2_37) (fun _ h9 => h9) rfl dX9_putOnTape_22 ?_
  refine lv_iconst (v := 1) hx hb dX9_putOnTape_25 (by decide) ?_
  refine lv_iadd hx hb dX9_putOnTape_26 ?_
  refine lv_topi (fun x_18 ex_18 => ?_)
  have bx_18 : iv 3 899 x_18 := by rw [ex_18]; exact iv_add bx_12 (iv_c (1 : Int32) (a := 1) (b := 1) (by decide)) (by decide)
  refine va_put (ci := 9) (v := .int x_18) (ty := .int) (C := RX9) (T := TX9) (N := 15) hx hb hg inX9 tyX9 tyX9_ok nmX9 hown hK hP hD hS 0 rfl rfl 1 (by decide) (hg _ q_2_37) (fun _ h9 => h9) rfl (by decide +kernel) rfl rfl (Nat.le_of_ble_eq_true rfl) dX9_putOnTape_27 (fun H locs hP hD hS => ?_)
  have hP : va_P V.1 vwCl [(y 0, .inr (9, [.ref (y 1), .int x_18, .ref (y 2), .ref (y 10), .ref (y 19), .ref (y 25), .ref (y 26), .ref (y 30), .ref (y 31), .ref (y 32), o10, o11, .int py0_12, .int py0_13, .int py0_14])), (y 1, aB V 900 f_17)] H := hP
  have hD : va_D A [(y 0, .inr (9, [.ref (y 1), .int x_18, .ref (y 2), .ref (y 10), .ref (y 19), .ref (y 25), .ref (y 26), .ref (y 30), .ref (y 31), .ref (y 32), o10, o11, .int py0_12, .int py0_13, .int py0_14])), (y 1, aB V 900 f_17)] := hD
  refine lv_iinc (v := 0) (lv' := [(2, .int 0), (0, .ref (y 0)), (1, .int a1)]) hx hb dX9_putOnTape_30 hl (k := 0) rfl (by decide +kernel) (by decide) rfl (fun ls hl => ?_)
  refine lv_goto (tgt := 3) hx hb dX9_putOnTape_33 (by decide) ?_
  refine lv_iload_n hx hb dX9_putOnTape_3 rfl (lv_at hl 0 rfl) ?_
  refine lv_if_lt (tgt := 36) hx hb dX9_putOnTape_4 (by decide) (fun c_20 => absurd c_20 (by decide)) (fun _ => ?_)
  refine lv_aload_n hx hb dX9_putOnTape_7 rfl (lv_at hl 1 rfl) ?_
  refine va_get (ci := 9) (v := .ref (y 1)) (C := RX9) (T := TX9) (N := 15) hx hb hg inX9 hown hK hP 0 rfl rfl 0 (by decide) (hg _ q_2_36) (fun _ h9 => h9) rfl dX9_putOnTape_8 ?_
  refine lv_aload_n hx hb dX9_putOnTape_11 rfl (lv_at hl 1 rfl) ?_
  refine va_get (ci := 9) (v := .int x_18) (C := RX9) (T := TX9) (N := 15) hx hb hg inX9 hown hK hP 0 rfl rfl 1 (by decide) (hg _ q_2_37) (fun _ h9 => h9) rfl dX9_putOnTape_12 ?_
  refine lv_iload_n hx hb dX9_putOnTape_15 rfl (lv_at hl 2 rfl) ?_
  refine lv_iload_n hx hb dX9_putOnTape_16 rfl (lv_at hl 0 rfl) ?_
  refine lv_iushr hx hb dX9_putOnTape_17 rfl ?_
  refine lv_topi (fun x_21 ex_21 => ?_)
  refine lv_i2b hx hb dX9_putOnTape_18 rfl ?_
  refine lv_topi (fun x_22 ex_22 => ?_)
  refine va_bast hx hb hK hP hD hS 1 1 rfl rfl (iv_in bx_18 (by decide)) dX9_putOnTape_19 (fun H locs hP hD hS => ?_)
  obtain ⟨f_23, hP, hD⟩ : ∃ f_23 : Nat → Int32, va_P V.1 vwCl [(y 0, .inr (9, [.ref (y 1), .int x_18, .ref (y 2), .ref (y 10), .ref (y 19), .ref (y 25), .ref (y 26), .ref (y 30), .ref (y 31), .ref (y 32), o10, o11, .int py0_12, .int py0_13, .int py0_14])), (y 1, aB V 900 f_23)] H ∧ va_D A [(y 0, .inr (9, [.ref (y 1), .int x_18, .ref (y 2), .ref (y 10), .ref (y 19), .ref (y 25), .ref (y 26), .ref (y 30), .ref (y 31), .ref (y 32), o10, o11, .int py0_12, .int py0_13, .int py0_14])), (y 1, aB V 900 f_23)] := ⟨_, hP, hD⟩
  refine lv_aload_n hx hb dX9_putOnTape_20 rfl (lv_at hl 1 rfl) ?_
  refine lv_dup hx hb dX9_putOnTape_21 rfl ?_
  refine va_get (ci := 9) (v := .int x_18) (C := RX9) (T := TX9) (N := 15) hx hb hg inX9 hown hK hP 0 rfl rfl 1 (by decide) (hg _ q_2_37) (fun _ h9 => h9) rfl dX9_putOnTape_22 ?_
  refine lv_iconst (v := 1) hx hb dX9_putOnTape_25 (by decide) ?_
  refine lv_iadd hx hb dX9_putOnTape_26 ?_
  refine lv_topi (fun x_24 ex_24 => ?_)
  have bx_24 : iv 4 900 x_24 := by rw [ex_24]; exact iv_add bx_18 (iv_c (1 : Int32) (a := 1) (b := 1) (by decide)) (by decide)
  refine va_put (ci := 9) (v := .int x_24) (ty := .int) (C := RX9) (T := TX9) (N := 15) hx hb hg inX9 tyX9 tyX9_ok nmX9 hown hK hP hD hS 0 rfl rfl 1 (by decide) (hg _ q_2_37) (fun _ h9 => h9) rfl (by decide +kernel) rfl rfl (Nat.le_of_ble_eq_true rfl) dX9_putOnTape_27 (fun H locs hP hD hS => ?_)
  have hP : va_P V.1 vwCl [(y 0, .inr (9, [.ref (y 1), .int x_24, .ref (y 2), .ref (y 10), .ref (y 19), .ref (y 25), .ref (y 26), .ref (y 30), .ref (y 31), .ref (y 32), o10, o11, .int py0_12, .int py0_13, .int py0_14])), (y 1, aB V 900 f_23)] H := hP
  have hD : va_D A [(y 0, .inr (9, [.ref (y 1), .int x_24, .ref (y 2), .ref (y 10), .ref (y 19), .ref (y 25), .ref (y 26), .ref (y 30), .ref (y 31), .ref (y 32), o10, o11, .int py0_12, .int py0_13, .int py0_14])), (y 1, aB V 900 f_23)] := hD
  refine lv_iinc (v := (-8)) (lv' := [(2, .int (-8)), (0, .ref (y 0)), (1, .int a1)]) hx hb dX9_putOnTape_30 hl (k := 0) rfl (by decide +kernel) (by decide) rfl (fun ls hl => ?_)
  refine lv_goto (tgt := 3) hx hb dX9_putOnTape_33 (by decide) ?_
  refine lv_iload_n hx hb dX9_putOnTape_3 rfl (lv_at hl 0 rfl) ?_
  refine lv_if_lt (tgt := 36) hx hb dX9_putOnTape_4 (by decide) (fun _ => ?_) (fun c_26 => absurd c_26 (by decide))
  exact fiV hx hb hr hlk hK hP hD hS dX9_putOnTape_36 (Nat.le_of_ble_eq_true rfl) (Nat.le_of_ble_eq_true rfl) (⟨x_24, f_23, (iv_w bx_24 (by decide)), rfl⟩)
theorem dX9_feed_0 : decode cX9_feed 0 = .ok (.aload_n 0, 1) := by decide +kernel
theorem dX9_feed_1 : decode cX9_feed 1 = .ok (.getfield 70, 3) := by decide +kernel
theorem dX9_feed_4 : decode cX9_feed 4 = .ok (.bipush 20, 2) := by decide +kernel
theorem dX9_feed_6 : decode cX9_feed 6 = .ok (.iadd, 1) := by decide +kernel
theorem dX9_feed_7 : decode cX9_feed 7 = .ok (.sipush 900, 3) := by decide +kernel
theorem dX9_feed_10 : decode cX9_feed 10 = .ok (.if_icmp .le 6, 3) := by decide +kernel
theorem dX9_feed_16 : decode cX9_feed 16 = .ok (.aload_n 0, 1) := by decide +kernel
theorem dX9_feed_17 : decode cX9_feed 17 = .ok (.iload_n 1, 1) := by decide +kernel
theorem q_2_89 : Cond.code yX9_putOnTape prog_1_method_3_code 3 none ∈ gw := gw_2 (i := 89) (rfl) rfl
theorem q_2_88 : Cond.instanceMethod yX9_putOnTape ∈ gw := gw_2 (i := 88) (by decide +kernel) rfl
theorem q_s_0 : Cond.selects "BeaconDelay" yX9_putOnTape yX9_putOnTape ∈ gw := gw_s (i := 0) (by decide +kernel) rfl
theorem mt_X9_putOnTape : MtV yX9_putOnTape cX9_putOnTape 3 none 1 := ⟨⟨q_2_89, q_1_1, by decide +kernel, by decide +kernel, by decide +kernel⟩, q_2_88, q_s_0⟩
theorem q_2_86 : Cond.methodLink "BeaconDelay" 74 yX9_putOnTape ∈ gw := gw_2 (i := 86) (by decide +kernel) rfl
theorem dX9_feed_18 : decode cX9_feed 18 = .ok (.invokevirtual 74, 3) := by decide +kernel
theorem dX9_feed_21 : decode cX9_feed 21 = .ok (.aload_n 0, 1) := by decide +kernel
theorem dX9_feed_22 : decode cX9_feed 22 = .ok (.iload_n 2, 1) := by decide +kernel
theorem dX9_feed_23 : decode cX9_feed 23 = .ok (.invokevirtual 74, 3) := by decide +kernel
theorem dX9_feed_26 : decode cX9_feed 26 = .ok (.aload_n 0, 1) := by decide +kernel
theorem dX9_feed_27 : decode cX9_feed 27 = .ok (.iload_n 3, 1) := by decide +kernel
theorem dX9_feed_28 : decode cX9_feed 28 = .ok (.invokevirtual 74, 3) := by decide +kernel
theorem dX9_feed_31 : decode cX9_feed 31 = .ok (.aload_n 0, 1) := by decide +kernel
theorem dX9_feed_32 : decode cX9_feed 32 = .ok (.iload 4, 2) := by decide +kernel
theorem dX9_feed_34 : decode cX9_feed 34 = .ok (.invokevirtual 74, 3) := by decide +kernel
theorem dX9_feed_37 : decode cX9_feed 37 = .ok (.aload_n 0, 1) := by decide +kernel
theorem dX9_feed_38 : decode cX9_feed 38 = .ok (.iload 5, 2) := by decide +kernel
theorem dX9_feed_40 : decode cX9_feed 40 = .ok (.invokevirtual 74, 3) := by decide +kernel
theorem dX9_feed_43 : decode cX9_feed 43 = .ok (.aload_n 0, 1) := by decide +kernel
theorem dX9_feed_44 : decode cX9_feed 44 = .ok (.getfield 70, 3) := by decide +kernel
theorem dX9_feed_47 : decode cX9_feed 47 = .ok (.ireturn, 1) := by decide +kernel
theorem dX9_feed_13 : decode cX9_feed 13 = .ok (.bipush (-5), 2) := by decide +kernel
theorem dX9_feed_15 : decode cX9_feed 15 = .ok (.ireturn, 1) := by decide +kernel
set_option maxHeartbeats 4000000 in
set_option maxRecDepth 100000 in
theorem k_X9_feed_0 (l : Launch) (V : GV) (y : Nat → Nat) (a1 : Int32) (a2 : Int32) (a3 : Int32) (a4 : Int32) (a5 : Int32) (py0_1 : Int32) (o10 : Value) (o11 : Value) (py0_12 : Int32) (py0_13 : Int32) (py0_14 : Int32) (fy1 : Nat → Int32) (bpy0_1 : iv 0 900 py0_1) : Ct l V yX9_feed (.code yX9_feed cX9_feed 6 (some .int)) 2 [.ref (y 0), .int a1, .int a2, .int a3, .int a4, .int a5] [(y 0, .inr (9, [.ref (y 1), .int py0_1, .ref (y 2), .ref (y 10), .ref (y 19), .ref (y 25), .ref (y 26), .ref (y 30), .ref (y 31), .ref (y 32), o10, o11, .int py0_12, .int py0_13, .int py0_14])), (y 1, aB V 900 fy1)] 0 0 (QI V (fun (r : Int32) (w : va_W) => ∃ (v0 : Int32) (g1 : Nat → Int32), iv 0 900 v0 ∧ iv (-5) 900 r ∧ w = [(y 0, .inr (9, [.ref (y 1), .int v0, .ref (y 2), .ref (y 10), .ref (y 19), .ref (y 25), .ref (y 26), .ref (y 30), .ref (y 31), .ref (y 32), o10, o11, .int py0_12, .int py0_13, .int py0_14])), (y 1, aB V 900 g1)])) := by
  refine Ct.of (by decide) (Nat.le_of_ble_eq_true rfl) (fun p e s m below meth c A ls hx hb hr hml hown hlk hnm hg hP hK hD hE hA hS hl => ?_)
  have hl : lv_has ls 6 [(0, .ref (y 0)), (1, .int a1), (2, .int a2), (3, .int a3), (4, .int a4), (5, .int a5)] := hl
  refine lv_aload_n hx hb dX9_feed_0 rfl (lv_at hl 0 rfl) ?_
  refine va_get (ci := 9) (v := .int py0_1) (C := RX9) (T := TX9) (N := 15) hx hb hg inX9 hown hK hP 0 rfl rfl 1 (by decide) (hg _ q_2_37) (fun _ h9 => h9) rfl dX9_feed_1 ?_
  refine lv_bipush (v := 20) hx hb dX9_feed_4 (by decide) ?_
  refine lv_iadd hx hb dX9_feed_6 ?_
  refine lv_topi (fun x_1 ex_1 => ?_)
  have bx_1 : iv 20 920 x_1 := by rw [ex_1]; exact iv_add bpy0_1 (iv_c (20 : Int32) (a := 20) (b := 20) (by decide)) (by decide)
  refine lv_sipush (v := 900) hx hb dX9_feed_7 (by decide) ?_
  refine lv_icmp_le (tgt := 16) hx hb dX9_feed_10 (by decide) (fun c_2 => ?_) (fun c_2 => ?_)
  · have b_3 : iv 20 900 x_1 := iv_e1 c_2 bx_1 (iv_c (900 : Int32) (a := 900) (b := 900) (by decide)) (by decide)
    have b_4 : iv 0 880 py0_1 := iv_addb ex_1 b_3 bpy0_1 (iv_c (20 : Int32) (a := 20) (b := 20) (by decide)) (by decide)
    refine lv_aload_n hx hb dX9_feed_16 rfl (lv_at hl 0 rfl) ?_
    refine lv_iload_n hx hb dX9_feed_17 rfl (lv_at hl 1 rfl) ?_
    refine jnV (wr := []) (rnV (rest := []) ⟨hx, hb, hml, hown, hg⟩ (k_X9_putOnTape_0 l V y a1 py0_1 o10 o11 py0_12 py0_13 py0_14 fy1 b_4) mt_X9_putOnTape q_2_86 ⟨Nat.le_of_ble_eq_true rfl, Nat.le_of_ble_eq_true rfl⟩ hK hP hD hS hA hE [0, 1] rfl rfl 0 rfl rfl rfl rfl hl.1 rfl (Nat.le_of_ble_eq_true rfl) dX9_feed_18 ⟨Nat.le_of_ble_eq_true rfl, Nat.le_of_ble_eq_true rfl⟩) hP hD hS hA [0, 1] [] rfl rfl rfl (by decide) (fun  w H locs hw hP hD hS => ?_)
    obtain ⟨v_5, f_6, bv_5, rfl⟩ := hw
    have hP : va_P V.1 vwCl [(y 0, .inr (9, [.ref (y 1), .int v_5, .ref (y 2), .ref (y 10), .ref (y 19), .ref (y 25), .ref (y 26), .ref (y 30), .ref (y 31), .ref (y 32), o10, o11, .int py0_12, .int py0_13, .int py0_14])), (y 1, aB V 900 f_6)] H := hP
    have hD : va_D A [(y 0, .inr (9, [.ref (y 1), .int v_5, .ref (y 2), .ref (y 10), .ref (y 19), .ref (y 25), .ref (y 26), .ref (y 30), .ref (y 31), .ref (y 32), o10, o11, .int py0_12, .int py0_13, .int py0_14])), (y 1, aB V 900 f_6)] := hD
    refine lv_aload_n hx hb dX9_feed_21 rfl (lv_at hl 0 rfl) ?_
    refine lv_iload_n hx hb dX9_feed_22 rfl (lv_at hl 2 rfl) ?_
    refine jnV (wr := []) (rnV (rest := []) ⟨hx, hb, hml, hown, hg⟩ (k_X9_putOnTape_1 l V y a2 v_5 o10 o11 py0_12 py0_13 py0_14 f_6 bv_5) mt_X9_putOnTape q_2_86 ⟨Nat.le_of_ble_eq_true rfl, Nat.le_of_ble_eq_true rfl⟩ hK hP hD hS hA hE [0, 1] rfl rfl 0 rfl rfl rfl rfl hl.1 rfl (Nat.le_of_ble_eq_true rfl) dX9_feed_23 ⟨Nat.le_of_ble_eq_true rfl, Nat.le_of_ble_eq_true rfl⟩) hP hD hS hA [0, 1] [] rfl rfl rfl (by decide) (fun  w H locs hw hP hD hS => ?_)
    obtain ⟨v_7, f_8, bv_7, rfl⟩ := hw
    have hP : va_P V.1 vwCl [(y 0, .inr (9, [.ref (y 1), .int v_7, .ref (y 2), .ref (y 10), .ref (y 19), .ref (y 25), .ref (y 26), .ref (y 30), .ref (y 31), .ref (y 32), o10, o11, .int py0_12, .int py0_13, .int py0_14])), (y 1, aB V 900 f_8)] H := hP
    have hD : va_D A [(y 0, .inr (9, [.ref (y 1), .int v_7, .ref (y 2), .ref (y 10), .ref (y 19), .ref (y 25), .ref (y 26), .ref (y 30), .ref (y 31), .ref (y 32), o10, o11, .int py0_12, .int py0_13, .int py0_14])), (y 1, aB V 900 f_8)] := hD
    refine lv_aload_n hx hb dX9_feed_26 rfl (lv_at hl 0 rfl) ?_
    refine lv_iload_n hx hb dX9_feed_27 rfl (lv_at hl 3 rfl) ?_
    refine jnV (wr := []) (rnV (rest := []) ⟨hx, hb, hml, hown, hg⟩ (k_X9_putOnTape_2 l V y a3 v_7 o10 o11 py0_12 py0_13 py0_14 f_8 bv_7) mt_X9_putOnTape q_2_86 ⟨Nat.le_of_ble_eq_true rfl, Nat.le_of_ble_eq_true rfl⟩ hK hP hD hS hA hE [0, 1] rfl rfl 0 rfl rfl rfl rfl hl.1 rfl (Nat.le_of_ble_eq_true rfl) dX9_feed_28 ⟨Nat.le_of_ble_eq_true rfl, Nat.le_of_ble_eq_true rfl⟩) hP hD hS hA [0, 1] [] rfl rfl rfl (by decide) (fun  w H locs hw hP hD hS => ?_)
    obtain ⟨v_9, f_10, bv_9, rfl⟩ := hw
    have hP : va_P V.1 vwCl [(y 0, .inr (9, [.ref (y 1), .int v_9, .ref (y 2), .ref (y 10), .ref (y 19), .ref (y 25), .ref (y 26), .ref (y 30), .ref (y 31), .ref (y 32), o10, o11, .int py0_12, .int py0_13, .int py0_14])), (y 1, aB V 900 f_10)] H := hP
    have hD : va_D A [(y 0, .inr (9, [.ref (y 1), .int v_9, .ref (y 2), .ref (y 10), .ref (y 19), .ref (y 25), .ref (y 26), .ref (y 30), .ref (y 31), .ref (y 32), o10, o11, .int py0_12, .int py0_13, .int py0_14])), (y 1, aB V 900 f_10)] := hD
    refine lv_aload_n hx hb dX9_feed_31 rfl (lv_at hl 0 rfl) ?_
    refine lv_iload hx hb dX9_feed_32 (lv_at hl 4 rfl) ?_
    refine jnV (wr := []) (rnV (rest := []) ⟨hx, hb, hml, hown, hg⟩ (k_X9_putOnTape_3 l V y a4 v_9 o10 o11 py0_12 py0_13 py0_14 f_10 bv_9) mt_X9_putOnTape q_2_86 ⟨Nat.le_of_ble_eq_true rfl, Nat.le_of_ble_eq_true rfl⟩ hK hP hD hS hA hE [0, 1] rfl rfl 0 rfl rfl rfl rfl hl.1 rfl (Nat.le_of_ble_eq_true rfl) dX9_feed_34 ⟨Nat.le_of_ble_eq_true rfl, Nat.le_of_ble_eq_true rfl⟩) hP hD hS hA [0, 1] [] rfl rfl rfl (by decide) (fun  w H locs hw hP hD hS => ?_)
    obtain ⟨v_11, f_12, bv_11, rfl⟩ := hw
    have hP : va_P V.1 vwCl [(y 0, .inr (9, [.ref (y 1), .int v_11, .ref (y 2), .ref (y 10), .ref (y 19), .ref (y 25), .ref (y 26), .ref (y 30), .ref (y 31), .ref (y 32), o10, o11, .int py0_12, .int py0_13, .int py0_14])), (y 1, aB V 900 f_12)] H := hP
    have hD : va_D A [(y 0, .inr (9, [.ref (y 1), .int v_11, .ref (y 2), .ref (y 10), .ref (y 19), .ref (y 25), .ref (y 26), .ref (y 30), .ref (y 31), .ref (y 32), o10, o11, .int py0_12, .int py0_13, .int py0_14])), (y 1, aB V 900 f_12)] := hD
    refine lv_aload_n hx hb dX9_feed_37 rfl (lv_at hl 0 rfl) ?_
    refine lv_iload hx hb dX9_feed_38 (lv_at hl 5 rfl) ?_
    refine jnV (wr := []) (rnV (rest := []) ⟨hx, hb, hml, hown, hg⟩ (k_X9_putOnTape_4 l V y a5 v_11 o10 o11 py0_12 py0_13 py0_14 f_12 bv_11) mt_X9_putOnTape q_2_86 ⟨Nat.le_of_ble_eq_true rfl, Nat.le_of_ble_eq_true rfl⟩ hK hP hD hS hA hE [0, 1] rfl rfl 0 rfl rfl rfl rfl hl.1 rfl (Nat.le_of_ble_eq_true rfl) dX9_feed_40 ⟨Nat.le_of_ble_eq_true rfl, Nat.le_of_ble_eq_true rfl⟩) hP hD hS hA [0, 1] [] rfl rfl rfl (by decide) (fun  w H locs hw hP hD hS => ?_)
    obtain ⟨v_13, f_14, bv_13, rfl⟩ := hw
    have hP : va_P V.1 vwCl [(y 0, .inr (9, [.ref (y 1), .int v_13, .ref (y 2), .ref (y 10), .ref (y 19), .ref (y 25), .ref (y 26), .ref (y 30), .ref (y 31), .ref (y 32), o10, o11, .int py0_12, .int py0_13, .int py0_14])), (y 1, aB V 900 f_14)] H := hP
    have hD : va_D A [(y 0, .inr (9, [.ref (y 1), .int v_13, .ref (y 2), .ref (y 10), .ref (y 19), .ref (y 25), .ref (y 26), .ref (y 30), .ref (y 31), .ref (y 32), o10, o11, .int py0_12, .int py0_13, .int py0_14])), (y 1, aB V 900 f_14)] := hD
    refine lv_aload_n hx hb dX9_feed_43 rfl (lv_at hl 0 rfl) ?_
    refine va_get (ci := 9) (v := .int v_13) (C := RX9) (T := TX9) (N := 15) hx hb hg inX9 hown hK hP 0 rfl rfl 1 (by decide) (hg _ q_2_37) (fun _ h9 => h9) rfl dX9_feed_44 ?_
    exact fiI hx hb hr hlk hK hP hD hS dX9_feed_47 (Nat.le_of_ble_eq_true rfl) (Nat.le_of_ble_eq_true rfl) (⟨v_13, f_14, bv_13, (iv_w bv_13 (by decide)), rfl⟩)
  · have b_15 : iv 901 920 x_1 := iv_l2 (Int32.not_le.mp c_2) (iv_c (900 : Int32) (a := 900) (b := 900) (by decide)) bx_1 (by decide)
    have b_16 : iv 881 900 py0_1 := iv_addb ex_1 b_15 bpy0_1 (iv_c (20 : Int32) (a := 20) (b := 20) (by decide)) (by decide)
    refine lv_bipush (v := (-5)) hx hb dX9_feed_13 (by decide) ?_
    exact fiI hx hb hr hlk hK hP hD hS dX9_feed_15 (Nat.le_of_ble_eq_true rfl) (Nat.le_of_ble_eq_true rfl) (⟨py0_1, fy1, (iv_w b_16 (by decide)), (iv_c ((-5) : Int32) (by decide)), rfl⟩)
