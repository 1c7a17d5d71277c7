theorem dX10_high_0 : decode cX10_high 0 = .ok (.aload_n 0, 1) := by decide +kernel
theorem dX10_high_1 : decode cX10_high 1 = .ok (.iconst 0, 1) := by decide +kernel
theorem dX10_high_2 : decode cX10_high 2 = .ok (.putfield 1, 3) := by decide +kernel
theorem dX10_high_5 : decode cX10_high 5 = .ok (.aload_n 0, 1) := by decide +kernel
theorem dX10_high_6 : decode cX10_high 6 = .ok (.iload_n 1, 1) := by decide +kernel
theorem dX10_high_7 : decode cX10_high 7 = .ok (.iload_n 2, 1) := by decide +kernel
theorem dX10_high_8 : decode cX10_high 8 = .ok (.iconst (-1), 1) := by decide +kernel
theorem q_8_54 : Cond.code yX10_noTold prog_12_method_107_code 6 (some FieldType.int) ∈ gw := gw_8 (i := 54) (rfl) rfl
theorem q_8_53 : Cond.instanceMethod yX10_noTold ∈ gw := gw_8 (i := 53) (by decide +kernel) rfl
theorem q_s_117 : Cond.selects "BeaconDelayModel" yX10_noTold yX10_noTold ∈ gw := gw_s (i := 117) (by decide +kernel) rfl
theorem mt_X10_noTold : MtV yX10_noTold cX10_noTold 6 (some .int) 3 := ⟨⟨q_8_54, q_1_9, by decide +kernel, by decide +kernel, by decide +kernel⟩, q_8_53, q_s_117⟩
theorem q_8_51 : Cond.methodLink "BeaconDelayModel" 425 yX10_noTold ∈ gw := gw_8 (i := 51) (by decide +kernel) rfl
theorem dX10_high_9 : decode cX10_high 9 = .ok (.invokevirtual 425, 3) := by decide +kernel
theorem dX10_high_12 : decode cX10_high 12 = .ok (.istore_n 3, 1) := by decide +kernel
theorem dX10_high_13 : decode cX10_high 13 = .ok (.iload_n 3, 1) := by decide +kernel
theorem dX10_high_14 : decode cX10_high 14 = .ok (.ifCond .eq 8, 3) := by decide +kernel
theorem dX10_high_22 : decode cX10_high 22 = .ok (.aload_n 0, 1) := by decide +kernel
theorem dX10_high_23 : decode cX10_high 23 = .ok (.iload_n 1, 1) := by decide +kernel
theorem dX10_high_24 : decode cX10_high 24 = .ok (.iload_n 2, 1) := by decide +kernel
theorem q_8_59 : Cond.code yX10_laysHigh prog_12_method_109_code 10 (some FieldType.long) ∈ gw := gw_8 (i := 59) (rfl) rfl
theorem q_8_58 : Cond.instanceMethod yX10_laysHigh ∈ gw := gw_8 (i := 58) (by decide +kernel) rfl
theorem q_s_118 : Cond.selects "BeaconDelayModel" yX10_laysHigh yX10_laysHigh ∈ gw := gw_s (i := 118) (by decide +kernel) rfl
theorem mt_X10_laysHigh : MtV yX10_laysHigh cX10_laysHigh 10 (some .long) 2 := ⟨⟨q_8_59, q_1_9, by decide +kernel, by decide +kernel, by decide +kernel⟩, q_8_58, q_s_118⟩
theorem q_8_56 : Cond.methodLink "BeaconDelayModel" 428 yX10_laysHigh ∈ gw := gw_8 (i := 56) (by decide +kernel) rfl
theorem dX10_high_25 : decode cX10_high 25 = .ok (.invokevirtual 428, 3) := by decide +kernel
theorem dX10_high_28 : decode cX10_high 28 = .ok (.lreturn, 1) := by decide +kernel
theorem dX10_high_17 : decode cX10_high 17 = .ok (.iload_n 3, 1) := by decide +kernel
theorem dX10_high_18 : decode cX10_high 18 = .ok (.i2l, 1) := by decide +kernel
theorem dX10_high_19 : decode cX10_high 19 = .ok (.goto 9, 3) := by decide +kernel
set_option maxHeartbeats 4000000 in
set_option maxRecDepth 100000 in
theorem k_X10_high_0 (l : Launch) (V : GV) (z : Nat → Nat) (a1 : Int32) (a2 : Int32) (pz0_0 : Int32) (pz0_5 : Int32) (pz0_6 : Int32) (pz0_7 : Int32) (pz0_8 : Int32) (pz0_9 : Int32) (pz0_10 : Int32) (pz0_11 : Int32) (pz0_12 : Int32) (pz0_13 : Int32) (pz0_14 : Int32) (pz0_18 : Int32) (pz0_19 : Int32) (pz0_22 : Int32) (pz0_23 : Int32) (pz0_29 : Int32) (fz1 : Nat → Int32) (fz15 : Nat → Int32) (fz16 : Nat → Int32) (fz24 : Nat → Int32) (fz25 : Nat → Int32) (fz28 : Nat → Int32) (fz35 : Nat → Int64) (fz37 : Nat → Int32) (fz38 : Nat → Int32) (fz39 : Nat → Int64) (bpz0_5 : iv 0 900 pz0_5) (bpz0_6 : iv 0 900 pz0_6) (bpz0_7 : iv 0 900 pz0_7) (bpz0_8 : iv 0 900 pz0_8) (bpz0_10 : iv 0 999 pz0_10) (bpz0_11 : iv 0 4 pz0_11) (bpz0_12 : iv 0 900 pz0_12) (bpz0_13 : iv 0 4 pz0_13) (bpz0_14 : iv (-1) 900 pz0_14) (bpz0_18 : iv 0 2 pz0_18) (bpz0_22 : iv 0 9999 pz0_22) (bpz0_29 : iv 0 10000 pz0_29) (tfz1 : ivT tA fz1) (tfz16 : ivT tW fz16) (tfz24 : ∀ j, iv 0 9999 (fz24 j)) (tfz25 : ∀ j, iv (-1) 9999 (fz25 j)) (tfz37 : ∀ j, iv (-1) 3 (fz37 j)) (tfz38 : ∀ j, iv 0 40 (fz38 j)) (hf0 : RW fz1) : Ct l V yX10_high (.code yX10_high cX10_high 4 (some .long)) 7 [.ref (z 0), .int a1, .int a2] [(z 0, .inr (10, mo z pz0_0 pz0_5 pz0_6 pz0_7 pz0_8 pz0_9 pz0_10 pz0_11 pz0_12 pz0_13 pz0_14 pz0_18 pz0_19 pz0_22 pz0_23 pz0_29)), (z 1, aI V 3075 fz1), (z 15, aI V 900 fz15), (z 16, aI V 6 fz16), (z 24, aI V 10000 fz24), (z 25, aI V 40000 fz25), (z 28, aZ V 10000 fz28), (z 35, aJ V 90000 fz35), (z 37, aI V 4 fz37), (z 38, aI V 4 fz38), (z 39, aJ V 160 fz39)] 0 0 (QL V (fun (r : Int64) (w : va_W) => ∃ (v0 : Int32) (v1 : Int32) (g2 : Nat → Int32) (g3 : Nat → Int32) (g4 : Nat → Int32) (g5 : Nat → Int32) (g6 : Nat → Int32) (g7 : Nat → Int64), iv 0 10000 v1 ∧ (ivT tW g3) ∧ (∀ j, iv 0 9999 (g4 j)) ∧ (∀ j, iv (-1) 9999 (g5 j)) ∧ (RW fz1) ∧ w = [(z 0, .inr (10, mo z v0 pz0_5 pz0_6 pz0_7 pz0_8 pz0_9 pz0_10 pz0_11 pz0_12 pz0_13 pz0_14 pz0_18 pz0_19 pz0_22 pz0_23 v1)), (z 1, aI V 3075 fz1), (z 15, aI V 900 g2), (z 16, aI V 6 g3), (z 24, aI V 10000 g4), (z 25, aI V 40000 g5), (z 28, aZ V 10000 g6), (z 35, aJ V 90000 g7), (z 37, aI V 4 fz37), (z 38, aI V 4 fz38), (z 39, aJ V 160 fz39)])) := by
  refine Ct.of (by decide) (Nat.le_of_ble_eq_true rfl) (fun p e s m below meth c A ls hx hb hr hml hown hlk hnm hg hP hK hD hE hA hS hl => ?_)
  have hl : lv_has ls 4 [(0, .ref (z 0)), (1, .int a1), (2, .int a2)] := hl
  refine lv_aload_n hx hb dX10_high_0 rfl (lv_at hl 0 rfl) ?_
  refine lv_iconst (v := 0) hx hb dX10_high_1 (by decide) ?_
  refine va_put (ci := 10) (v := .int 0) (ty := .int) (C := RX10) (T := TX10) (N := 40) hx hb hg inX10 tyX10 tyX10_ok nmX10 hown hK hP hD hS 0 rfl rfl 0 (by decide) (hg _ q_5_224) (fun _ h9 => h9) rfl (by decide +kernel) rfl rfl (Nat.le_of_ble_eq_true rfl) dX10_high_2 (fun H locs hP hD hS => ?_)
  have hP : va_P V.1 vwCl [(z 0, .inr (10, mo z 0 pz0_5 pz0_6 pz0_7 pz0_8 pz0_9 pz0_10 pz0_11 pz0_12 pz0_13 pz0_14 pz0_18 pz0_19 pz0_22 pz0_23 pz0_29)), (z 1, aI V 3075 fz1), (z 15, aI V 900 fz15), (z 16, aI V 6 fz16), (z 24, aI V 10000 fz24), (z 25, aI V 40000 fz25), (z 28, aZ V 10000 fz28), (z 35, aJ V 90000 fz35), (z 37, aI V 4 fz37), (z 38, aI V 4 fz38), (z 39, aJ V 160 fz39)] H := hP
  have hD : va_D A [(z 0, .inr (10, mo z 0 pz0_5 pz0_6 pz0_7 pz0_8 pz0_9 pz0_10 pz0_11 pz0_12 pz0_13 pz0_14 pz0_18 pz0_19 pz0_22 pz0_23 pz0_29)), (z 1, aI V 3075 fz1), (z 15, aI V 900 fz15), (z 16, aI V 6 fz16), (z 24, aI V 10000 fz24), (z 25, aI V 40000 fz25), (z 28, aZ V 10000 fz28), (z 35, aJ V 90000 fz35), (z 37, aI V 4 fz37), (z 38, aI V 4 fz38), (z 39, aJ V 160 fz39)] := hD
  refine lv_aload_n hx hb dX10_high_5 rfl (lv_at hl 0 rfl) ?_
  refine lv_iload_n hx hb dX10_high_6 rfl (lv_at hl 1 rfl) ?_
  refine lv_iload_n hx hb dX10_high_7 rfl (lv_at hl 2 rfl) ?_
  refine lv_iconst (v := (-1)) hx hb dX10_high_8 (by decide) ?_
  refine jnI (wr := [(z 15, aI V 900 fz15), (z 16, aI V 6 fz16), (z 24, aI V 10000 fz24), (z 25, aI V 40000 fz25), (z 28, aZ V 10000 fz28), (z 35, aJ V 90000 fz35)]) (rnV (rest := []) ⟨hx, hb, hml, hown, hg⟩ (k_X10_noTold_0 l V z a1 a2 (-1) 0 pz0_5 pz0_6 pz0_7 pz0_8 pz0_9 pz0_10 pz0_11 pz0_12 pz0_13 pz0_14 pz0_18 pz0_19 pz0_22 pz0_23 pz0_29 fz1 fz37 fz38 fz39 bpz0_5 bpz0_6 bpz0_7 bpz0_8 bpz0_10 bpz0_11 bpz0_12 bpz0_13 bpz0_14 bpz0_18 bpz0_22 bpz0_29 tfz1 tfz37 tfz38) mt_X10_noTold q_8_51 ⟨Nat.le_of_ble_eq_true rfl, Nat.le_of_ble_eq_true rfl⟩ hK hP hD hS hA hE [0, 1, 8, 9, 10] rfl rfl 0 rfl rfl rfl rfl hl.1 rfl (Nat.le_of_ble_eq_true rfl) dX10_high_9 ⟨Nat.le_of_ble_eq_true rfl, Nat.le_of_ble_eq_true rfl⟩) hP hD hS hA [0, 1, 8, 9, 10] [2, 3, 4, 5, 6, 7] rfl rfl rfl (by decide) (fun r_1 w H locs hw hP hD hS => ?_)
  obtain ⟨br_1, g_2, g_3, g_4, rfl⟩ := hw
  have hP : va_P V.1 vwCl [(z 15, aI V 900 fz15), (z 16, aI V 6 fz16), (z 24, aI V 10000 fz24), (z 25, aI V 40000 fz25), (z 28, aZ V 10000 fz28), (z 35, aJ V 90000 fz35), (z 0, .inr (10, mo z 0 pz0_5 pz0_6 pz0_7 pz0_8 pz0_9 pz0_10 pz0_11 pz0_12 pz0_13 pz0_14 pz0_18 pz0_19 pz0_22 pz0_23 pz0_29)), (z 1, aI V 3075 fz1), (z 37, aI V 4 fz37), (z 38, aI V 4 fz38), (z 39, aJ V 160 fz39)] H := hP
  have hD : va_D A [(z 15, aI V 900 fz15), (z 16, aI V 6 fz16), (z 24, aI V 10000 fz24), (z 25, aI V 40000 fz25), (z 28, aZ V 10000 fz28), (z 35, aJ V 90000 fz35), (z 0, .inr (10, mo z 0 pz0_5 pz0_6 pz0_7 pz0_8 pz0_9 pz0_10 pz0_11 pz0_12 pz0_13 pz0_14 pz0_18 pz0_19 pz0_22 pz0_23 pz0_29)), (z 1, aI V 3075 fz1), (z 37, aI V 4 fz37), (z 38, aI V 4 fz38), (z 39, aJ V 160 fz39)] := hD
  refine lv_istore_n (lv' := [(3, .int r_1), (0, .ref (z 0)), (1, .int a1), (2, .int a2)]) hx hb dX10_high_12 rfl hl (by decide) rfl (fun ls hl => ?_)
  refine lv_iload_n hx hb dX10_high_13 rfl (lv_at hl 0 rfl) ?_
  refine lv_if_eq (tgt := 22) hx hb dX10_high_14 (by decide) (fun c_5 => ?_) (fun c_5 => ?_)
  · have b_6 : iv 0 0 r_1 := iv_q c_5 (iv_c (0 : Int32) (a := 0) (b := 0) (by decide))
    have b_7 : iv 0 3 a1 := iv_cap (g_3 (iv_eqp b_6 (iv_c (0 : Int32) (by decide)))) (iv_top a1) (by decide)
    have b_8 : iv 0 3 a2 := iv_cap (g_4 (iv_eqp b_6 (iv_c (0 : Int32) (by decide)))) (iv_top a2) (by decide)
    refine lv_aload_n hx hb dX10_high_22 rfl (lv_at hl 1 rfl) ?_
    refine lv_iload_n hx hb dX10_high_23 rfl (lv_at hl 2 rfl) ?_
    refine lv_iload_n hx hb dX10_high_24 rfl (lv_at hl 3 rfl) ?_
    refine jnL (wr := [(z 37, aI V 4 fz37)]) (rnV (rest := []) ⟨hx, hb, hml, hown, hg⟩ (k_X10_laysHigh_0 l V z a1 a2 fz15 fz16 fz24 fz25 fz28 fz35 0 pz0_5 pz0_6 pz0_7 pz0_8 pz0_9 pz0_10 pz0_11 pz0_12 pz0_13 pz0_14 pz0_18 pz0_19 pz0_22 pz0_23 pz0_29 fz1 fz38 fz39 b_7 b_8 tfz16 tfz24 tfz25 bpz0_5 bpz0_6 bpz0_7 bpz0_8 bpz0_10 bpz0_11 bpz0_12 bpz0_13 bpz0_14 bpz0_18 bpz0_22 bpz0_29 tfz1 tfz38 hf0 (g_2 (iv_eqp b_6 (iv_c (0 : Int32) (by decide))))) mt_X10_laysHigh q_8_56 ⟨Nat.le_of_ble_eq_true rfl, Nat.le_of_ble_eq_true rfl⟩ hK hP hD hS hA hE [0, 1, 2, 3, 4, 5, 6, 7, 9, 10] rfl rfl 6 rfl rfl rfl rfl hl.1 rfl (Nat.le_of_ble_eq_true rfl) dX10_high_25 ⟨Nat.le_of_ble_eq_true rfl, Nat.le_of_ble_eq_true rfl⟩) hP hD hS hA [0, 1, 2, 3, 4, 5, 6, 7, 9, 10] [8] rfl rfl rfl (by decide) (fun r_9 w H locs hw hP hD hS => ?_)
    obtain ⟨f_10, f_11, f_12, f_13, f_14, f_15, v_16, tf_11, tf_12, tf_13, bv_16, g_17, g_18, g_19, g_20, g_21, rfl⟩ := hw
    have hP : va_P V.1 vwCl [(z 37, aI V 4 fz37), (z 15, aI V 900 f_10), (z 16, aI V 6 f_11), (z 24, aI V 10000 f_12), (z 25, aI V 40000 f_13), (z 28, aZ V 10000 f_14), (z 35, aJ V 90000 f_15), (z 0, .inr (10, mo z 0 pz0_5 pz0_6 pz0_7 pz0_8 pz0_9 pz0_10 pz0_11 pz0_12 pz0_13 pz0_14 pz0_18 pz0_19 pz0_22 pz0_23 v_16)), (z 1, aI V 3075 fz1), (z 38, aI V 4 fz38), (z 39, aJ V 160 fz39)] H := hP
    have hD : va_D A [(z 37, aI V 4 fz37), (z 15, aI V 900 f_10), (z 16, aI V 6 f_11), (z 24, aI V 10000 f_12), (z 25, aI V 40000 f_13), (z 28, aZ V 10000 f_14), (z 35, aJ V 90000 f_15), (z 0, .inr (10, mo z 0 pz0_5 pz0_6 pz0_7 pz0_8 pz0_9 pz0_10 pz0_11 pz0_12 pz0_13 pz0_14 pz0_18 pz0_19 pz0_22 pz0_23 v_16)), (z 1, aI V 3075 fz1), (z 38, aI V 4 fz38), (z 39, aJ V 160 fz39)] := hD
    have hP := subP (ws' := [(z 0, .inr (10, mo z 0 pz0_5 pz0_6 pz0_7 pz0_8 pz0_9 pz0_10 pz0_11 pz0_12 pz0_13 pz0_14 pz0_18 pz0_19 pz0_22 pz0_23 v_16)), (z 1, aI V 3075 fz1), (z 15, aI V 900 f_10), (z 16, aI V 6 f_11), (z 24, aI V 10000 f_12), (z 25, aI V 40000 f_13), (z 28, aZ V 10000 f_14), (z 35, aJ V 90000 f_15), (z 37, aI V 4 fz37), (z 38, aI V 4 fz38), (z 39, aJ V 160 fz39)]) hP [7, 8, 1, 2, 3, 4, 5, 6, 0, 9, 10] rfl
    have hD := hD.sub (ws' := [(z 0, .inr (10, mo z 0 pz0_5 pz0_6 pz0_7 pz0_8 pz0_9 pz0_10 pz0_11 pz0_12 pz0_13 pz0_14 pz0_18 pz0_19 pz0_22 pz0_23 v_16)), (z 1, aI V 3075 fz1), (z 15, aI V 900 f_10), (z 16, aI V 6 f_11), (z 24, aI V 10000 f_12), (z 25, aI V 40000 f_13), (z 28, aZ V 10000 f_14), (z 35, aJ V 90000 f_15), (z 37, aI V 4 fz37), (z 38, aI V 4 fz38), (z 39, aJ V 160 fz39)]) [7, 8, 1, 2, 3, 4, 5, 6, 0, 9, 10] rfl rfl
    exact fiL hx hb hr hlk hK hP hD hS dX10_high_28 (Nat.le_of_ble_eq_true rfl) (Nat.le_of_ble_eq_true rfl) (⟨0, v_16, f_10, f_11, f_12, f_13, f_14, f_15, bv_16, tf_11, tf_12, tf_13, g_17, rfl⟩)
  · have b_22 : iv (-6) (-1) r_1 := iv_n1 c_5 br_1 (iv_c (0 : Int32) (a := 0) (b := 0) (by decide)) (by decide)
    refine lv_iload_n hx hb dX10_high_17 rfl (lv_at hl 0 rfl) ?_
    refine lv_i2l hx hb dX10_high_18 rfl ?_
    refine lv_topl (fun j_23 ej_23 => ?_)
    have bj_23 : ivL (-6) (-1) j_23 := by rw [ej_23]; exact ivL_of b_22
    refine lv_goto (tgt := 28) hx hb dX10_high_19 (by decide) ?_
    have hP := subP (ws' := [(z 0, .inr (10, mo z 0 pz0_5 pz0_6 pz0_7 pz0_8 pz0_9 pz0_10 pz0_11 pz0_12 pz0_13 pz0_14 pz0_18 pz0_19 pz0_22 pz0_23 pz0_29)), (z 1, aI V 3075 fz1), (z 15, aI V 900 fz15), (z 16, aI V 6 fz16), (z 24, aI V 10000 fz24), (z 25, aI V 40000 fz25), (z 28, aZ V 10000 fz28), (z 35, aJ V 90000 fz35), (z 37, aI V 4 fz37), (z 38, aI V 4 fz38), (z 39, aJ V 160 fz39)]) hP [6, 7, 0, 1, 2, 3, 4, 5, 8, 9, 10] rfl
    have hD := hD.sub (ws' := [(z 0, .inr (10, mo z 0 pz0_5 pz0_6 pz0_7 pz0_8 pz0_9 pz0_10 pz0_11 pz0_12 pz0_13 pz0_14 pz0_18 pz0_19 pz0_22 pz0_23 pz0_29)), (z 1, aI V 3075 fz1), (z 15, aI V 900 fz15), (z 16, aI V 6 fz16), (z 24, aI V 10000 fz24), (z 25, aI V 40000 fz25), (z 28, aZ V 10000 fz28), (z 35, aJ V 90000 fz35), (z 37, aI V 4 fz37), (z 38, aI V 4 fz38), (z 39, aJ V 160 fz39)]) [6, 7, 0, 1, 2, 3, 4, 5, 8, 9, 10] rfl rfl
    exact fiL hx hb hr hlk hK hP hD hS dX10_high_28 (Nat.le_of_ble_eq_true rfl) (Nat.le_of_ble_eq_true rfl) (⟨0, pz0_29, fz15, fz16, fz24, fz25, fz28, fz35, bpz0_29, tfz16, tfz24, tfz25, hf0, rfl⟩)
theorem dX10_highBy_0 : decode cX10_highBy 0 = .ok (.aload_n 0, 1) := by decide +kernel
theorem dX10_highBy_1 : decode cX10_highBy 1 = .ok (.iconst 0, 1) := by decide +kernel
theorem dX10_highBy_2 : decode cX10_highBy 2 = .ok (.putfield 1, 3) := by decide +kernel
theorem dX10_highBy_5 : decode cX10_highBy 5 = .ok (.aload_n 0, 1) := by decide +kernel
theorem dX10_highBy_6 : decode cX10_highBy 6 = .ok (.iload_n 1, 1) := by decide +kernel
theorem dX10_highBy_7 : decode cX10_highBy 7 = .ok (.iload_n 2, 1) := by decide +kernel
theorem dX10_highBy_8 : decode cX10_highBy 8 = .ok (.iconst (-1), 1) := by decide +kernel
theorem dX10_highBy_9 : decode cX10_highBy 9 = .ok (.invokevirtual 425, 3) := by decide +kernel
theorem dX10_highBy_12 : decode cX10_highBy 12 = .ok (.istore 4, 2) := by decide +kernel
theorem dX10_highBy_14 : decode cX10_highBy 14 = .ok (.iload 4, 2) := by decide +kernel
theorem dX10_highBy_16 : decode cX10_highBy 16 = .ok (.ifCond .eq 6, 3) := by decide +kernel
theorem dX10_highBy_22 : decode cX10_highBy 22 = .ok (.iload_n 3, 1) := by decide +kernel
theorem dX10_highBy_23 : decode cX10_highBy 23 = .ok (.ifCond .ge 6, 3) := by decide +kernel
theorem dX10_highBy_29 : decode cX10_highBy 29 = .ok (.aload_n 0, 1) := by decide +kernel
theorem dX10_highBy_30 : decode cX10_highBy 30 = .ok (.iload_n 1, 1) := by decide +kernel
theorem dX10_highBy_31 : decode cX10_highBy 31 = .ok (.iload_n 2, 1) := by decide +kernel
theorem dX10_highBy_32 : decode cX10_highBy 32 = .ok (.invokevirtual 428, 3) := by decide +kernel
theorem dX10_highBy_35 : decode cX10_highBy 35 = .ok (.lconst 0, 1) := by decide +kernel
theorem dX10_highBy_36 : decode cX10_highBy 36 = .ok (.lcmp, 1) := by decide +kernel
theorem dX10_highBy_37 : decode cX10_highBy 37 = .ok (.ifCond .eq 13, 3) := by decide +kernel
theorem dX10_highBy_50 : decode cX10_highBy 50 = .ok (.iconst (-1), 1) := by decide +kernel
theorem dX10_highBy_51 : decode cX10_highBy 51 = .ok (.ireturn, 1) := by decide +kernel
theorem dX10_highBy_40 : decode cX10_highBy 40 = .ok (.iload_n 3, 1) := by decide +kernel
theorem dX10_highBy_41 : decode cX10_highBy 41 = .ok (.aload_n 0, 1) := by decide +kernel
theorem dX10_highBy_42 : decode cX10_highBy 42 = .ok (.getfield 87, 3) := by decide +kernel
theorem dX10_highBy_45 : decode cX10_highBy 45 = .ok (.iload_n 1, 1) := by decide +kernel
theorem dX10_highBy_46 : decode cX10_highBy 46 = .ok (.iaload, 1) := by decide +kernel
theorem dX10_highBy_47 : decode cX10_highBy 47 = .ok (.if_icmp .lt 5, 3) := by decide +kernel
theorem dX10_highBy_52 : decode cX10_highBy 52 = .ok (.aload_n 0, 1) := by decide +kernel
theorem dX10_highBy_53 : decode cX10_highBy 53 = .ok (.invokevirtual 269, 3) := by decide +kernel
theorem dX10_highBy_56 : decode cX10_highBy 56 = .ok (.istore 5, 2) := by decide +kernel
theorem dX10_highBy_58 : decode cX10_highBy 58 = .ok (.iconst 0, 1) := by decide +kernel
theorem dX10_highBy_59 : decode cX10_highBy 59 = .ok (.istore 6, 2) := by decide +kernel
theorem dX10_highBy_61 : decode cX10_highBy 61 = .ok (.iconst 0, 1) := by decide +kernel
theorem dX10_highBy_62 : decode cX10_highBy 62 = .ok (.istore 7, 2) := by decide +kernel
theorem dX10_highBy_64 : decode cX10_highBy 64 = .ok (.aload_n 0, 1) := by decide +kernel
theorem dX10_highBy_65 : decode cX10_highBy 65 = .ok (.iload_n 1, 1) := by decide +kernel
theorem dX10_highBy_66 : decode cX10_highBy 66 = .ok (.iload_n 2, 1) := by decide +kernel
theorem dX10_highBy_67 : decode cX10_highBy 67 = .ok (.iload 6, 2) := by decide +kernel
theorem dX10_highBy_69 : decode cX10_highBy 69 = .ok (.aload_n 0, 1) := by decide +kernel
theorem dX10_highBy_70 : decode cX10_highBy 70 = .ok (.getfield 49, 3) := by decide +kernel
theorem dX10_highBy_73 : decode cX10_highBy 73 = .ok (.iconst 4, 1) := by decide +kernel
theorem dX10_highBy_74 : decode cX10_highBy 74 = .ok (.iload 5, 2) := by decide +kernel
theorem dX10_highBy_76 : decode cX10_highBy 76 = .ok (.imul, 1) := by decide +kernel
theorem dX10_highBy_77 : decode cX10_highBy 77 = .ok (.iload 7, 2) := by decide +kernel
theorem dX10_highBy_79 : decode cX10_highBy 79 = .ok (.iadd, 1) := by decide +kernel
theorem dX10_highBy_80 : decode cX10_highBy 80 = .ok (.iaload, 1) := by decide +kernel
theorem dX10_highBy_81 : decode cX10_highBy 81 = .ok (.invokevirtual 421, 3) := by decide +kernel
theorem dX10_highBy_84 : decode cX10_highBy 84 = .ok (.ifCond .eq 34, 3) := by decide +kernel
theorem dX10_highBy_118 : decode cX10_highBy 118 = .ok (.iinc 7 1, 3) := by decide +kernel
theorem dX10_highBy_121 : decode cX10_highBy 121 = .ok (.goto (-57), 3) := by decide +kernel
theorem dX10_highBy_87 : decode cX10_highBy 87 = .ok (.aload_n 0, 1) := by decide +kernel
theorem dX10_highBy_88 : decode cX10_highBy 88 = .ok (.getfield 78, 3) := by decide +kernel
theorem dX10_highBy_91 : decode cX10_highBy 91 = .ok (.sipush 10000, 3) := by decide +kernel
theorem dX10_highBy_94 : decode cX10_highBy 94 = .ok (.iload 6, 2) := by decide +kernel
theorem dX10_highBy_96 : decode cX10_highBy 96 = .ok (.iconst 1, 1) := by decide +kernel
theorem dX10_highBy_97 : decode cX10_highBy 97 = .ok (.iadd, 1) := by decide +kernel
theorem dX10_highBy_98 : decode cX10_highBy 98 = .ok (.imul, 1) := by decide +kernel
theorem dX10_highBy_99 : decode cX10_highBy 99 = .ok (.aload_n 0, 1) := by decide +kernel
theorem dX10_highBy_100 : decode cX10_highBy 100 = .ok (.getfield 49, 3) := by decide +kernel
theorem dX10_highBy_103 : decode cX10_highBy 103 = .ok (.iconst 4, 1) := by decide +kernel
theorem dX10_highBy_104 : decode cX10_highBy 104 = .ok (.iload 5, 2) := by decide +kernel
theorem dX10_highBy_106 : decode cX10_highBy 106 = .ok (.imul, 1) := by decide +kernel
theorem dX10_highBy_107 : decode cX10_highBy 107 = .ok (.iload 7, 2) := by decide +kernel
theorem dX10_highBy_109 : decode cX10_highBy 109 = .ok (.iadd, 1) := by decide +kernel
theorem dX10_highBy_110 : decode cX10_highBy 110 = .ok (.iaload, 1) := by decide +kernel
theorem dX10_highBy_111 : decode cX10_highBy 111 = .ok (.iadd, 1) := by decide +kernel
theorem dX10_highBy_112 : decode cX10_highBy 112 = .ok (.laload, 1) := by decide +kernel
theorem dX10_highBy_113 : decode cX10_highBy 113 = .ok (.lconst 0, 1) := by decide +kernel
theorem dX10_highBy_114 : decode cX10_highBy 114 = .ok (.lcmp, 1) := by decide +kernel
theorem dX10_highBy_115 : decode cX10_highBy 115 = .ok (.ifCond .ne 9, 3) := by decide +kernel
theorem dX10_highBy_124 : decode cX10_highBy 124 = .ok (.iload 6, 2) := by decide +kernel
theorem dX10_highBy_126 : decode cX10_highBy 126 = .ok (.iload_n 3, 1) := by decide +kernel
theorem dX10_highBy_127 : decode cX10_highBy 127 = .ok (.if_icmp .ne 6, 3) := by decide +kernel
theorem dX10_highBy_133 : decode cX10_highBy 133 = .ok (.aload_n 0, 1) := by decide +kernel
theorem dX10_highBy_134 : decode cX10_highBy 134 = .ok (.getfield 49, 3) := by decide +kernel
theorem dX10_highBy_137 : decode cX10_highBy 137 = .ok (.iconst 4, 1) := by decide +kernel
theorem dX10_highBy_138 : decode cX10_highBy 138 = .ok (.iload 5, 2) := by decide +kernel
theorem dX10_highBy_140 : decode cX10_highBy 140 = .ok (.imul, 1) := by decide +kernel
theorem dX10_highBy_141 : decode cX10_highBy 141 = .ok (.iload 7, 2) := by decide +kernel
theorem dX10_highBy_143 : decode cX10_highBy 143 = .ok (.iadd, 1) := by decide +kernel
theorem dX10_highBy_144 : decode cX10_highBy 144 = .ok (.iaload, 1) := by decide +kernel
theorem dX10_highBy_145 : decode cX10_highBy 145 = .ok (.istore 5, 2) := by decide +kernel
theorem dX10_highBy_147 : decode cX10_highBy 147 = .ok (.iinc 6 1, 3) := by decide +kernel
theorem dX10_highBy_150 : decode cX10_highBy 150 = .ok (.goto (-89), 3) := by decide +kernel
theorem dX10_highBy_130 : decode cX10_highBy 130 = .ok (.iload 7, 2) := by decide +kernel
theorem dX10_highBy_132 : decode cX10_highBy 132 = .ok (.ireturn, 1) := by decide +kernel
theorem dX10_highBy_26 : decode cX10_highBy 26 = .ok (.bipush (-3), 2) := by decide +kernel
theorem dX10_highBy_28 : decode cX10_highBy 28 = .ok (.ireturn, 1) := by decide +kernel
theorem dX10_highBy_19 : decode cX10_highBy 19 = .ok (.iload 4, 2) := by decide +kernel
theorem dX10_highBy_21 : decode cX10_highBy 21 = .ok (.ireturn, 1) := by decide +kernel
set_option maxHeartbeats 4000000 in
set_option maxRecDepth 100000 in
theorem k_X10_highBy_0 (l : Launch) (V : GV) (z : Nat → Nat) (a1 : Int32) (a2 : Int32) (a3 : Int32) (pz0_0 : Int32) (pz0_5 : Int32) (pz0_6 : Int32) (pz0_7 : Int32) (pz0_8 : Int32) (pz0_9 : Int32) (pz0_10 : Int32) (pz0_11 : Int32) (pz0_12 : Int32) (pz0_13 : Int32) (pz0_14 : Int32) (pz0_18 : Int32) (pz0_19 : Int32) (pz0_22 : Int32) (pz0_23 : Int32) (pz0_29 : Int32) (fz1 : Nat → Int32) (fz15 : Nat → Int32) (fz16 : Nat → Int32) (fz24 : Nat → Int32) (fz25 : Nat → Int32) (fz28 : Nat → Int32) (fz35 : Nat → Int64) (fz37 : Nat → Int32) (fz38 : Nat → Int32) (fz39 : Nat → Int64) (bpz0_5 : iv 0 900 pz0_5) (bpz0_6 : iv 0 900 pz0_6) (bpz0_7 : iv 0 900 pz0_7) (bpz0_8 : iv 0 900 pz0_8) (bpz0_10 : iv 0 999 pz0_10) (bpz0_11 : iv 0 4 pz0_11) (bpz0_12 : iv 0 900 pz0_12) (bpz0_13 : iv 0 4 pz0_13) (bpz0_14 : iv (-1) 900 pz0_14) (bpz0_18 : iv 0 2 pz0_18) (bpz0_22 : iv 0 9999 pz0_22) (bpz0_29 : iv 0 10000 pz0_29) (tfz1 : ivT tA fz1) (tfz16 : ivT tW fz16) (tfz24 : ∀ j, iv 0 9999 (fz24 j)) (tfz25 : ∀ j, iv (-1) 9999 (fz25 j)) (tfz37 : ∀ j, iv (-1) 3 (fz37 j)) (tfz38 : ∀ j, iv 0 40 (fz38 j)) (hf0 : RW fz1) : Ct l V yX10_highBy (.code yX10_highBy cX10_highBy 8 (some .int)) 7 [.ref (z 0), .int a1, .int a2, .int a3] [(z 0, .inr (10, mo z pz0_0 pz0_5 pz0_6 pz0_7 pz0_8 pz0_9 pz0_10 pz0_11 pz0_12 pz0_13 pz0_14 pz0_18 pz0_19 pz0_22 pz0_23 pz0_29)), (z 1, aI V 3075 fz1), (z 15, aI V 900 fz15), (z 16, aI V 6 fz16), (z 24, aI V 10000 fz24), (z 25, aI V 40000 fz25), (z 28, aZ V 10000 fz28), (z 35, aJ V 90000 fz35), (z 37, aI V 4 fz37), (z 38, aI V 4 fz38), (z 39, aJ V 160 fz39)] 0 0 (QI V (fun (r : Int32) (w : va_W) => ∃ (v0 : Int32) (v1 : Int32) (g2 : Nat → Int32) (g3 : Nat → Int32) (g4 : Nat → Int32) (g5 : Nat → Int32) (g6 : Nat → Int32) (g7 : Nat → Int64), iv 0 10000 v1 ∧ (ivT tW g3) ∧ (∀ j, iv 0 9999 (g4 j)) ∧ (∀ j, iv (-1) 9999 (g5 j)) ∧ iv (-6) 3 r ∧ (RW fz1) ∧ w = [(z 0, .inr (10, mo z v0 pz0_5 pz0_6 pz0_7 pz0_8 pz0_9 pz0_10 pz0_11 pz0_12 pz0_13 pz0_14 pz0_18 pz0_19 pz0_22 pz0_23 v1)), (z 1, aI V 3075 fz1), (z 15, aI V 900 g2), (z 16, aI V 6 g3), (z 24, aI V 10000 g4), (z 25, aI V 40000 g5), (z 28, aZ V 10000 g6), (z 35, aJ V 90000 g7), (z 37, aI V 4 fz37), (z 38, aI V 4 fz38), (z 39, aJ V 160 fz39)])) := by
  refine Ct.of (by decide) (Nat.le_of_ble_eq_true rfl) (fun p e s m below meth c A ls hx hb hr hml hown hlk hnm hg hP hK hD hE hA hS hl => ?_)
  have hl : lv_has ls 8 [(0, .ref (z 0)), (1, .int a1), (2, .int a2), (3, .int a3)] := hl
  refine lv_aload_n hx hb dX10_highBy_0 rfl (lv_at hl 0 rfl) ?_
  refine lv_iconst (v := 0) hx hb dX10_highBy_1 (by decide) ?_
  refine va_put (ci := 10) (v := .int 0) (ty := .int) (C := RX10) (T := TX10) (N := 40) hx hb hg inX10 tyX10 tyX10_ok nmX10 hown hK hP hD hS 0 rfl rfl 0 (by decide) (hg _ q_5_224) (fun _ h9 => h9) rfl (by decide +kernel) rfl rfl (Nat.le_of_ble_eq_true rfl) dX10_highBy_2 (fun H locs hP hD hS => ?_)
  have hP : va_P V.1 vwCl [(z 0, .inr (10, mo z 0 pz0_5 pz0_6 pz0_7 pz0_8 pz0_9 pz0_10 pz0_11 pz0_12 pz0_13 pz0_14 pz0_18 pz0_19 pz0_22 pz0_23 pz0_29)), (z 1, aI V 3075 fz1), (z 15, aI V 900 fz15), (z 16, aI V 6 fz16), (z 24, aI V 10000 fz24), (z 25, aI V 40000 fz25), (z 28, aZ V 10000 fz28), (z 35, aJ V 90000 fz35), (z 37, aI V 4 fz37), (z 38, aI V 4 fz38), (z 39, aJ V 160 fz39)] H := hP
  have hD : va_D A [(z 0, .inr (10, mo z 0 pz0_5 pz0_6 pz0_7 pz0_8 pz0_9 pz0_10 pz0_11 pz0_12 pz0_13 pz0_14 pz0_18 pz0_19 pz0_22 pz0_23 pz0_29)), (z 1, aI V 3075 fz1), (z 15, aI V 900 fz15), (z 16, aI V 6 fz16), (z 24, aI V 10000 fz24), (z 25, aI V 40000 fz25), (z 28, aZ V 10000 fz28), (z 35, aJ V 90000 fz35), (z 37, aI V 4 fz37), (z 38, aI V 4 fz38), (z 39, aJ V 160 fz39)] := hD
  refine lv_aload_n hx hb dX10_highBy_5 rfl (lv_at hl 0 rfl) ?_
  refine lv_iload_n hx hb dX10_highBy_6 rfl (lv_at hl 1 rfl) ?_
  refine lv_iload_n hx hb dX10_highBy_7 rfl (lv_at hl 2 rfl) ?_
  refine lv_iconst (v := (-1)) hx hb dX10_highBy_8 (by decide) ?_
  refine jnI (wr := [(z 15, aI V 900 fz15), (z 16, aI V 6 fz16), (z 24, aI V 10000 fz24), (z 25, aI V 40000 fz25), (z 28, aZ V 10000 fz28), (z 35, aJ V 90000 fz35)]) (rnV (rest := []) ⟨hx, hb, hml, hown, hg⟩ (k_X10_noTold_0 l V z a1 a2 (-1) 0 pz0_5 pz0_6 pz0_7 pz0_8 pz0_9 pz0_10 pz0_11 pz0_12 pz0_13 pz0_14 pz0_18 pz0_19 pz0_22 pz0_23 pz0_29 fz1 fz37 fz38 fz39 bpz0_5 bpz0_6 bpz0_7 bpz0_8 bpz0_10 bpz0_11 bpz0_12 bpz0_13 bpz0_14 bpz0_18 bpz0_22 bpz0_29 tfz1 tfz37 tfz38) mt_X10_noTold q_8_51 ⟨Nat.le_of_ble_eq_true rfl, Nat.le_of_ble_eq_true rfl⟩ hK hP hD hS hA hE [0, 1, 8, 9, 10] rfl rfl 0 rfl rfl rfl rfl hl.1 rfl (Nat.le_of_ble_eq_true rfl) dX10_highBy_9 ⟨Nat.le_of_ble_eq_true rfl, Nat.le_of_ble_eq_true rfl⟩) hP hD hS hA [0, 1, 8, 9, 10] [2, 3, 4, 5, 6, 7] rfl rfl rfl (by decide) (fun r_1 w H locs hw hP hD hS => ?_)
  obtain ⟨br_1, g_2, g_3, g_4, rfl⟩ := hw
  have hP : va_P V.1 vwCl [(z 15, aI V 900 fz15), (z 16, aI V 6 fz16), (z 24, aI V 10000 fz24), (z 25, aI V 40000 fz25), (z 28, aZ V 10000 fz28), (z 35, aJ V 90000 fz35), (z 0, .inr (10, mo z 0 pz0_5 pz0_6 pz0_7 pz0_8 pz0_9 pz0_10 pz0_11 pz0_12 pz0_13 pz0_14 pz0_18 pz0_19 pz0_22 pz0_23 pz0_29)), (z 1, aI V 3075 fz1), (z 37, aI V 4 fz37), (z 38, aI V 4 fz38), (z 39, aJ V 160 fz39)] H := hP
  have hD : va_D A [(z 15, aI V 900 fz15), (z 16, aI V 6 fz16), (z 24, aI V 10000 fz24), (z 25, aI V 40000 fz25), (z 28, aZ V 10000 fz28), (z 35, aJ V 90000 fz35), (z 0, .inr (10, mo z 0 pz0_5 pz0_6 pz0_7 pz0_8 pz0_9 pz0_10 pz0_11 pz0_12 pz0_13 pz0_14 pz0_18 pz0_19 pz0_22 pz0_23 pz0_29)), (z 1, aI V 3075 fz1), (z 37, aI V 4 fz37), (z 38, aI V 4 fz38), (z 39, aJ V 160 fz39)] := hD
  refine lv_istore (lv' := [(4, .int r_1), (0, .ref (z 0)), (1, .int a1), (2, .int a2), (3, .int a3)]) hx hb dX10_highBy_12 hl (by decide) rfl (fun ls hl => ?_)
  refine lv_iload hx hb dX10_highBy_14 (lv_at hl 0 rfl) ?_
  refine lv_if_eq (tgt := 22) hx hb dX10_highBy_16 (by decide) (fun c_5 => ?_) (fun c_5 => ?_)
  · have b_6 : iv 0 0 r_1 := iv_q c_5 (iv_c (0 : Int32) (a := 0) (b := 0) (by decide))
    have b_7 : iv 0 3 a1 := iv_cap (g_3 (iv_eqp b_6 (iv_c (0 : Int32) (by decide)))) (iv_top a1) (by decide)
    have b_8 : iv 0 3 a2 := iv_cap (g_4 (iv_eqp b_6 (iv_c (0 : Int32) (by decide)))) (iv_top a2) (by decide)
    refine lv_iload_n hx hb dX10_highBy_22 rfl (lv_at hl 4 rfl) ?_
    refine lv_if_ge (tgt := 29) hx hb dX10_highBy_23 (by decide) (fun c_9 => ?_) (fun c_9 => ?_)
    · have b_10 : iv 0 2147483647 a3 := iv_e2 c_9 (iv_c (0 : Int32) (a := 0) (b := 0) (by decide)) (iv_top a3) (by decide)
      refine lv_aload_n hx hb dX10_highBy_29 rfl (lv_at hl 1 rfl) ?_
      refine lv_iload_n hx hb dX10_highBy_30 rfl (lv_at hl 2 rfl) ?_
      refine lv_iload_n hx hb dX10_highBy_31 rfl (lv_at hl 3 rfl) ?_
      refine jnL (wr := [(z 37, aI V 4 fz37)]) (rnV (rest := []) ⟨hx, hb, hml, hown, hg⟩ (k_X10_laysHigh_0 l V z a1 a2 fz15 fz16 fz24 fz25 fz28 fz35 0 pz0_5 pz0_6 pz0_7 pz0_8 pz0_9 pz0_10 pz0_11 pz0_12 pz0_13 pz0_14 pz0_18 pz0_19 pz0_22 pz0_23 pz0_29 fz1 fz38 fz39 b_7 b_8 tfz16 tfz24 tfz25 bpz0_5 bpz0_6 bpz0_7 bpz0_8 bpz0_10 bpz0_11 bpz0_12 bpz0_13 bpz0_14 bpz0_18 bpz0_22 bpz0_29 tfz1 tfz38 hf0 (g_2 (iv_eqp b_6 (iv_c (0 : Int32) (by decide))))) mt_X10_laysHigh q_8_56 ⟨Nat.le_of_ble_eq_true rfl, Nat.le_of_ble_eq_true rfl⟩ hK hP hD hS hA hE [0, 1, 2, 3, 4, 5, 6, 7, 9, 10] rfl rfl 6 rfl rfl rfl rfl hl.1 rfl (Nat.le_of_ble_eq_true rfl) dX10_highBy_32 ⟨Nat.le_of_ble_eq_true rfl, Nat.le_of_ble_eq_true rfl⟩) hP hD hS hA [0, 1, 2, 3, 4, 5, 6, 7, 9, 10] [8] rfl rfl rfl (by decide) (fun r_11 w H locs hw hP hD hS => ?_)
      obtain ⟨f_12, f_13, f_14, f_15, f_16, f_17, v_18, tf_13, tf_14, tf_15, bv_18, g_19, g_20, g_21, g_22, g_23, rfl⟩ := hw
      have hP : va_P V.1 vwCl [(z 37, aI V 4 fz37), (z 15, aI V 900 f_12), (z 16, aI V 6 f_13), (z 24, aI V 10000 f_14), (z 25, aI V 40000 f_15), (z 28, aZ V 10000 f_16), (z 35, aJ V 90000 f_17), (z 0, .inr (10, mo z 0 pz0_5 pz0_6 pz0_7 pz0_8 pz0_9 pz0_10 pz0_11 pz0_12 pz0_13 pz0_14 pz0_18 pz0_19 pz0_22 pz0_23 v_18)), (z 1, aI V 3075 fz1), (z 38, aI V 4 fz38), (z 39, aJ V 160 fz39)] H := hP
      have hD : va_D A [(z 37, aI V 4 fz37), (z 15, aI V 900 f_12), (z 16, aI V 6 f_13), (z 24, aI V 10000 f_14), (z 25, aI V 40000 f_15), (z 28, aZ V 10000 f_16), (z 35, aJ V 90000 f_17), (z 0, .inr (10, mo z 0 pz0_5 pz0_6 pz0_7 pz0_8 pz0_9 pz0_10 pz0_11 pz0_12 pz0_13 pz0_14 pz0_18 pz0_19 pz0_22 pz0_23 v_18)), (z 1, aI V 3075 fz1), (z 38, aI V 4 fz38), (z 39, aJ V 160 fz39)] := hD
      refine lv_lconst (v := 0) hx hb dX10_highBy_35 (by decide) ?_
      refine W.lcmp hx hb dX10_highBy_36 ?_
      refine lv_if_eq (tgt := 50) hx hb dX10_highBy_37 (by decide) (fun c_24 => ?_) (fun c_24 => ?_)
      · replace c_24 : r_11 = (0 : Int64) := (lg_cmp_eq _ _).mp c_24
        have b_25 : ivL 0 0 r_11 := ivL_q c_24 (ivL_c (0 : Int64) (a := 0) (b := 0) (by decide))
        refine lv_iconst (v := (-1)) hx hb dX10_highBy_50 (by decide) ?_
        have hP := subP (ws' := [(z 0, .inr (10, mo z 0 pz0_5 pz0_6 pz0_7 pz0_8 pz0_9 pz0_10 pz0_11 pz0_12 pz0_13 pz0_14 pz0_18 pz0_19 pz0_22 pz0_23 v_18)), (z 1, aI V 3075 fz1), (z 15, aI V 900 f_12), (z 16, aI V 6 f_13), (z 24, aI V 10000 f_14), (z 25, aI V 40000 f_15), (z 28, aZ V 10000 f_16), (z 35, aJ V 90000 f_17), (z 37, aI V 4 fz37), (z 38, aI V 4 fz38), (z 39, aJ V 160 fz39)]) hP [7, 8, 1, 2, 3, 4, 5, 6, 0, 9, 10] rfl
        have hD := hD.sub (ws' := [(z 0, .inr (10, mo z 0 pz0_5 pz0_6 pz0_7 pz0_8 pz0_9 pz0_10 pz0_11 pz0_12 pz0_13 pz0_14 pz0_18 pz0_19 pz0_22 pz0_23 v_18)), (z 1, aI V 3075 fz1), (z 15, aI V 900 f_12), (z 16, aI V 6 f_13), (z 24, aI V 10000 f_14), (z 25, aI V 40000 f_15), (z 28, aZ V 10000 f_16), (z 35, aJ V 90000 f_17), (z 37, aI V 4 fz37), (z 38, aI V 4 fz38), (z 39, aJ V 160 fz39)]) [7, 8, 1, 2, 3, 4, 5, 6, 0, 9, 10] rfl rfl
        exact fiI hx hb hr hlk hK hP hD hS dX10_highBy_51 (Nat.le_of_ble_eq_true rfl) (Nat.le_of_ble_eq_true rfl) (⟨0, v_18, f_12, f_13, f_14, f_15, f_16, f_17, bv_18, tf_13, tf_14, tf_15, (iv_c ((-1) : Int32) (by decide)), g_19, rfl⟩)
      · replace c_24 : ¬ r_11 = (0 : Int64) := fun z => c_24 ((lg_cmp_eq _ _).mpr z)
        refine lv_iload_n hx hb dX10_highBy_40 rfl (lv_at hl 4 rfl) ?_
        refine lv_aload_n hx hb dX10_highBy_41 rfl (lv_at hl 1 rfl) ?_
        refine va_get (ci := 10) (v := .ref (z 38)) (C := RX10) (T := TX10) (N := 40) hx hb hg inX10 hown hK hP 7 rfl rfl 38 (by decide) (hg _ q_6_22) (fun _ h9 => h9) rfl dX10_highBy_42 ?_
        refine lv_iload_n hx hb dX10_highBy_45 rfl (lv_at hl 2 rfl) ?_
        refine va_iald hx hb hK hP 9 0 rfl rfl (iv_in b_7 (by decide)) dX10_highBy_46 ?_
        refine lv_topi (fun x_26 ex_26 => ?_)
        have bx_26 : iv 0 40 x_26 := by rw [ex_26]; exact tfz38 _
        have b_27 : iv 1 8 x_26 := by rw [ex_26]; exact (g_2 (iv_eqp b_6 (iv_c (0 : Int32) (by decide))))
        refine lv_icmp_lt (tgt := 52) hx hb dX10_highBy_47 (by decide) (fun c_28 => ?_) (fun c_28 => ?_)
        · have b_29 : iv 0 7 a3 := iv_l1 c_28 b_10 b_27 (by decide)
          refine lv_aload_n hx hb dX10_highBy_52 rfl (lv_at hl 1 rfl) ?_
          refine jnI (wr := [(z 37, aI V 4 fz37), (z 15, aI V 900 f_12), (z 16, aI V 6 f_13), (z 24, aI V 10000 f_14), (z 25, aI V 40000 f_15), (z 28, aZ V 10000 f_16), (z 35, aJ V 90000 f_17), (z 38, aI V 4 fz38), (z 39, aJ V 160 fz39)]) (rnV (rest := []) ⟨hx, hb, hml, hown, hg⟩ (k_X10_standNow_0 l V z 0 pz0_5 pz0_6 pz0_7 pz0_8 pz0_9 pz0_10 pz0_11 pz0_12 pz0_13 pz0_14 pz0_18 pz0_19 pz0_22 pz0_23 v_18 fz1 bpz0_5 bpz0_6 bpz0_7 bpz0_8 bpz0_10 bpz0_11 bpz0_12 bpz0_13 bpz0_14 bpz0_18 bpz0_22 bv_18 tfz1) mt_X10_standNow q_7_11 ⟨Nat.le_of_ble_eq_true rfl, Nat.le_of_ble_eq_true rfl⟩ hK hP hD hS hA hE [7, 8] rfl rfl 7 rfl rfl rfl rfl hl.1 rfl (Nat.le_of_ble_eq_true rfl) dX10_highBy_53 ⟨Nat.le_of_ble_eq_true rfl, Nat.le_of_ble_eq_true rfl⟩) hP hD hS hA [7, 8] [0, 1, 2, 3, 4, 5, 6, 9, 10] rfl rfl rfl (by decide) (fun r_30 w H locs hw hP hD hS => ?_)
          obtain ⟨br_30, er_30, rfl⟩ := hw
          have hP : va_P V.1 vwCl [(z 37, aI V 4 fz37), (z 15, aI V 900 f_12), (z 16, aI V 6 f_13), (z 24, aI V 10000 f_14), (z 25, aI V 40000 f_15), (z 28, aZ V 10000 f_16), (z 35, aJ V 90000 f_17), (z 38, aI V 4 fz38), (z 39, aJ V 160 fz39), (z 0, .inr (10, mo z 0 pz0_5 pz0_6 pz0_7 pz0_8 pz0_9 pz0_10 pz0_11 pz0_12 pz0_13 pz0_14 pz0_18 pz0_19 pz0_22 pz0_23 v_18)), (z 1, aI V 3075 fz1)] H := hP
          have hD : va_D A [(z 37, aI V 4 fz37), (z 15, aI V 900 f_12), (z 16, aI V 6 f_13), (z 24, aI V 10000 f_14), (z 25, aI V 40000 f_15), (z 28, aZ V 10000 f_16), (z 35, aJ V 90000 f_17), (z 38, aI V 4 fz38), (z 39, aJ V 160 fz39), (z 0, .inr (10, mo z 0 pz0_5 pz0_6 pz0_7 pz0_8 pz0_9 pz0_10 pz0_11 pz0_12 pz0_13 pz0_14 pz0_18 pz0_19 pz0_22 pz0_23 v_18)), (z 1, aI V 3075 fz1)] := hD
          refine lv_istore (lv' := [(5, .int r_30), (4, .int r_1), (0, .ref (z 0)), (1, .int a1), (2, .int a2), (3, .int a3)]) hx hb dX10_highBy_56 hl (by decide) rfl (fun ls hl => ?_)
          refine lv_iconst (v := 0) hx hb dX10_highBy_58 (by decide) ?_
          refine lv_istore (lv' := [(6, .int 0), (5, .int r_30), (4, .int r_1), (0, .ref (z 0)), (1, .int a1), (2, .int a2), (3, .int a3)]) hx hb dX10_highBy_59 hl (by decide) rfl (fun ls hl => ?_)
          refine loopF (X := fun (n_33 : Nat) (H : Heap) (locs : List Loc) (ls : Array Slot) => ∃ (u_31 : Int32) (u_32 : Int32), (iv 0 7 u_31) ∧ (iv 0 9999 u_32) ∧ (inS v_18 f_14 (u_32 : Int32).toNatClampNeg) ∧ (f_17 (10000 * (u_31).toNatClampNeg + (u_32 : Int32).toNatClampNeg) ≠ 0) ∧ ((u_31).toInt ≤ (a3 : Int32).toInt) ∧ (RW fz1) ∧ n_33 = (2147483647 - (u_31 : Int32).toInt).toNat ∧ va_P V.1 vwCl [(z 37, aI V 4 fz37), (z 15, aI V 900 f_12), (z 16, aI V 6 f_13), (z 24, aI V 10000 f_14), (z 25, aI V 40000 f_15), (z 28, aZ V 10000 f_16), (z 35, aJ V 90000 f_17), (z 38, aI V 4 fz38), (z 39, aJ V 160 fz39), (z 0, .inr (10, mo z 0 pz0_5 pz0_6 pz0_7 pz0_8 pz0_9 pz0_10 pz0_11 pz0_12 pz0_13 pz0_14 pz0_18 pz0_19 pz0_22 pz0_23 v_18)), (z 1, aI V 3075 fz1)] H ∧ va_D A [(z 37, aI V 4 fz37), (z 15, aI V 900 f_12), (z 16, aI V 6 f_13), (z 24, aI V 10000 f_14), (z 25, aI V 40000 f_15), (z 28, aZ V 10000 f_16), (z 35, aJ V 90000 f_17), (z 38, aI V 4 fz38), (z 39, aJ V 160 fz39), (z 0, .inr (10, mo z 0 pz0_5 pz0_6 pz0_7 pz0_8 pz0_9 pz0_10 pz0_11 pz0_12 pz0_13 pz0_14 pz0_18 pz0_19 pz0_22 pz0_23 v_18)), (z 1, aI V 3075 fz1)] ∧ va_S A s.heap H locs ∧ lv_has ls 8 [(6, .int u_31), (5, .int u_32), (4, .int r_1), (0, .ref (z 0)), (1, .int a1), (2, .int a2), (3, .int a3)]) (g := fun ls => F0 m 61 ls []) (fun n_33 H locs ls hX ihn_33 => ?_) _ ⟨0, r_30, (iv_c (0 : Int32) (by decide)), br_30, (by rw [er_30]; exact g_21), (by rw [er_30, (by decide : 10000 * (0 : Int32).toNatClampNeg = 0), Nat.zero_add, ← g_23]; exact c_24), (by have q9 := b_29; have z9 : (0 : Int32).toInt = 0 := (by decide); unfold iv at q9; omega), g_19, rfl, hP, hD, hS, lv_sub hl [0, 1, 2, 3, 4, 5, 6] rfl⟩
          obtain ⟨u_31, u_32, bu_31, bu_32, inn_33_0, inn_33_1, inn_33_2, inn_33_3, en_33, hP, hD, hS, hl⟩ := hX
          refine lv_iconst (v := 0) hx hb dX10_highBy_61 (by decide) ?_
          refine lv_istore (lv' := [(7, .int 0), (6, .int u_31), (5, .int u_32), (4, .int r_1), (0, .ref (z 0)), (1, .int a1), (2, .int a2), (3, .int a3)]) hx hb dX10_highBy_62 hl (by decide) rfl (fun ls hl => ?_)
          refine loopF (X := fun (n_35 : Nat) (H : Heap) (locs : List Loc) (ls : Array Slot) => ∃ (u_34 : Int32), (iv 0 3 u_34) ∧ (WH f_17 fz39 f_15 a1 a2 u_31 u_34 (u_32 : Int32).toNatClampNeg) ∧ (RW fz1) ∧ n_35 = (2147483647 - (u_34 : Int32).toInt).toNat ∧ va_P V.1 vwCl [(z 37, aI V 4 fz37), (z 15, aI V 900 f_12), (z 16, aI V 6 f_13), (z 24, aI V 10000 f_14), (z 25, aI V 40000 f_15), (z 28, aZ V 10000 f_16), (z 35, aJ V 90000 f_17), (z 38, aI V 4 fz38), (z 39, aJ V 160 fz39), (z 0, .inr (10, mo z 0 pz0_5 pz0_6 pz0_7 pz0_8 pz0_9 pz0_10 pz0_11 pz0_12 pz0_13 pz0_14 pz0_18 pz0_19 pz0_22 pz0_23 v_18)), (z 1, aI V 3075 fz1)] H ∧ va_D A [(z 37, aI V 4 fz37), (z 15, aI V 900 f_12), (z 16, aI V 6 f_13), (z 24, aI V 10000 f_14), (z 25, aI V 40000 f_15), (z 28, aZ V 10000 f_16), (z 35, aJ V 90000 f_17), (z 38, aI V 4 fz38), (z 39, aJ V 160 fz39), (z 0, .inr (10, mo z 0 pz0_5 pz0_6 pz0_7 pz0_8 pz0_9 pz0_10 pz0_11 pz0_12 pz0_13 pz0_14 pz0_18 pz0_19 pz0_22 pz0_23 v_18)), (z 1, aI V 3075 fz1)] ∧ va_S A s.heap H locs ∧ lv_has ls 8 [(7, .int u_34), (6, .int u_31), (5, .int u_32), (4, .int r_1), (0, .ref (z 0)), (1, .int a1), (2, .int a2), (3, .int a3)]) (g := fun ls => F0 m 64 ls []) (fun n_35 H locs ls hX ihn_35 => ?_) _ ⟨0, (iv_c (0 : Int32) (by decide)), (WH_0 g_22 (by have q9 := bu_31; unfold iv at q9; omega) (by have q9 := inn_33_2; have q8 := Int32.lt_iff_toInt_lt.mp c_28; rw [← ex_26]; omega) inn_33_0 inn_33_1), inn_33_3, rfl, hP, hD, hS, lv_sub hl [0, 1, 2, 3, 4, 5, 6, 7] rfl⟩
          obtain ⟨u_34, bu_34, inn_35_0, inn_35_1, en_35, hP, hD, hS, hl⟩ := hX
          refine lv_aload_n hx hb dX10_highBy_64 rfl (lv_at hl 4 rfl) ?_
          refine lv_iload_n hx hb dX10_highBy_65 rfl (lv_at hl 5 rfl) ?_
          refine lv_iload_n hx hb dX10_highBy_66 rfl (lv_at hl 6 rfl) ?_
          refine lv_iload hx hb dX10_highBy_67 (lv_at hl 1 rfl) ?_
          refine lv_aload_n hx hb dX10_highBy_69 rfl (lv_at hl 4 rfl) ?_
          refine va_get (ci := 10) (v := .ref (z 25)) (C := RX10) (T := TX10) (N := 40) hx hb hg inX10 hown hK hP 9 rfl rfl 25 (by decide) (hg _ q_6_9) (fun _ h9 => h9) rfl dX10_highBy_70 ?_
          refine lv_iconst (v := 4) hx hb dX10_highBy_73 (by decide) ?_
          refine lv_iload hx hb dX10_highBy_74 (lv_at hl 2 rfl) ?_
          refine lv_imul hx hb dX10_highBy_76 ?_
          refine lv_topi (fun x_36 ex_36 => ?_)
          have bx_36 : iv 0 39996 x_36 := by rw [ex_36]; exact iv_cmul (iv_c (4 : Int32) (a := 4) (b := 4) (by decide)) bu_32 (by decide)
          refine lv_iload hx hb dX10_highBy_77 (lv_at hl 0 rfl) ?_
          refine lv_iadd hx hb dX10_highBy_79 ?_
          refine lv_topi (fun x_37 ex_37 => ?_)
          have bx_37 : iv 0 39999 x_37 := by rw [ex_37]; exact iv_add bx_36 bu_34 (by decide)
          refine va_iald hx hb hK hP 4 0 rfl rfl (iv_in bx_37 (by decide)) dX10_highBy_80 ?_
          refine lv_topi (fun x_38 ex_38 => ?_)
          have bx_38 : iv (-1) 9999 x_38 := by rw [ex_38]; exact tf_15 _
          refine jnI (wr := [(z 37, aI V 4 fz37), (z 15, aI V 900 f_12), (z 16, aI V 6 f_13), (z 24, aI V 10000 f_14), (z 25, aI V 40000 f_15), (z 28, aZ V 10000 f_16), (z 35, aJ V 90000 f_17), (z 38, aI V 4 fz38), (z 1, aI V 3075 fz1)]) (rnV (rest := []) ⟨hx, hb, hml, hown, hg⟩ (k_X10_isSo_0 l V z a1 a2 u_31 x_38 fz39 0 pz0_5 pz0_6 pz0_7 pz0_8 pz0_9 pz0_10 pz0_11 pz0_12 pz0_13 pz0_14 pz0_18 pz0_19 pz0_22 pz0_23 v_18 b_7 b_8 (iv_w bu_31 (by decide)) bx_38 bpz0_5 bpz0_6 bpz0_7 bpz0_8 bpz0_10 bpz0_11 bpz0_12 bpz0_13 bpz0_14 bpz0_18 bpz0_22 bv_18) mt_X10_isSo q_8_60 ⟨Nat.le_of_ble_eq_true rfl, Nat.le_of_ble_eq_true rfl⟩ hK hP hD hS hA hE [8, 9] rfl rfl 9 rfl rfl rfl rfl hl.1 rfl (Nat.le_of_ble_eq_true rfl) dX10_highBy_81 ⟨Nat.le_of_ble_eq_true rfl, Nat.le_of_ble_eq_true rfl⟩) hP hD hS hA [8, 9] [0, 1, 2, 3, 4, 5, 6, 7, 10] rfl rfl rfl (by decide) (fun r_39 w H locs hw hP hD hS => ?_)
          obtain ⟨br_39, er_39, g_40, rfl⟩ := hw
          have hP : va_P V.1 vwCl [(z 37, aI V 4 fz37), (z 15, aI V 900 f_12), (z 16, aI V 6 f_13), (z 24, aI V 10000 f_14), (z 25, aI V 40000 f_15), (z 28, aZ V 10000 f_16), (z 35, aJ V 90000 f_17), (z 38, aI V 4 fz38), (z 1, aI V 3075 fz1), (z 39, aJ V 160 fz39), (z 0, .inr (10, mo z 0 pz0_5 pz0_6 pz0_7 pz0_8 pz0_9 pz0_10 pz0_11 pz0_12 pz0_13 pz0_14 pz0_18 pz0_19 pz0_22 pz0_23 v_18))] H := hP
          have hD : va_D A [(z 37, aI V 4 fz37), (z 15, aI V 900 f_12), (z 16, aI V 6 f_13), (z 24, aI V 10000 f_14), (z 25, aI V 40000 f_15), (z 28, aZ V 10000 f_16), (z 35, aJ V 90000 f_17), (z 38, aI V 4 fz38), (z 1, aI V 3075 fz1), (z 39, aJ V 160 fz39), (z 0, .inr (10, mo z 0 pz0_5 pz0_6 pz0_7 pz0_8 pz0_9 pz0_10 pz0_11 pz0_12 pz0_13 pz0_14 pz0_18 pz0_19 pz0_22 pz0_23 v_18))] := hD
          refine lv_if_eq (tgt := 118) hx hb dX10_highBy_84 (by decide) (fun c_41 => ?_) (fun c_41 => ?_)
          · have b_42 : iv 0 0 r_39 := iv_q c_41 (iv_c (0 : Int32) (a := 0) (b := 0) (by decide))
            have b_43 : iv 0 2 u_34 := WH_b inn_35_0 bu_34 (by decide) (nCD_a bu_32 bu_34 (by decide) ex_36 ex_37 ex_38 er_39 b_42)
            obtain ⟨x_44, ex_44⟩ : ∃ z9 : Int32, z9 = u_34 + 1 := ⟨_, rfl⟩
            have bx_44 : iv 1 3 x_44 := by rw [ex_44]; exact iv_add b_43 (iv_c (1 : Int32) (a := 1) (b := 1) (by decide)) (by decide)
            refine lv_iinc (v := x_44) (lv' := [(7, .int x_44), (6, .int u_31), (5, .int u_32), (4, .int r_1), (0, .ref (z 0)), (1, .int a1), (2, .int a2), (3, .int a3)]) hx hb dX10_highBy_118 hl (k := 0) rfl (by rw [ex_44]; rfl) (by decide) rfl (fun ls hl => ?_)
            refine lv_goto (tgt := 64) hx hb dX10_highBy_121 (by decide) ?_
            have hP := subP (ws' := [(z 37, aI V 4 fz37), (z 15, aI V 900 f_12), (z 16, aI V 6 f_13), (z 24, aI V 10000 f_14), (z 25, aI V 40000 f_15), (z 28, aZ V 10000 f_16), (z 35, aJ V 90000 f_17), (z 38, aI V 4 fz38), (z 39, aJ V 160 fz39), (z 0, .inr (10, mo z 0 pz0_5 pz0_6 pz0_7 pz0_8 pz0_9 pz0_10 pz0_11 pz0_12 pz0_13 pz0_14 pz0_18 pz0_19 pz0_22 pz0_23 v_18)), (z 1, aI V 3075 fz1)]) hP [0, 1, 2, 3, 4, 5, 6, 7, 9, 10, 8] rfl
            have hD := hD.sub (ws' := [(z 37, aI V 4 fz37), (z 15, aI V 900 f_12), (z 16, aI V 6 f_13), (z 24, aI V 10000 f_14), (z 25, aI V 40000 f_15), (z 28, aZ V 10000 f_16), (z 35, aJ V 90000 f_17), (z 38, aI V 4 fz38), (z 39, aJ V 160 fz39), (z 0, .inr (10, mo z 0 pz0_5 pz0_6 pz0_7 pz0_8 pz0_9 pz0_10 pz0_11 pz0_12 pz0_13 pz0_14 pz0_18 pz0_19 pz0_22 pz0_23 v_18)), (z 1, aI V 3075 fz1)]) [0, 1, 2, 3, 4, 5, 6, 7, 9, 10, 8] rfl rfl
            exact ihn_35 _ _ _ _ (by rw [en_35, ex_44]; exact mu_up b_43 (by decide)) ⟨x_44, (iv_w bx_44 (by decide)), (WH_s inn_35_0 b_43 (by decide) ex_44 (nCD_a bu_32 b_43 (by decide) ex_36 ex_37 ex_38 er_39 b_42)), inn_35_1, rfl, hP, hD, hS, lv_sub hl [0, 1, 2, 3, 4, 5, 6, 7] rfl⟩
          · have b_45 : iv 1 1 r_39 := iv_n0 c_41 br_39 (iv_c (0 : Int32) (a := 0) (b := 0) (by decide)) (by decide)
            have b_46 : iv 0 9999 x_38 := iv_cap (g_40 (iv_eqp b_45 (iv_c (1 : Int32) (by decide)))) bx_38 (by decide)
            refine lv_aload_n hx hb dX10_highBy_87 rfl (lv_at hl 4 rfl) ?_
            refine va_get (ci := 10) (v := .ref (z 35)) (C := RX10) (T := TX10) (N := 40) hx hb hg inX10 hown hK hP 10 rfl rfl 35 (by decide) (hg _ q_6_19) (fun _ h9 => h9) rfl dX10_highBy_88 ?_
            refine lv_sipush (v := 10000) hx hb dX10_highBy_91 (by decide) ?_
            refine lv_iload hx hb dX10_highBy_94 (lv_at hl 1 rfl) ?_
            refine lv_iconst (v := 1) hx hb dX10_highBy_96 (by decide) ?_
            refine lv_iadd hx hb dX10_highBy_97 ?_
            refine lv_topi (fun x_47 ex_47 => ?_)
            have bx_47 : iv 1 8 x_47 := by rw [ex_47]; exact iv_add bu_31 (iv_c (1 : Int32) (a := 1) (b := 1) (by decide)) (by decide)
            refine lv_imul hx hb dX10_highBy_98 ?_
            refine lv_topi (fun x_48 ex_48 => ?_)
            have bx_48 : iv 10000 80000 x_48 := by rw [ex_48]; exact iv_cmul (iv_c (10000 : Int32) (a := 10000) (b := 10000) (by decide)) bx_47 (by decide)
            refine lv_aload_n hx hb dX10_highBy_99 rfl (lv_at hl 4 rfl) ?_
            refine va_get (ci := 10) (v := .ref (z 25)) (C := RX10) (T := TX10) (N := 40) hx hb hg inX10 hown hK hP 10 rfl rfl 25 (by decide) (hg _ q_6_9) (fun _ h9 => h9) rfl dX10_highBy_100 ?_
            refine lv_iconst (v := 4) hx hb dX10_highBy_103 (by decide) ?_
            refine lv_iload hx hb dX10_highBy_104 (lv_at hl 2 rfl) ?_
            refine lv_imul hx hb dX10_highBy_106 ?_
            refine tpi (y := x_36) ex_36.symm ?_
            refine lv_iload hx hb dX10_highBy_107 (lv_at hl 0 rfl) ?_
            refine lv_iadd hx hb dX10_highBy_109 ?_
            refine tpi (y := x_37) ex_37.symm ?_
            refine va_iald hx hb hK hP 4 0 rfl rfl (iv_in bx_37 (by decide)) dX10_highBy_110 ?_
            refine tpi (y := x_38) ex_38.symm ?_
            refine lv_iadd hx hb dX10_highBy_111 ?_
            refine lv_topi (fun x_49 ex_49 => ?_)
            have bx_49 : iv 10000 89999 x_49 := by rw [ex_49]; exact iv_add bx_48 b_46 (by decide)
            refine va_lald hx hb hK hP 6 2 rfl rfl (iv_in bx_49 (by decide)) dX10_highBy_112 ?_
            refine lv_topl (fun j_50 ej_50 => ?_)
            refine lv_lconst (v := 0) hx hb dX10_highBy_113 (by decide) ?_
            refine W.lcmp hx hb dX10_highBy_114 ?_
            refine lv_if_ne (tgt := 124) hx hb dX10_highBy_115 (by decide) (fun c_51 => ?_) (fun c_51 => ?_)
            · replace c_51 : ¬ j_50 = (0 : Int64) := fun z => c_51 ((lg_cmp_eq _ _).mpr z)
              refine lv_iload hx hb dX10_highBy_124 (lv_at hl 1 rfl) ?_
              refine lv_iload_n hx hb dX10_highBy_126 rfl (lv_at hl 7 rfl) ?_
              refine lv_icmp_ne (tgt := 133) hx hb dX10_highBy_127 (by decide) (fun c_52 => ?_) (fun c_52 => ?_)
              · have b_53 : iv 0 6 u_31 := by have q9 := inn_33_2; have q8 := ne_toInt c_52; have q7 := b_29; have q6 := bu_31; unfold iv at *; omega
                refine lv_aload_n hx hb dX10_highBy_133 rfl (lv_at hl 4 rfl) ?_
                refine va_get (ci := 10) (v := .ref (z 25)) (C := RX10) (T := TX10) (N := 40) hx hb hg inX10 hown hK hP 10 rfl rfl 25 (by decide) (hg _ q_6_9) (fun _ h9 => h9) rfl dX10_highBy_134 ?_
                refine lv_iconst (v := 4) hx hb dX10_highBy_137 (by decide) ?_
                refine lv_iload hx hb dX10_highBy_138 (lv_at hl 2 rfl) ?_
                refine lv_imul hx hb dX10_highBy_140 ?_
                refine tpi (y := x_36) ex_36.symm ?_
                refine lv_iload hx hb dX10_highBy_141 (lv_at hl 0 rfl) ?_
                refine lv_iadd hx hb dX10_highBy_143 ?_
                refine tpi (y := x_37) ex_37.symm ?_
                refine va_iald hx hb hK hP 4 0 rfl rfl (iv_in bx_37 (by decide)) dX10_highBy_144 ?_
                refine tpi (y := x_38) ex_38.symm ?_
                refine lv_istore (lv' := [(5, .int x_38), (7, .int u_34), (6, .int u_31), (4, .int r_1), (0, .ref (z 0)), (1, .int a1), (2, .int a2), (3, .int a3)]) hx hb dX10_highBy_145 hl (by decide) rfl (fun ls hl => ?_)
                obtain ⟨x_54, ex_54⟩ : ∃ z9 : Int32, z9 = u_31 + 1 := ⟨_, rfl⟩
                have bx_54 : iv 1 7 x_54 := by rw [ex_54]; exact iv_add b_53 (iv_c (1 : Int32) (a := 1) (b := 1) (by decide)) (by decide)
                refine lv_iinc (v := x_54) (lv' := [(6, .int x_54), (5, .int x_38), (7, .int u_34), (4, .int r_1), (0, .ref (z 0)), (1, .int a1), (2, .int a2), (3, .int a3)]) hx hb dX10_highBy_147 hl (k := 2) rfl (by rw [ex_54]; rfl) (by decide) rfl (fun ls hl => ?_)
                refine lv_goto (tgt := 61) hx hb dX10_highBy_150 (by decide) ?_
                have hP := subP (ws' := [(z 37, aI V 4 fz37), (z 15, aI V 900 f_12), (z 16, aI V 6 f_13), (z 24, aI V 10000 f_14), (z 25, aI V 40000 f_15), (z 28, aZ V 10000 f_16), (z 35, aJ V 90000 f_17), (z 38, aI V 4 fz38), (z 39, aJ V 160 fz39), (z 0, .inr (10, mo z 0 pz0_5 pz0_6 pz0_7 pz0_8 pz0_9 pz0_10 pz0_11 pz0_12 pz0_13 pz0_14 pz0_18 pz0_19 pz0_22 pz0_23 v_18)), (z 1, aI V 3075 fz1)]) hP [0, 1, 2, 3, 4, 5, 6, 7, 9, 10, 8] rfl
                have hD := hD.sub (ws' := [(z 37, aI V 4 fz37), (z 15, aI V 900 f_12), (z 16, aI V 6 f_13), (z 24, aI V 10000 f_14), (z 25, aI V 40000 f_15), (z 28, aZ V 10000 f_16), (z 35, aJ V 90000 f_17), (z 38, aI V 4 fz38), (z 39, aJ V 160 fz39), (z 0, .inr (10, mo z 0 pz0_5 pz0_6 pz0_7 pz0_8 pz0_9 pz0_10 pz0_11 pz0_12 pz0_13 pz0_14 pz0_18 pz0_19 pz0_22 pz0_23 v_18)), (z 1, aI V 3075 fz1)]) [0, 1, 2, 3, 4, 5, 6, 7, 9, 10, 8] rfl rfl
                exact ihn_33 _ _ _ _ (by rw [en_33, ex_54]; exact mu_up b_53 (by decide)) ⟨x_54, x_38, (iv_w bx_54 (by decide)), b_46, (hb_to g_20 inn_33_0 bu_32 bu_34 (by decide) ex_36 ex_37 ex_38 (by have q9 := b_46; unfold iv at q9; omega)), (by rw [show (x_54).toNatClampNeg = (u_31).toNatClampNeg + 1 from (by have q8 := (inc_toInt ex_54 b_53 (by decide)); have q7 := clampNat (x := u_31) (by have q9 := b_53; unfold iv at q9; omega); have q6 := clampNat (x := x_54) (by have q9 := bx_54; unfold iv at q9; omega); omega), ← CDix (iv_w b_53 (by decide)) b_46 ex_47 ex_48 ex_49 ej_50]; exact c_51), (by have q9 := inn_33_2; have q8 := (inc_toInt ex_54 b_53 (by decide)); have q7 := ne_toInt c_52; omega), inn_35_1, rfl, hP, hD, hS, lv_sub hl [0, 1, 3, 4, 5, 6, 7] rfl⟩
              · refine lv_iload hx hb dX10_highBy_130 (lv_at hl 0 rfl) ?_
                have hP := subP (ws' := [(z 0, .inr (10, mo z 0 pz0_5 pz0_6 pz0_7 pz0_8 pz0_9 pz0_10 pz0_11 pz0_12 pz0_13 pz0_14 pz0_18 pz0_19 pz0_22 pz0_23 v_18)), (z 1, aI V 3075 fz1), (z 15, aI V 900 f_12), (z 16, aI V 6 f_13), (z 24, aI V 10000 f_14), (z 25, aI V 40000 f_15), (z 28, aZ V 10000 f_16), (z 35, aJ V 90000 f_17), (z 37, aI V 4 fz37), (z 38, aI V 4 fz38), (z 39, aJ V 160 fz39)]) hP [10, 8, 1, 2, 3, 4, 5, 6, 0, 7, 9] rfl
                have hD := hD.sub (ws' := [(z 0, .inr (10, mo z 0 pz0_5 pz0_6 pz0_7 pz0_8 pz0_9 pz0_10 pz0_11 pz0_12 pz0_13 pz0_14 pz0_18 pz0_19 pz0_22 pz0_23 v_18)), (z 1, aI V 3075 fz1), (z 15, aI V 900 f_12), (z 16, aI V 6 f_13), (z 24, aI V 10000 f_14), (z 25, aI V 40000 f_15), (z 28, aZ V 10000 f_16), (z 35, aJ V 90000 f_17), (z 37, aI V 4 fz37), (z 38, aI V 4 fz38), (z 39, aJ V 160 fz39)]) [10, 8, 1, 2, 3, 4, 5, 6, 0, 7, 9] rfl rfl
                exact fiI hx hb hr hlk hK hP hD hS dX10_highBy_132 (Nat.le_of_ble_eq_true rfl) (Nat.le_of_ble_eq_true rfl) (⟨0, v_18, f_12, f_13, f_14, f_15, f_16, f_17, bv_18, tf_13, tf_14, tf_15, (iv_w bu_34 (by decide)), inn_35_1, rfl⟩)
            · replace c_51 : j_50 = (0 : Int64) := (lg_cmp_eq _ _).mp c_51
              have b_55 : ivL 0 0 j_50 := ivL_q c_51 (ivL_c (0 : Int64) (a := 0) (b := 0) (by decide))
              have b_56 : iv 0 2 u_34 := WH_b inn_35_0 bu_34 (by decide) (nCD_b bu_32 bu_34 (by decide) ex_36 ex_37 ex_38 (iv_w bu_31 (by decide)) b_46 ex_47 ex_48 ex_49 ej_50 c_51)
              obtain ⟨x_57, ex_57⟩ : ∃ z9 : Int32, z9 = u_34 + 1 := ⟨_, rfl⟩
              have bx_57 : iv 1 3 x_57 := by rw [ex_57]; exact iv_add b_56 (iv_c (1 : Int32) (a := 1) (b := 1) (by decide)) (by decide)
              refine lv_iinc (v := x_57) (lv' := [(7, .int x_57), (6, .int u_31), (5, .int u_32), (4, .int r_1), (0, .ref (z 0)), (1, .int a1), (2, .int a2), (3, .int a3)]) hx hb dX10_highBy_118 hl (k := 0) rfl (by rw [ex_57]; rfl) (by decide) rfl (fun ls hl => ?_)
              refine lv_goto (tgt := 64) hx hb dX10_highBy_121 (by decide) ?_
              have hP := subP (ws' := [(z 37, aI V 4 fz37), (z 15, aI V 900 f_12), (z 16, aI V 6 f_13), (z 24, aI V 10000 f_14), (z 25, aI V 40000 f_15), (z 28, aZ V 10000 f_16), (z 35, aJ V 90000 f_17), (z 38, aI V 4 fz38), (z 39, aJ V 160 fz39), (z 0, .inr (10, mo z 0 pz0_5 pz0_6 pz0_7 pz0_8 pz0_9 pz0_10 pz0_11 pz0_12 pz0_13 pz0_14 pz0_18 pz0_19 pz0_22 pz0_23 v_18)), (z 1, aI V 3075 fz1)]) hP [0, 1, 2, 3, 4, 5, 6, 7, 9, 10, 8] rfl
              have hD := hD.sub (ws' := [(z 37, aI V 4 fz37), (z 15, aI V 900 f_12), (z 16, aI V 6 f_13), (z 24, aI V 10000 f_14), (z 25, aI V 40000 f_15), (z 28, aZ V 10000 f_16), (z 35, aJ V 90000 f_17), (z 38, aI V 4 fz38), (z 39, aJ V 160 fz39), (z 0, .inr (10, mo z 0 pz0_5 pz0_6 pz0_7 pz0_8 pz0_9 pz0_10 pz0_11 pz0_12 pz0_13 pz0_14 pz0_18 pz0_19 pz0_22 pz0_23 v_18)), (z 1, aI V 3075 fz1)]) [0, 1, 2, 3, 4, 5, 6, 7, 9, 10, 8] rfl rfl
              exact ihn_35 _ _ _ _ (by rw [en_35, ex_57]; exact mu_up b_56 (by decide)) ⟨x_57, (iv_w bx_57 (by decide)), (WH_s inn_35_0 b_56 (by decide) ex_57 (nCD_b bu_32 b_56 (by decide) ex_36 ex_37 ex_38 (iv_w bu_31 (by decide)) b_46 ex_47 ex_48 ex_49 ej_50 c_51)), inn_35_1, rfl, hP, hD, hS, lv_sub hl [0, 1, 2, 3, 4, 5, 6, 7] rfl⟩
        · have b_58 : iv 1 2147483647 a3 := iv_e2 (Int32.not_lt.mp c_28) b_27 b_10 (by decide)
          refine lv_iconst (v := (-1)) hx hb dX10_highBy_50 (by decide) ?_
          have hP := subP (ws' := [(z 0, .inr (10, mo z 0 pz0_5 pz0_6 pz0_7 pz0_8 pz0_9 pz0_10 pz0_11 pz0_12 pz0_13 pz0_14 pz0_18 pz0_19 pz0_22 pz0_23 v_18)), (z 1, aI V 3075 fz1), (z 15, aI V 900 f_12), (z 16, aI V 6 f_13), (z 24, aI V 10000 f_14), (z 25, aI V 40000 f_15), (z 28, aZ V 10000 f_16), (z 35, aJ V 90000 f_17), (z 37, aI V 4 fz37), (z 38, aI V 4 fz38), (z 39, aJ V 160 fz39)]) hP [7, 8, 1, 2, 3, 4, 5, 6, 0, 9, 10] rfl
          have hD := hD.sub (ws' := [(z 0, .inr (10, mo z 0 pz0_5 pz0_6 pz0_7 pz0_8 pz0_9 pz0_10 pz0_11 pz0_12 pz0_13 pz0_14 pz0_18 pz0_19 pz0_22 pz0_23 v_18)), (z 1, aI V 3075 fz1), (z 15, aI V 900 f_12), (z 16, aI V 6 f_13), (z 24, aI V 10000 f_14), (z 25, aI V 40000 f_15), (z 28, aZ V 10000 f_16), (z 35, aJ V 90000 f_17), (z 37, aI V 4 fz37), (z 38, aI V 4 fz38), (z 39, aJ V 160 fz39)]) [7, 8, 1, 2, 3, 4, 5, 6, 0, 9, 10] rfl rfl
          exact fiI hx hb hr hlk hK hP hD hS dX10_highBy_51 (Nat.le_of_ble_eq_true rfl) (Nat.le_of_ble_eq_true rfl) (⟨0, v_18, f_12, f_13, f_14, f_15, f_16, f_17, bv_18, tf_13, tf_14, tf_15, (iv_c ((-1) : Int32) (by decide)), g_19, rfl⟩)
    · have b_59 : iv (-2147483648) (-1) a3 := iv_l1 (Int32.not_le.mp c_9) (iv_top a3) (iv_c (0 : Int32) (a := 0) (b := 0) (by decide)) (by decide)
      refine lv_bipush (v := (-3)) hx hb dX10_highBy_26 (by decide) ?_
      have hP := subP (ws' := [(z 0, .inr (10, mo z 0 pz0_5 pz0_6 pz0_7 pz0_8 pz0_9 pz0_10 pz0_11 pz0_12 pz0_13 pz0_14 pz0_18 pz0_19 pz0_22 pz0_23 pz0_29)), (z 1, aI V 3075 fz1), (z 15, aI V 900 fz15), (z 16, aI V 6 fz16), (z 24, aI V 10000 fz24), (z 25, aI V 40000 fz25), (z 28, aZ V 10000 fz28), (z 35, aJ V 90000 fz35), (z 37, aI V 4 fz37), (z 38, aI V 4 fz38), (z 39, aJ V 160 fz39)]) hP [6, 7, 0, 1, 2, 3, 4, 5, 8, 9, 10] rfl
      have hD := hD.sub (ws' := [(z 0, .inr (10, mo z 0 pz0_5 pz0_6 pz0_7 pz0_8 pz0_9 pz0_10 pz0_11 pz0_12 pz0_13 pz0_14 pz0_18 pz0_19 pz0_22 pz0_23 pz0_29)), (z 1, aI V 3075 fz1), (z 15, aI V 900 fz15), (z 16, aI V 6 fz16), (z 24, aI V 10000 fz24), (z 25, aI V 40000 fz25), (z 28, aZ V 10000 fz28), (z 35, aJ V 90000 fz35), (z 37, aI V 4 fz37), (z 38, aI V 4 fz38), (z 39, aJ V 160 fz39)]) [6, 7, 0, 1, 2, 3, 4, 5, 8, 9, 10] rfl rfl
      exact fiI hx hb hr hlk hK hP hD hS dX10_highBy_28 (Nat.le_of_ble_eq_true rfl) (Nat.le_of_ble_eq_true rfl) (⟨0, pz0_29, fz15, fz16, fz24, fz25, fz28, fz35, bpz0_29, tfz16, tfz24, tfz25, (iv_c ((-3) : Int32) (by decide)), hf0, rfl⟩)
  · have b_60 : iv (-6) (-1) r_1 := iv_n1 c_5 br_1 (iv_c (0 : Int32) (a := 0) (b := 0) (by decide)) (by decide)
    refine lv_iload hx hb dX10_highBy_19 (lv_at hl 0 rfl) ?_
    have hP := subP (ws' := [(z 0, .inr (10, mo z 0 pz0_5 pz0_6 pz0_7 pz0_8 pz0_9 pz0_10 pz0_11 pz0_12 pz0_13 pz0_14 pz0_18 pz0_19 pz0_22 pz0_23 pz0_29)), (z 1, aI V 3075 fz1), (z 15, aI V 900 fz15), (z 16, aI V 6 fz16), (z 24, aI V 10000 fz24), (z 25, aI V 40000 fz25), (z 28, aZ V 10000 fz28), (z 35, aJ V 90000 fz35), (z 37, aI V 4 fz37), (z 38, aI V 4 fz38), (z 39, aJ V 160 fz39)]) hP [6, 7, 0, 1, 2, 3, 4, 5, 8, 9, 10] rfl
    have hD := hD.sub (ws' := [(z 0, .inr (10, mo z 0 pz0_5 pz0_6 pz0_7 pz0_8 pz0_9 pz0_10 pz0_11 pz0_12 pz0_13 pz0_14 pz0_18 pz0_19 pz0_22 pz0_23 pz0_29)), (z 1, aI V 3075 fz1), (z 15, aI V 900 fz15), (z 16, aI V 6 fz16), (z 24, aI V 10000 fz24), (z 25, aI V 40000 fz25), (z 28, aZ V 10000 fz28), (z 35, aJ V 90000 fz35), (z 37, aI V 4 fz37), (z 38, aI V 4 fz38), (z 39, aJ V 160 fz39)]) [6, 7, 0, 1, 2, 3, 4, 5, 8, 9, 10] rfl rfl
    exact fiI hx hb hr hlk hK hP hD hS dX10_highBy_21 (Nat.le_of_ble_eq_true rfl) (Nat.le_of_ble_eq_true rfl) (⟨0, pz0_29, fz15, fz16, fz24, fz25, fz28, fz35, bpz0_29, tfz16, tfz24, tfz25, (iv_w b_60 (by decide)), hf0, rfl⟩)
theorem dX10_fogs_0 : decode cX10_fogs 0 = .ok (.aload_n 0, 1) := by decide +kernel
theorem dX10_fogs_1 : decode cX10_fogs 1 = .ok (.iconst 0, 1) := by decide +kernel
theorem dX10_fogs_2 : decode cX10_fogs 2 = .ok (.putfield 1, 3) := by decide +kernel
theorem dX10_fogs_5 : decode cX10_fogs 5 = .ok (.aload_n 0, 1) := by decide +kernel
theorem dX10_fogs_6 : decode cX10_fogs 6 = .ok (.iload_n 1, 1) := by decide +kernel
theorem dX10_fogs_7 : decode cX10_fogs 7 = .ok (.iload_n 2, 1) := by decide +kernel
theorem dX10_fogs_8 : decode cX10_fogs 8 = .ok (.iconst (-1), 1) := by decide +kernel
theorem dX10_fogs_9 : decode cX10_fogs 9 = .ok (.invokevirtual 425, 3) := by decide +kernel
theorem dX10_fogs_12 : decode cX10_fogs 12 = .ok (.istore 4, 2) := by decide +kernel
theorem dX10_fogs_14 : decode cX10_fogs 14 = .ok (.iload 4, 2) := by decide +kernel
theorem dX10_fogs_16 : decode cX10_fogs 16 = .ok (.ifCond .eq 6, 3) := by decide +kernel
theorem dX10_fogs_22 : decode cX10_fogs 22 = .ok (.iload_n 3, 1) := by decide +kernel
theorem dX10_fogs_23 : decode cX10_fogs 23 = .ok (.ifCond .ge 6, 3) := by decide +kernel
theorem dX10_fogs_29 : decode cX10_fogs 29 = .ok (.iload_n 3, 1) := by decide +kernel
theorem dX10_fogs_30 : decode cX10_fogs 30 = .ok (.aload_n 0, 1) := by decide +kernel
theorem dX10_fogs_31 : decode cX10_fogs 31 = .ok (.getfield 87, 3) := by decide +kernel
theorem dX10_fogs_34 : decode cX10_fogs 34 = .ok (.iload_n 1, 1) := by decide +kernel
theorem dX10_fogs_35 : decode cX10_fogs 35 = .ok (.iaload, 1) := by decide +kernel
theorem dX10_fogs_36 : decode cX10_fogs 36 = .ok (.if_icmp .lt 6, 3) := by decide +kernel
theorem dX10_fogs_42 : decode cX10_fogs 42 = .ok (.iconst 0, 1) := by decide +kernel
theorem dX10_fogs_43 : decode cX10_fogs 43 = .ok (.istore 5, 2) := by decide +kernel
theorem dX10_fogs_45 : decode cX10_fogs 45 = .ok (.aload_n 0, 1) := by decide +kernel
theorem dX10_fogs_46 : decode cX10_fogs 46 = .ok (.iload_n 1, 1) := by decide +kernel
theorem dX10_fogs_47 : decode cX10_fogs 47 = .ok (.iload_n 2, 1) := by decide +kernel
theorem dX10_fogs_48 : decode cX10_fogs 48 = .ok (.invokevirtual 428, 3) := by decide +kernel
theorem dX10_fogs_51 : decode cX10_fogs 51 = .ok (.lconst 0, 1) := by decide +kernel
theorem dX10_fogs_52 : decode cX10_fogs 52 = .ok (.lcmp, 1) := by decide +kernel
theorem dX10_fogs_53 : decode cX10_fogs 53 = .ok (.ifCond .ne 6, 3) := by decide +kernel
theorem dX10_fogs_59 : decode cX10_fogs 59 = .ok (.aload_n 0, 1) := by decide +kernel
theorem dX10_fogs_60 : decode cX10_fogs 60 = .ok (.invokevirtual 389, 3) := by decide +kernel
theorem dX10_fogs_63 : decode cX10_fogs 63 = .ok (.iconst 0, 1) := by decide +kernel
theorem dX10_fogs_64 : decode cX10_fogs 64 = .ok (.istore 6, 2) := by decide +kernel
theorem dX10_fogs_66 : decode cX10_fogs 66 = .ok (.iload 6, 2) := by decide +kernel
theorem dX10_fogs_68 : decode cX10_fogs 68 = .ok (.iload_n 3, 1) := by decide +kernel
theorem dX10_fogs_69 : decode cX10_fogs 69 = .ok (.if_icmp .gt 139, 3) := by decide +kernel
theorem dX10_fogs_208 : decode cX10_fogs 208 = .ok (.iload 5, 2) := by decide +kernel
theorem dX10_fogs_210 : decode cX10_fogs 210 = .ok (.ireturn, 1) := by decide +kernel
theorem dX10_fogs_72 : decode cX10_fogs 72 = .ok (.iconst 0, 1) := by decide +kernel
theorem dX10_fogs_73 : decode cX10_fogs 73 = .ok (.istore 5, 2) := by decide +kernel
theorem dX10_fogs_75 : decode cX10_fogs 75 = .ok (.iconst 0, 1) := by decide +kernel
theorem dX10_fogs_76 : decode cX10_fogs 76 = .ok (.istore 7, 2) := by decide +kernel
theorem dX10_fogs_78 : decode cX10_fogs 78 = .ok (.iload 7, 2) := by decide +kernel
theorem dX10_fogs_80 : decode cX10_fogs 80 = .ok (.aload_n 0, 1) := by decide +kernel
theorem dX10_fogs_81 : decode cX10_fogs 81 = .ok (.getfield 355, 3) := by decide +kernel
theorem dX10_fogs_84 : decode cX10_fogs 84 = .ok (.if_icmp .ge 114, 3) := by decide +kernel
theorem dX10_fogs_198 : decode cX10_fogs 198 = .ok (.aload_n 0, 1) := by decide +kernel
theorem dX10_fogs_199 : decode cX10_fogs 199 = .ok (.invokevirtual 382, 3) := by decide +kernel
theorem dX10_fogs_202 : decode cX10_fogs 202 = .ok (.iinc 6 1, 3) := by decide +kernel
theorem dX10_fogs_205 : decode cX10_fogs 205 = .ok (.goto (-139), 3) := by decide +kernel
theorem dX10_fogs_87 : decode cX10_fogs 87 = .ok (.iconst 0, 1) := by decide +kernel
theorem dX10_fogs_88 : decode cX10_fogs 88 = .ok (.istore 8, 2) := by decide +kernel
theorem dX10_fogs_90 : decode cX10_fogs 90 = .ok (.iload 8, 2) := by decide +kernel
theorem dX10_fogs_92 : decode cX10_fogs 92 = .ok (.iconst 4, 1) := by decide +kernel
theorem dX10_fogs_93 : decode cX10_fogs 93 = .ok (.if_icmp .ge 99, 3) := by decide +kernel
theorem dX10_fogs_192 : decode cX10_fogs 192 = .ok (.iinc 7 1, 3) := by decide +kernel
theorem dX10_fogs_195 : decode cX10_fogs 195 = .ok (.goto (-117), 3) := by decide +kernel
theorem dX10_fogs_96 : decode cX10_fogs 96 = .ok (.aload_n 0, 1) := by decide +kernel
theorem dX10_fogs_97 : decode cX10_fogs 97 = .ok (.getfield 61, 3) := by decide +kernel
theorem dX10_fogs_100 : decode cX10_fogs 100 = .ok (.aload_n 0, 1) := by decide +kernel
theorem dX10_fogs_101 : decode cX10_fogs 101 = .ok (.getfield 45, 3) := by decide +kernel
theorem dX10_fogs_104 : decode cX10_fogs 104 = .ok (.iload 7, 2) := by decide +kernel
theorem dX10_fogs_106 : decode cX10_fogs 106 = .ok (.iaload, 1) := by decide +kernel
theorem dX10_fogs_107 : decode cX10_fogs 107 = .ok (.laload, 1) := by decide +kernel
theorem dX10_fogs_108 : decode cX10_fogs 108 = .ok (.lconst 0, 1) := by decide +kernel
theorem dX10_fogs_109 : decode cX10_fogs 109 = .ok (.lcmp, 1) := by decide +kernel
theorem dX10_fogs_110 : decode cX10_fogs 110 = .ok (.ifCond .le 82, 3) := by decide +kernel
theorem dX10_fogs_113 : decode cX10_fogs 113 = .ok (.aload_n 0, 1) := by decide +kernel
theorem dX10_fogs_114 : decode cX10_fogs 114 = .ok (.getfield 49, 3) := by decide +kernel
theorem dX10_fogs_117 : decode cX10_fogs 117 = .ok (.iconst 4, 1) := by decide +kernel
theorem dX10_fogs_118 : decode cX10_fogs 118 = .ok (.aload_n 0, 1) := by decide +kernel
theorem dX10_fogs_119 : decode cX10_fogs 119 = .ok (.getfield 45, 3) := by decide +kernel
theorem dX10_fogs_122 : decode cX10_fogs 122 = .ok (.iload 7, 2) := by decide +kernel
theorem dX10_fogs_124 : decode cX10_fogs 124 = .ok (.iaload, 1) := by decide +kernel
theorem dX10_fogs_125 : decode cX10_fogs 125 = .ok (.imul, 1) := by decide +kernel
theorem dX10_fogs_126 : decode cX10_fogs 126 = .ok (.iload 8, 2) := by decide +kernel
theorem dX10_fogs_128 : decode cX10_fogs 128 = .ok (.iadd, 1) := by decide +kernel
theorem dX10_fogs_129 : decode cX10_fogs 129 = .ok (.iaload, 1) := by decide +kernel
theorem dX10_fogs_130 : decode cX10_fogs 130 = .ok (.istore 9, 2) := by decide +kernel
theorem dX10_fogs_132 : decode cX10_fogs 132 = .ok (.aload_n 0, 1) := by decide +kernel
theorem dX10_fogs_133 : decode cX10_fogs 133 = .ok (.iload_n 1, 1) := by decide +kernel
theorem dX10_fogs_134 : decode cX10_fogs 134 = .ok (.iload_n 2, 1) := by decide +kernel
theorem dX10_fogs_135 : decode cX10_fogs 135 = .ok (.iload 6, 2) := by decide +kernel
theorem dX10_fogs_137 : decode cX10_fogs 137 = .ok (.iload 9, 2) := by decide +kernel
theorem dX10_fogs_139 : decode cX10_fogs 139 = .ok (.invokevirtual 421, 3) := by decide +kernel
theorem dX10_fogs_142 : decode cX10_fogs 142 = .ok (.ifCond .eq 44, 3) := by decide +kernel
theorem dX10_fogs_186 : decode cX10_fogs 186 = .ok (.iinc 8 1, 3) := by decide +kernel
theorem dX10_fogs_189 : decode cX10_fogs 189 = .ok (.goto (-99), 3) := by decide +kernel
theorem dX10_fogs_145 : decode cX10_fogs 145 = .ok (.aload_n 0, 1) := by decide +kernel
theorem dX10_fogs_146 : decode cX10_fogs 146 = .ok (.getfield 78, 3) := by decide +kernel
theorem dX10_fogs_149 : decode cX10_fogs 149 = .ok (.sipush 10000, 3) := by decide +kernel
theorem dX10_fogs_152 : decode cX10_fogs 152 = .ok (.iload 6, 2) := by decide +kernel
theorem dX10_fogs_154 : decode cX10_fogs 154 = .ok (.iconst 1, 1) := by decide +kernel
theorem dX10_fogs_155 : decode cX10_fogs 155 = .ok (.iadd, 1) := by decide +kernel
theorem dX10_fogs_156 : decode cX10_fogs 156 = .ok (.imul, 1) := by decide +kernel
theorem dX10_fogs_157 : decode cX10_fogs 157 = .ok (.iload 9, 2) := by decide +kernel
theorem dX10_fogs_159 : decode cX10_fogs 159 = .ok (.iadd, 1) := by decide +kernel
theorem dX10_fogs_160 : decode cX10_fogs 160 = .ok (.laload, 1) := by decide +kernel
theorem dX10_fogs_161 : decode cX10_fogs 161 = .ok (.lconst 0, 1) := by decide +kernel
theorem dX10_fogs_162 : decode cX10_fogs 162 = .ok (.lcmp, 1) := by decide +kernel
theorem dX10_fogs_163 : decode cX10_fogs 163 = .ok (.ifCond .ne 6, 3) := by decide +kernel
theorem dX10_fogs_169 : decode cX10_fogs 169 = .ok (.aload_n 0, 1) := by decide +kernel
theorem dX10_fogs_170 : decode cX10_fogs 170 = .ok (.getfield 65, 3) := by decide +kernel
theorem dX10_fogs_173 : decode cX10_fogs 173 = .ok (.iload 9, 2) := by decide +kernel
theorem dX10_fogs_175 : decode cX10_fogs 175 = .ok (.lconst 1, 1) := by decide +kernel
theorem dX10_fogs_176 : decode cX10_fogs 176 = .ok (.lastore, 1) := by decide +kernel
theorem dX10_fogs_177 : decode cX10_fogs 177 = .ok (.iload 5, 2) := by decide +kernel
theorem dX10_fogs_179 : decode cX10_fogs 179 = .ok (.iconst 1, 1) := by decide +kernel
theorem dX10_fogs_180 : decode cX10_fogs 180 = .ok (.iload 8, 2) := by decide +kernel
theorem dX10_fogs_182 : decode cX10_fogs 182 = .ok (.ishl, 1) := by decide +kernel
theorem dX10_fogs_183 : decode cX10_fogs 183 = .ok (.ior, 1) := by decide +kernel
theorem dX10_fogs_184 : decode cX10_fogs 184 = .ok (.istore 5, 2) := by decide +kernel
theorem dX10_fogs_166 : decode cX10_fogs 166 = .ok (.goto 20, 3) := by decide +kernel
theorem dX10_fogs_56 : decode cX10_fogs 56 = .ok (.iload 5, 2) := by decide +kernel
theorem dX10_fogs_58 : decode cX10_fogs 58 = .ok (.ireturn, 1) := by decide +kernel
theorem dX10_fogs_39 : decode cX10_fogs 39 = .ok (.bipush (-7), 2) := by decide +kernel
theorem dX10_fogs_41 : decode cX10_fogs 41 = .ok (.ireturn, 1) := by decide +kernel
theorem dX10_fogs_26 : decode cX10_fogs 26 = .ok (.bipush (-3), 2) := by decide +kernel
theorem dX10_fogs_28 : decode cX10_fogs 28 = .ok (.ireturn, 1) := by decide +kernel
theorem dX10_fogs_19 : decode cX10_fogs 19 = .ok (.iload 4, 2) := by decide +kernel
theorem dX10_fogs_21 : decode cX10_fogs 21 = .ok (.ireturn, 1) := by decide +kernel
set_option maxHeartbeats 4000000 in
set_option maxRecDepth 100000 in
theorem k_X10_fogs_0 (l : Launch) (V : GV) (z : Nat → Nat) (a1 : Int32) (a2 : Int32) (a3 : Int32) (pz0_0 : Int32) (pz0_5 : Int32) (pz0_6 : Int32) (pz0_7 : Int32) (pz0_8 : Int32) (pz0_9 : Int32) (pz0_10 : Int32) (pz0_11 : Int32) (pz0_12 : Int32) (pz0_13 : Int32) (pz0_14 : Int32) (pz0_18 : Int32) (pz0_19 : Int32) (pz0_22 : Int32) (pz0_23 : Int32) (pz0_29 : Int32) (fz1 : Nat → Int32) (fz15 : Nat → Int32) (fz16 : Nat → Int32) (fz24 : Nat → Int32) (fz25 : Nat → Int32) (fz28 : Nat → Int32) (fz30 : Nat → Int64) (fz31 : Nat → Int64) (fz35 : Nat → Int64) (fz37 : Nat → Int32) (fz38 : Nat → Int32) (fz39 : Nat → Int64) (bpz0_5 : iv 0 900 pz0_5) (bpz0_6 : iv 0 900 pz0_6) (bpz0_7 : iv 0 900 pz0_7) (bpz0_8 : iv 0 900 pz0_8) (bpz0_10 : iv 0 999 pz0_10) (bpz0_11 : iv 0 4 pz0_11) (bpz0_12 : iv 0 900 pz0_12) (bpz0_13 : iv 0 4 pz0_13) (bpz0_14 : iv (-1) 900 pz0_14) (bpz0_18 : iv 0 2 pz0_18) (bpz0_22 : iv 0 9999 pz0_22) (bpz0_29 : iv 0 10000 pz0_29) (tfz1 : ivT tA fz1) (tfz16 : ivT tW fz16) (tfz24 : ∀ j, iv 0 9999 (fz24 j)) (tfz25 : ∀ j, iv (-1) 9999 (fz25 j)) (tfz37 : ∀ j, iv (-1) 3 (fz37 j)) (tfz38 : ∀ j, iv 0 40 (fz38 j)) (hf0 : RW fz1) : Ct l V yX10_fogs (.code yX10_fogs cX10_fogs 10 (some .int)) 7 [.ref (z 0), .int a1, .int a2, .int a3] [(z 0, .inr (10, mo z pz0_0 pz0_5 pz0_6 pz0_7 pz0_8 pz0_9 pz0_10 pz0_11 pz0_12 pz0_13 pz0_14 pz0_18 pz0_19 pz0_22 pz0_23 pz0_29)), (z 1, aI V 3075 fz1), (z 15, aI V 900 fz15), (z 16, aI V 6 fz16), (z 24, aI V 10000 fz24), (z 25, aI V 40000 fz25), (z 28, aZ V 10000 fz28), (z 30, aJ V 10000 fz30), (z 31, aJ V 10000 fz31), (z 35, aJ V 90000 fz35), (z 37, aI V 4 fz37), (z 38, aI V 4 fz38), (z 39, aJ V 160 fz39)] 0 0 (QI V (fun (r : Int32) (w : va_W) => ∃ (v0 : Int32) (v1 : Int32) (g2 : Nat → Int32) (g3 : Nat → Int32) (g4 : Nat → Int32) (g5 : Nat → Int32) (g6 : Nat → Int32) (g7 : Nat → Int64) (g8 : Nat → Int64) (g9 : Nat → Int64), iv 0 10000 v1 ∧ (ivT tW g3) ∧ (∀ j, iv 0 9999 (g4 j)) ∧ (∀ j, iv (-1) 9999 (g5 j)) ∧ (RW fz1) ∧ w = [(z 0, .inr (10, mo z v0 pz0_5 pz0_6 pz0_7 pz0_8 pz0_9 pz0_10 pz0_11 pz0_12 pz0_13 pz0_14 pz0_18 pz0_19 pz0_22 pz0_23 v1)), (z 1, aI V 3075 fz1), (z 15, aI V 900 g2), (z 16, aI V 6 g3), (z 24, aI V 10000 g4), (z 25, aI V 40000 g5), (z 28, aZ V 10000 g6), (z 30, aJ V 10000 g7), (z 31, aJ V 10000 g8), (z 35, aJ V 90000 g9), (z 37, aI V 4 fz37), (z 38, aI V 4 fz38), (z 39, aJ V 160 fz39)])) := by
  refine Ct.of (by decide) (Nat.le_of_ble_eq_true rfl) (fun p e s m below meth c A ls hx hb hr hml hown hlk hnm hg hP hK hD hE hA hS hl => ?_)
  have hl : lv_has ls 10 [(0, .ref (z 0)), (1, .int a1), (2, .int a2), (3, .int a3)] := hl
  refine lv_aload_n hx hb dX10_fogs_0 rfl (lv_at hl 0 rfl) ?_
  refine lv_iconst (v := 0) hx hb dX10_fogs_1 (by decide) ?_
  refine va_put (ci := 10) (v := .int 0) (ty := .int) (C := RX10) (T := TX10) (N := 40) hx hb hg inX10 tyX10 tyX10_ok nmX10 hown hK hP hD hS 0 rfl rfl 0 (by decide) (hg _ q_5_224) (fun _ h9 => h9) rfl (by decide +kernel) rfl rfl (Nat.le_of_ble_eq_true rfl) dX10_fogs_2 (fun H locs hP hD hS => ?_)
  have hP : va_P V.1 vwCl [(z 0, .inr (10, mo z 0 pz0_5 pz0_6 pz0_7 pz0_8 pz0_9 pz0_10 pz0_11 pz0_12 pz0_13 pz0_14 pz0_18 pz0_19 pz0_22 pz0_23 pz0_29)), (z 1, aI V 3075 fz1), (z 15, aI V 900 fz15), (z 16, aI V 6 fz16), (z 24, aI V 10000 fz24), (z 25, aI V 40000 fz25), (z 28, aZ V 10000 fz28), (z 30, aJ V 10000 fz30), (z 31, aJ V 10000 fz31), (z 35, aJ V 90000 fz35), (z 37, aI V 4 fz37), (z 38, aI V 4 fz38), (z 39, aJ V 160 fz39)] H := hP
  have hD : va_D A [(z 0, .inr (10, mo z 0 pz0_5 pz0_6 pz0_7 pz0_8 pz0_9 pz0_10 pz0_11 pz0_12 pz0_13 pz0_14 pz0_18 pz0_19 pz0_22 pz0_23 pz0_29)), (z 1, aI V 3075 fz1), (z 15, aI V 900 fz15), (z 16, aI V 6 fz16), (z 24, aI V 10000 fz24), (z 25, aI V 40000 fz25), (z 28, aZ V 10000 fz28), (z 30, aJ V 10000 fz30), (z 31, aJ V 10000 fz31), (z 35, aJ V 90000 fz35), (z 37, aI V 4 fz37), (z 38, aI V 4 fz38), (z 39, aJ V 160 fz39)] := hD
  refine lv_aload_n hx hb dX10_fogs_5 rfl (lv_at hl 0 rfl) ?_
  refine lv_iload_n hx hb dX10_fogs_6 rfl (lv_at hl 1 rfl) ?_
  refine lv_iload_n hx hb dX10_fogs_7 rfl (lv_at hl 2 rfl) ?_
  refine lv_iconst (v := (-1)) hx hb dX10_fogs_8 (by decide) ?_
  refine jnI (wr := [(z 15, aI V 900 fz15), (z 16, aI V 6 fz16), (z 24, aI V 10000 fz24), (z 25, aI V 40000 fz25), (z 28, aZ V 10000 fz28), (z 30, aJ V 10000 fz30), (z 31, aJ V 10000 fz31), (z 35, aJ V 90000 fz35)]) (rnV (rest := []) ⟨hx, hb, hml, hown, hg⟩ (k_X10_noTold_0 l V z a1 a2 (-1) 0 pz0_5 pz0_6 pz0_7 pz0_8 pz0_9 pz0_10 pz0_11 pz0_12 pz0_13 pz0_14 pz0_18 pz0_19 pz0_22 pz0_23 pz0_29 fz1 fz37 fz38 fz39 bpz0_5 bpz0_6 bpz0_7 bpz0_8 bpz0_10 bpz0_11 bpz0_12 bpz0_13 bpz0_14 bpz0_18 bpz0_22 bpz0_29 tfz1 tfz37 tfz38) mt_X10_noTold q_8_51 ⟨Nat.le_of_ble_eq_true rfl, Nat.le_of_ble_eq_true rfl⟩ hK hP hD hS hA hE [0, 1, 10, 11, 12] rfl rfl 0 rfl rfl rfl rfl hl.1 rfl (Nat.le_of_ble_eq_true rfl) dX10_fogs_9 ⟨Nat.le_of_ble_eq_true rfl, Nat.le_of_ble_eq_true rfl⟩) hP hD hS hA [0, 1, 10, 11, 12] [2, 3, 4, 5, 6, 7, 8, 9] rfl rfl rfl (by decide) (fun r_1 w H locs hw hP hD hS => ?_)
  obtain ⟨br_1, g_2, g_3, g_4, rfl⟩ := hw
  have hP : va_P V.1 vwCl [(z 15, aI V 900 fz15), (z 16, aI V 6 fz16), (z 24, aI V 10000 fz24), (z 25, aI V 40000 fz25), (z 28, aZ V 10000 fz28), (z 30, aJ V 10000 fz30), (z 31, aJ V 10000 fz31), (z 35, aJ V 90000 fz35), (z 0, .inr (10, mo z 0 pz0_5 pz0_6 pz0_7 pz0_8 pz0_9 pz0_10 pz0_11 pz0_12 pz0_13 pz0_14 pz0_18 pz0_19 pz0_22 pz0_23 pz0_29)), (z 1, aI V 3075 fz1), (z 37, aI V 4 fz37), (z 38, aI V 4 fz38), (z 39, aJ V 160 fz39)] H := hP
  have hD : va_D A [(z 15, aI V 900 fz15), (z 16, aI V 6 fz16), (z 24, aI V 10000 fz24), (z 25, aI V 40000 fz25), (z 28, aZ V 10000 fz28), (z 30, aJ V 10000 fz30), (z 31, aJ V 10000 fz31), (z 35, aJ V 90000 fz35), (z 0, .inr (10, mo z 0 pz0_5 pz0_6 pz0_7 pz0_8 pz0_9 pz0_10 pz0_11 pz0_12 pz0_13 pz0_14 pz0_18 pz0_19 pz0_22 pz0_23 pz0_29)), (z 1, aI V 3075 fz1), (z 37, aI V 4 fz37), (z 38, aI V 4 fz38), (z 39, aJ V 160 fz39)] := hD
  refine lv_istore (lv' := [(4, .int r_1), (0, .ref (z 0)), (1, .int a1), (2, .int a2), (3, .int a3)]) hx hb dX10_fogs_12 hl (by decide) rfl (fun ls hl => ?_)
  refine lv_iload hx hb dX10_fogs_14 (lv_at hl 0 rfl) ?_
  refine lv_if_eq (tgt := 22) hx hb dX10_fogs_16 (by decide) (fun c_5 => ?_) (fun c_5 => ?_)
  · have b_6 : iv 0 0 r_1 := iv_q c_5 (iv_c (0 : Int32) (a := 0) (b := 0) (by decide))
    have b_7 : iv 0 3 a1 := iv_cap (g_3 (iv_eqp b_6 (iv_c (0 : Int32) (by decide)))) (iv_top a1) (by decide)
    have b_8 : iv 0 3 a2 := iv_cap (g_4 (iv_eqp b_6 (iv_c (0 : Int32) (by decide)))) (iv_top a2) (by decide)
    refine lv_iload_n hx hb dX10_fogs_22 rfl (lv_at hl 4 rfl) ?_
    refine lv_if_ge (tgt := 29) hx hb dX10_fogs_23 (by decide) (fun c_9 => ?_) (fun c_9 => ?_)
    · have b_10 : iv 0 2147483647 a3 := iv_e2 c_9 (iv_c (0 : Int32) (a := 0) (b := 0) (by decide)) (iv_top a3) (by decide)
      refine lv_iload_n hx hb dX10_fogs_29 rfl (lv_at hl 4 rfl) ?_
      refine lv_aload_n hx hb dX10_fogs_30 rfl (lv_at hl 1 rfl) ?_
      refine va_get (ci := 10) (v := .ref (z 38)) (C := RX10) (T := TX10) (N := 40) hx hb hg inX10 hown hK hP 8 rfl rfl 38 (by decide) (hg _ q_6_22) (fun _ h9 => h9) rfl dX10_fogs_31 ?_
      refine lv_iload_n hx hb dX10_fogs_34 rfl (lv_at hl 2 rfl) ?_
      refine va_iald hx hb hK hP 11 0 rfl rfl (iv_in b_7 (by decide)) dX10_fogs_35 ?_
      refine lv_topi (fun x_11 ex_11 => ?_)
      have bx_11 : iv 0 40 x_11 := by rw [ex_11]; exact tfz38 _
      have b_12 : iv 1 8 x_11 := by rw [ex_11]; exact (g_2 (iv_eqp b_6 (iv_c (0 : Int32) (by decide))))
      refine lv_icmp_lt (tgt := 42) hx hb dX10_fogs_36 (by decide) (fun c_13 => ?_) (fun c_13 => ?_)
      · have b_14 : iv 0 7 a3 := iv_l1 c_13 b_10 b_12 (by decide)
        refine lv_iconst (v := 0) hx hb dX10_fogs_42 (by decide) ?_
        refine lv_istore (lv' := [(5, .int 0), (4, .int r_1), (0, .ref (z 0)), (1, .int a1), (2, .int a2), (3, .int a3)]) hx hb dX10_fogs_43 hl (by decide) rfl (fun ls hl => ?_)
        refine lv_aload_n hx hb dX10_fogs_45 rfl (lv_at hl 2 rfl) ?_
        refine lv_iload_n hx hb dX10_fogs_46 rfl (lv_at hl 3 rfl) ?_
        refine lv_iload_n hx hb dX10_fogs_47 rfl (lv_at hl 4 rfl) ?_
        refine jnL (wr := [(z 30, aJ V 10000 fz30), (z 31, aJ V 10000 fz31), (z 37, aI V 4 fz37)]) (rnV (rest := []) ⟨hx, hb, hml, hown, hg⟩ (k_X10_laysHigh_0 l V z a1 a2 fz15 fz16 fz24 fz25 fz28 fz35 0 pz0_5 pz0_6 pz0_7 pz0_8 pz0_9 pz0_10 pz0_11 pz0_12 pz0_13 pz0_14 pz0_18 pz0_19 pz0_22 pz0_23 pz0_29 fz1 fz38 fz39 b_7 b_8 tfz16 tfz24 tfz25 bpz0_5 bpz0_6 bpz0_7 bpz0_8 bpz0_10 bpz0_11 bpz0_12 bpz0_13 bpz0_14 bpz0_18 bpz0_22 bpz0_29 tfz1 tfz38 hf0 (g_2 (iv_eqp b_6 (iv_c (0 : Int32) (by decide))))) mt_X10_laysHigh q_8_56 ⟨Nat.le_of_ble_eq_true rfl, Nat.le_of_ble_eq_true rfl⟩ hK hP hD hS hA hE [0, 1, 2, 3, 4, 7, 8, 9, 11, 12] rfl rfl 8 rfl rfl rfl rfl hl.1 rfl (Nat.le_of_ble_eq_true rfl) dX10_fogs_48 ⟨Nat.le_of_ble_eq_true rfl, Nat.le_of_ble_eq_true rfl⟩) hP hD hS hA [0, 1, 2, 3, 4, 7, 8, 9, 11, 12] [5, 6, 10] rfl rfl rfl (by decide) (fun r_15 w H locs hw hP hD hS => ?_)
        obtain ⟨f_16, f_17, f_18, f_19, f_20, f_21, v_22, tf_17, tf_18, tf_19, bv_22, g_23, g_24, g_25, g_26, g_27, rfl⟩ := hw
        have hP : va_P V.1 vwCl [(z 30, aJ V 10000 fz30), (z 31, aJ V 10000 fz31), (z 37, aI V 4 fz37), (z 15, aI V 900 f_16), (z 16, aI V 6 f_17), (z 24, aI V 10000 f_18), (z 25, aI V 40000 f_19), (z 28, aZ V 10000 f_20), (z 35, aJ V 90000 f_21), (z 0, .inr (10, mo z 0 pz0_5 pz0_6 pz0_7 pz0_8 pz0_9 pz0_10 pz0_11 pz0_12 pz0_13 pz0_14 pz0_18 pz0_19 pz0_22 pz0_23 v_22)), (z 1, aI V 3075 fz1), (z 38, aI V 4 fz38), (z 39, aJ V 160 fz39)] H := hP
        have hD : va_D A [(z 30, aJ V 10000 fz30), (z 31, aJ V 10000 fz31), (z 37, aI V 4 fz37), (z 15, aI V 900 f_16), (z 16, aI V 6 f_17), (z 24, aI V 10000 f_18), (z 25, aI V 40000 f_19), (z 28, aZ V 10000 f_20), (z 35, aJ V 90000 f_21), (z 0, .inr (10, mo z 0 pz0_5 pz0_6 pz0_7 pz0_8 pz0_9 pz0_10 pz0_11 pz0_12 pz0_13 pz0_14 pz0_18 pz0_19 pz0_22 pz0_23 v_22)), (z 1, aI V 3075 fz1), (z 38, aI V 4 fz38), (z 39, aJ V 160 fz39)] := hD
        refine lv_lconst (v := 0) hx hb dX10_fogs_51 (by decide) ?_
        refine W.lcmp hx hb dX10_fogs_52 ?_
        refine lv_if_ne (tgt := 59) hx hb dX10_fogs_53 (by decide) (fun c_28 => ?_) (fun c_28 => ?_)
        · replace c_28 : ¬ r_15 = (0 : Int64) := fun z => c_28 ((lg_cmp_eq _ _).mpr z)
          refine lv_aload_n hx hb dX10_fogs_59 rfl (lv_at hl 2 rfl) ?_
          refine jnV (wr := [(z 37, aI V 4 fz37), (z 15, aI V 900 f_16), (z 16, aI V 6 f_17), (z 24, aI V 10000 f_18), (z 25, aI V 40000 f_19), (z 28, aZ V 10000 f_20), (z 35, aJ V 90000 f_21), (z 38, aI V 4 fz38), (z 39, aJ V 160 fz39)]) (rnV (rest := []) ⟨hx, hb, hml, hown, hg⟩ (k_X10_beginsMany_0 l V z fz30 fz31 0 pz0_5 pz0_6 pz0_7 pz0_8 pz0_9 pz0_10 pz0_11 pz0_12 pz0_13 pz0_14 pz0_18 pz0_19 pz0_22 pz0_23 v_22 fz1 bpz0_5 bpz0_6 bpz0_7 bpz0_8 bpz0_10 bpz0_11 bpz0_12 bpz0_13 bpz0_14 bpz0_18 bpz0_22 bv_22 tfz1) mt_X10_beginsMany q_7_220 ⟨Nat.le_of_ble_eq_true rfl, Nat.le_of_ble_eq_true rfl⟩ hK hP hD hS hA hE [0, 1, 9, 10] rfl rfl 9 rfl rfl rfl rfl hl.1 rfl (Nat.le_of_ble_eq_true rfl) dX10_fogs_60 ⟨Nat.le_of_ble_eq_true rfl, Nat.le_of_ble_eq_true rfl⟩) hP hD hS hA [0, 1, 9, 10] [2, 3, 4, 5, 6, 7, 8, 11, 12] rfl rfl rfl (by decide) (fun  w H locs hw hP hD hS => ?_)
          obtain ⟨f_29, f_30, rfl⟩ := hw
          have hP : va_P V.1 vwCl [(z 37, aI V 4 fz37), (z 15, aI V 900 f_16), (z 16, aI V 6 f_17), (z 24, aI V 10000 f_18), (z 25, aI V 40000 f_19), (z 28, aZ V 10000 f_20), (z 35, aJ V 90000 f_21), (z 38, aI V 4 fz38), (z 39, aJ V 160 fz39), (z 30, aJ V 10000 f_29), (z 31, aJ V 10000 f_30), (z 0, .inr (10, mo z 0 pz0_5 pz0_6 pz0_7 pz0_8 pz0_9 pz0_10 pz0_11 pz0_12 pz0_13 pz0_14 pz0_18 pz0_19 pz0_22 pz0_23 v_22)), (z 1, aI V 3075 fz1)] H := hP
          have hD : va_D A [(z 37, aI V 4 fz37), (z 15, aI V 900 f_16), (z 16, aI V 6 f_17), (z 24, aI V 10000 f_18), (z 25, aI V 40000 f_19), (z 28, aZ V 10000 f_20), (z 35, aJ V 90000 f_21), (z 38, aI V 4 fz38), (z 39, aJ V 160 fz39), (z 30, aJ V 10000 f_29), (z 31, aJ V 10000 f_30), (z 0, .inr (10, mo z 0 pz0_5 pz0_6 pz0_7 pz0_8 pz0_9 pz0_10 pz0_11 pz0_12 pz0_13 pz0_14 pz0_18 pz0_19 pz0_22 pz0_23 v_22)), (z 1, aI V 3075 fz1)] := hD
          refine lv_iconst (v := 0) hx hb dX10_fogs_63 (by decide) ?_
          refine lv_istore (lv' := [(6, .int 0), (5, .int 0), (4, .int r_1), (0, .ref (z 0)), (1, .int a1), (2, .int a2), (3, .int a3)]) hx hb dX10_fogs_64 hl (by decide) rfl (fun ls hl => ?_)
          refine loopF (X := fun (n_35 : Nat) (H : Heap) (locs : List Loc) (ls : Array Slot) => ∃ (u_31 : Int32) (u_32 : Int32) (f_33 : Nat → Int64) (f_34 : Nat → Int64), (iv 0 8 u_31) ∧ (RW fz1) ∧ n_35 = (2147483647 - (u_31 : Int32).toInt).toNat ∧ va_P V.1 vwCl [(z 37, aI V 4 fz37), (z 15, aI V 900 f_16), (z 16, aI V 6 f_17), (z 24, aI V 10000 f_18), (z 25, aI V 40000 f_19), (z 28, aZ V 10000 f_20), (z 35, aJ V 90000 f_21), (z 38, aI V 4 fz38), (z 39, aJ V 160 fz39), (z 30, aJ V 10000 f_33), (z 31, aJ V 10000 f_34), (z 0, .inr (10, mo z 0 pz0_5 pz0_6 pz0_7 pz0_8 pz0_9 pz0_10 pz0_11 pz0_12 pz0_13 pz0_14 pz0_18 pz0_19 pz0_22 pz0_23 v_22)), (z 1, aI V 3075 fz1)] H ∧ va_D A [(z 37, aI V 4 fz37), (z 15, aI V 900 f_16), (z 16, aI V 6 f_17), (z 24, aI V 10000 f_18), (z 25, aI V 40000 f_19), (z 28, aZ V 10000 f_20), (z 35, aJ V 90000 f_21), (z 38, aI V 4 fz38), (z 39, aJ V 160 fz39), (z 30, aJ V 10000 f_33), (z 31, aJ V 10000 f_34), (z 0, .inr (10, mo z 0 pz0_5 pz0_6 pz0_7 pz0_8 pz0_9 pz0_10 pz0_11 pz0_12 pz0_13 pz0_14 pz0_18 pz0_19 pz0_22 pz0_23 v_22)), (z 1, aI V 3075 fz1)] ∧ va_S A s.heap H locs ∧ lv_has ls 10 [(6, .int u_31), (5, .int u_32), (4, .int r_1), (0, .ref (z 0)), (1, .int a1), (2, .int a2), (3, .int a3)]) (g := fun ls => F0 m 66 ls []) (fun n_35 H locs ls hX ihn_35 => ?_) _ ⟨0, 0, f_29, f_30, (iv_c (0 : Int32) (by decide)), g_23, rfl, hP, hD, hS, lv_sub hl [0, 1, 2, 3, 4, 5, 6] rfl⟩
          obtain ⟨u_31, u_32, f_33, f_34, bu_31, inn_35_0, en_35, hP, hD, hS, hl⟩ := hX
          refine lv_iload hx hb dX10_fogs_66 (lv_at hl 0 rfl) ?_
          refine lv_iload_n hx hb dX10_fogs_68 rfl (lv_at hl 6 rfl) ?_
          refine lv_icmp_gt (tgt := 208) hx hb dX10_fogs_69 (by decide) (fun c_36 => ?_) (fun c_36 => ?_)
          · have b_37 : iv 1 8 u_31 := iv_l2 c_36 b_14 bu_31 (by decide)
            refine lv_iload hx hb dX10_fogs_208 (lv_at hl 1 rfl) ?_
            have hP := subP (ws' := [(z 0, .inr (10, mo z 0 pz0_5 pz0_6 pz0_7 pz0_8 pz0_9 pz0_10 pz0_11 pz0_12 pz0_13 pz0_14 pz0_18 pz0_19 pz0_22 pz0_23 v_22)), (z 1, aI V 3075 fz1), (z 15, aI V 900 f_16), (z 16, aI V 6 f_17), (z 24, aI V 10000 f_18), (z 25, aI V 40000 f_19), (z 28, aZ V 10000 f_20), (z 30, aJ V 10000 f_33), (z 31, aJ V 10000 f_34), (z 35, aJ V 90000 f_21), (z 37, aI V 4 fz37), (z 38, aI V 4 fz38), (z 39, aJ V 160 fz39)]) hP [11, 12, 1, 2, 3, 4, 5, 9, 10, 6, 0, 7, 8] rfl
            have hD := hD.sub (ws' := [(z 0, .inr (10, mo z 0 pz0_5 pz0_6 pz0_7 pz0_8 pz0_9 pz0_10 pz0_11 pz0_12 pz0_13 pz0_14 pz0_18 pz0_19 pz0_22 pz0_23 v_22)), (z 1, aI V 3075 fz1), (z 15, aI V 900 f_16), (z 16, aI V 6 f_17), (z 24, aI V 10000 f_18), (z 25, aI V 40000 f_19), (z 28, aZ V 10000 f_20), (z 30, aJ V 10000 f_33), (z 31, aJ V 10000 f_34), (z 35, aJ V 90000 f_21), (z 37, aI V 4 fz37), (z 38, aI V 4 fz38), (z 39, aJ V 160 fz39)]) [11, 12, 1, 2, 3, 4, 5, 9, 10, 6, 0, 7, 8] rfl rfl
            exact fiI hx hb hr hlk hK hP hD hS dX10_fogs_210 (Nat.le_of_ble_eq_true rfl) (Nat.le_of_ble_eq_true rfl) (⟨0, v_22, f_16, f_17, f_18, f_19, f_20, f_33, f_34, f_21, bv_22, tf_17, tf_18, tf_19, inn_35_0, rfl⟩)
          · have b_38 : iv 0 7 u_31 := iv_e1 (Int32.not_lt.mp c_36) bu_31 b_14 (by decide)
            refine lv_iconst (v := 0) hx hb dX10_fogs_72 (by decide) ?_
            refine lv_istore (lv' := [(5, .int 0), (6, .int u_31), (4, .int r_1), (0, .ref (z 0)), (1, .int a1), (2, .int a2), (3, .int a3)]) hx hb dX10_fogs_73 hl (by decide) rfl (fun ls hl => ?_)
            refine lv_iconst (v := 0) hx hb dX10_fogs_75 (by decide) ?_
            refine lv_istore (lv' := [(7, .int 0), (5, .int 0), (6, .int u_31), (4, .int r_1), (0, .ref (z 0)), (1, .int a1), (2, .int a2), (3, .int a3)]) hx hb dX10_fogs_76 hl (by decide) rfl (fun ls hl => ?_)
            refine loopF (X := fun (n_42 : Nat) (H : Heap) (locs : List Loc) (ls : Array Slot) => ∃ (u_39 : Int32) (u_40 : Int32) (f_41 : Nat → Int64), (iv 0 2147483647 u_39) ∧ (RW fz1) ∧ n_42 = (2147483647 - (u_39 : Int32).toInt).toNat ∧ va_P V.1 vwCl [(z 37, aI V 4 fz37), (z 15, aI V 900 f_16), (z 16, aI V 6 f_17), (z 24, aI V 10000 f_18), (z 25, aI V 40000 f_19), (z 28, aZ V 10000 f_20), (z 35, aJ V 90000 f_21), (z 38, aI V 4 fz38), (z 39, aJ V 160 fz39), (z 30, aJ V 10000 f_33), (z 31, aJ V 10000 f_41), (z 0, .inr (10, mo z 0 pz0_5 pz0_6 pz0_7 pz0_8 pz0_9 pz0_10 pz0_11 pz0_12 pz0_13 pz0_14 pz0_18 pz0_19 pz0_22 pz0_23 v_22)), (z 1, aI V 3075 fz1)] H ∧ va_D A [(z 37, aI V 4 fz37), (z 15, aI V 900 f_16), (z 16, aI V 6 f_17), (z 24, aI V 10000 f_18), (z 25, aI V 40000 f_19), (z 28, aZ V 10000 f_20), (z 35, aJ V 90000 f_21), (z 38, aI V 4 fz38), (z 39, aJ V 160 fz39), (z 30, aJ V 10000 f_33), (z 31, aJ V 10000 f_41), (z 0, .inr (10, mo z 0 pz0_5 pz0_6 pz0_7 pz0_8 pz0_9 pz0_10 pz0_11 pz0_12 pz0_13 pz0_14 pz0_18 pz0_19 pz0_22 pz0_23 v_22)), (z 1, aI V 3075 fz1)] ∧ va_S A s.heap H locs ∧ lv_has ls 10 [(7, .int u_39), (5, .int u_40), (6, .int u_31), (4, .int r_1), (0, .ref (z 0)), (1, .int a1), (2, .int a2), (3, .int a3)]) (g := fun ls => F0 m 78 ls []) (fun n_42 H locs ls hX ihn_42 => ?_) _ ⟨0, 0, f_34, (iv_c (0 : Int32) (by decide)), inn_35_0, rfl, hP, hD, hS, lv_sub hl [0, 1, 2, 3, 4, 5, 6, 7] rfl⟩
            obtain ⟨u_39, u_40, f_41, bu_39, inn_42_0, en_42, hP, hD, hS, hl⟩ := hX
            refine lv_iload hx hb dX10_fogs_78 (lv_at hl 0 rfl) ?_
            refine lv_aload_n hx hb dX10_fogs_80 rfl (lv_at hl 4 rfl) ?_
            refine va_get (ci := 10) (v := .int v_22) (C := RX10) (T := TX10) (N := 40) hx hb hg inX10 hown hK hP 11 rfl rfl 29 (by decide) (hg _ q_6_13) (fun _ h9 => h9) rfl dX10_fogs_81 ?_
            refine lv_icmp_ge (tgt := 198) hx hb dX10_fogs_84 (by decide) (fun c_43 => ?_) (fun c_43 => ?_)
            · refine lv_aload_n hx hb dX10_fogs_198 rfl (lv_at hl 4 rfl) ?_
              refine jnV (wr := [(z 37, aI V 4 fz37), (z 15, aI V 900 f_16), (z 16, aI V 6 f_17), (z 24, aI V 10000 f_18), (z 25, aI V 40000 f_19), (z 28, aZ V 10000 f_20), (z 35, aJ V 90000 f_21), (z 38, aI V 4 fz38), (z 39, aJ V 160 fz39), (z 1, aI V 3075 fz1)]) (rnV (rest := []) ⟨hx, hb, hml, hown, hg⟩ (k_X10_isThen_0 l V z f_33 f_41 0 pz0_5 pz0_6 pz0_7 pz0_8 pz0_9 pz0_10 pz0_11 pz0_12 pz0_13 pz0_14 pz0_18 pz0_19 pz0_22 pz0_23 v_22 bpz0_5 bpz0_6 bpz0_7 bpz0_8 bpz0_10 bpz0_11 bpz0_12 bpz0_13 bpz0_14 bpz0_18 bpz0_22 bv_22) mt_X10_isThen q_7_228 ⟨Nat.le_of_ble_eq_true rfl, Nat.le_of_ble_eq_true rfl⟩ hK hP hD hS hA hE [9, 10, 11] rfl rfl 11 rfl rfl rfl rfl hl.1 rfl (Nat.le_of_ble_eq_true rfl) dX10_fogs_199 ⟨Nat.le_of_ble_eq_true rfl, Nat.le_of_ble_eq_true rfl⟩) hP hD hS hA [9, 10, 11] [0, 1, 2, 3, 4, 5, 6, 7, 8, 12] rfl rfl rfl (by decide) (fun  w H locs hw hP hD hS => ?_)
              obtain ⟨f_44, f_45, rfl⟩ := hw
              have hP : va_P V.1 vwCl [(z 37, aI V 4 fz37), (z 15, aI V 900 f_16), (z 16, aI V 6 f_17), (z 24, aI V 10000 f_18), (z 25, aI V 40000 f_19), (z 28, aZ V 10000 f_20), (z 35, aJ V 90000 f_21), (z 38, aI V 4 fz38), (z 39, aJ V 160 fz39), (z 1, aI V 3075 fz1), (z 30, aJ V 10000 f_44), (z 31, aJ V 10000 f_45), (z 0, .inr (10, mo z 0 pz0_5 pz0_6 pz0_7 pz0_8 pz0_9 pz0_10 pz0_11 pz0_12 pz0_13 pz0_14 pz0_18 pz0_19 pz0_22 pz0_23 v_22))] H := hP
              have hD : va_D A [(z 37, aI V 4 fz37), (z 15, aI V 900 f_16), (z 16, aI V 6 f_17), (z 24, aI V 10000 f_18), (z 25, aI V 40000 f_19), (z 28, aZ V 10000 f_20), (z 35, aJ V 90000 f_21), (z 38, aI V 4 fz38), (z 39, aJ V 160 fz39), (z 1, aI V 3075 fz1), (z 30, aJ V 10000 f_44), (z 31, aJ V 10000 f_45), (z 0, .inr (10, mo z 0 pz0_5 pz0_6 pz0_7 pz0_8 pz0_9 pz0_10 pz0_11 pz0_12 pz0_13 pz0_14 pz0_18 pz0_19 pz0_22 pz0_23 v_22))] := hD
              obtain ⟨x_46, ex_46⟩ : ∃ z9 : Int32, z9 = u_31 + 1 := ⟨_, rfl⟩
              have bx_46 : iv 1 8 x_46 := by rw [ex_46]; exact iv_add b_38 (iv_c (1 : Int32) (a := 1) (b := 1) (by decide)) (by decide)
              refine lv_iinc (v := x_46) (lv' := [(6, .int x_46), (7, .int u_39), (5, .int u_40), (4, .int r_1), (0, .ref (z 0)), (1, .int a1), (2, .int a2), (3, .int a3)]) hx hb dX10_fogs_202 hl (k := 2) rfl (by rw [ex_46]; rfl) (by decide) rfl (fun ls hl => ?_)
              refine lv_goto (tgt := 66) hx hb dX10_fogs_205 (by decide) ?_
              have hP := subP (ws' := [(z 37, aI V 4 fz37), (z 15, aI V 900 f_16), (z 16, aI V 6 f_17), (z 24, aI V 10000 f_18), (z 25, aI V 40000 f_19), (z 28, aZ V 10000 f_20), (z 35, aJ V 90000 f_21), (z 38, aI V 4 fz38), (z 39, aJ V 160 fz39), (z 30, aJ V 10000 f_44), (z 31, aJ V 10000 f_45), (z 0, .inr (10, mo z 0 pz0_5 pz0_6 pz0_7 pz0_8 pz0_9 pz0_10 pz0_11 pz0_12 pz0_13 pz0_14 pz0_18 pz0_19 pz0_22 pz0_23 v_22)), (z 1, aI V 3075 fz1)]) hP [0, 1, 2, 3, 4, 5, 6, 7, 8, 10, 11, 12, 9] rfl
              have hD := hD.sub (ws' := [(z 37, aI V 4 fz37), (z 15, aI V 900 f_16), (z 16, aI V 6 f_17), (z 24, aI V 10000 f_18), (z 25, aI V 40000 f_19), (z 28, aZ V 10000 f_20), (z 35, aJ V 90000 f_21), (z 38, aI V 4 fz38), (z 39, aJ V 160 fz39), (z 30, aJ V 10000 f_44), (z 31, aJ V 10000 f_45), (z 0, .inr (10, mo z 0 pz0_5 pz0_6 pz0_7 pz0_8 pz0_9 pz0_10 pz0_11 pz0_12 pz0_13 pz0_14 pz0_18 pz0_19 pz0_22 pz0_23 v_22)), (z 1, aI V 3075 fz1)]) [0, 1, 2, 3, 4, 5, 6, 7, 8, 10, 11, 12, 9] rfl rfl
              exact ihn_35 _ _ _ _ (by rw [en_35, ex_46]; exact mu_up b_38 (by decide)) ⟨x_46, u_40, f_44, f_45, (iv_w bx_46 (by decide)), inn_42_0, rfl, hP, hD, hS, lv_sub hl [0, 2, 3, 4, 5, 6, 7] rfl⟩
            · have b_47 : iv 0 9999 u_39 := iv_l1 (Int32.not_le.mp c_43) bu_39 bv_22 (by decide)
              have b_48 : iv 1 10000 v_22 := iv_l2 (Int32.not_le.mp c_43) bu_39 bv_22 (by decide)
              refine lv_iconst (v := 0) hx hb dX10_fogs_87 (by decide) ?_
              refine lv_istore (lv' := [(8, .int 0), (7, .int u_39), (5, .int u_40), (6, .int u_31), (4, .int r_1), (0, .ref (z 0)), (1, .int a1), (2, .int a2), (3, .int a3)]) hx hb dX10_fogs_88 hl (by decide) rfl (fun ls hl => ?_)
              refine loopF (X := fun (n_52 : Nat) (H : Heap) (locs : List Loc) (ls : Array Slot) => ∃ (u_49 : Int32) (u_50 : Int32) (f_51 : Nat → Int64), (iv 0 4 u_49) ∧ (RW fz1) ∧ n_52 = (2147483647 - (u_49 : Int32).toInt).toNat ∧ va_P V.1 vwCl [(z 37, aI V 4 fz37), (z 15, aI V 900 f_16), (z 16, aI V 6 f_17), (z 24, aI V 10000 f_18), (z 25, aI V 40000 f_19), (z 28, aZ V 10000 f_20), (z 35, aJ V 90000 f_21), (z 38, aI V 4 fz38), (z 39, aJ V 160 fz39), (z 30, aJ V 10000 f_33), (z 31, aJ V 10000 f_51), (z 0, .inr (10, mo z 0 pz0_5 pz0_6 pz0_7 pz0_8 pz0_9 pz0_10 pz0_11 pz0_12 pz0_13 pz0_14 pz0_18 pz0_19 pz0_22 pz0_23 v_22)), (z 1, aI V 3075 fz1)] H ∧ va_D A [(z 37, aI V 4 fz37), (z 15, aI V 900 f_16), (z 16, aI V 6 f_17), (z 24, aI V 10000 f_18), (z 25, aI V 40000 f_19), (z 28, aZ V 10000 f_20), (z 35, aJ V 90000 f_21), (z 38, aI V 4 fz38), (z 39, aJ V 160 fz39), (z 30, aJ V 10000 f_33), (z 31, aJ V 10000 f_51), (z 0, .inr (10, mo z 0 pz0_5 pz0_6 pz0_7 pz0_8 pz0_9 pz0_10 pz0_11 pz0_12 pz0_13 pz0_14 pz0_18 pz0_19 pz0_22 pz0_23 v_22)), (z 1, aI V 3075 fz1)] ∧ va_S A s.heap H locs ∧ lv_has ls 10 [(8, .int u_49), (7, .int u_39), (5, .int u_50), (6, .int u_31), (4, .int r_1), (0, .ref (z 0)), (1, .int a1), (2, .int a2), (3, .int a3)]) (g := fun ls => F0 m 90 ls []) (fun n_52 H locs ls hX ihn_52 => ?_) _ ⟨0, u_40, f_41, (iv_c (0 : Int32) (by decide)), inn_42_0, rfl, hP, hD, hS, lv_sub hl [0, 1, 2, 3, 4, 5, 6, 7, 8] rfl⟩
              obtain ⟨u_49, u_50, f_51, bu_49, inn_52_0, en_52, hP, hD, hS, hl⟩ := hX
              refine lv_iload hx hb dX10_fogs_90 (lv_at hl 0 rfl) ?_
              refine lv_iconst (v := 4) hx hb dX10_fogs_92 (by decide) ?_
              refine lv_icmp_ge (tgt := 192) hx hb dX10_fogs_93 (by decide) (fun c_53 => ?_) (fun c_53 => ?_)
              · have b_54 : iv 4 4 u_49 := iv_e2 c_53 (iv_c (4 : Int32) (a := 4) (b := 4) (by decide)) bu_49 (by decide)
                obtain ⟨x_55, ex_55⟩ : ∃ z9 : Int32, z9 = u_39 + 1 := ⟨_, rfl⟩
                have bx_55 : iv 1 10000 x_55 := by rw [ex_55]; exact iv_add b_47 (iv_c (1 : Int32) (a := 1) (b := 1) (by decide)) (by decide)
                refine lv_iinc (v := x_55) (lv' := [(7, .int x_55), (8, .int u_49), (5, .int u_50), (6, .int u_31), (4, .int r_1), (0, .ref (z 0)), (1, .int a1), (2, .int a2), (3, .int a3)]) hx hb dX10_fogs_192 hl (k := 1) rfl (by rw [ex_55]; rfl) (by decide) rfl (fun ls hl => ?_)
                refine lv_goto (tgt := 78) hx hb dX10_fogs_195 (by decide) ?_
                exact ihn_42 _ _ _ _ (by rw [en_42, ex_55]; exact mu_up b_47 (by decide)) ⟨x_55, u_50, f_51, (iv_w bx_55 (by decide)), inn_52_0, rfl, hP, hD, hS, lv_sub hl [0, 2, 3, 4, 5, 6, 7, 8] rfl⟩
              · have b_56 : iv 0 3 u_49 := iv_l1 (Int32.not_le.mp c_53) bu_49 (iv_c (4 : Int32) (a := 4) (b := 4) (by decide)) (by decide)
                refine lv_aload_n hx hb dX10_fogs_96 rfl (lv_at hl 5 rfl) ?_
                refine va_get (ci := 10) (v := .ref (z 30)) (C := RX10) (T := TX10) (N := 40) hx hb hg inX10 hown hK hP 11 rfl rfl 30 (by decide) (hg _ q_6_14) (fun _ h9 => h9) rfl dX10_fogs_97 ?_
                refine lv_aload_n hx hb dX10_fogs_100 rfl (lv_at hl 5 rfl) ?_
                refine va_get (ci := 10) (v := .ref (z 24)) (C := RX10) (T := TX10) (N := 40) hx hb hg inX10 hown hK hP 11 rfl rfl 24 (by decide) (hg _ q_6_8) (fun _ h9 => h9) rfl dX10_fogs_101 ?_
                refine lv_iload hx hb dX10_fogs_104 (lv_at hl 1 rfl) ?_
                refine va_iald hx hb hK hP 3 0 rfl rfl (iv_in b_47 (by decide)) dX10_fogs_106 ?_
                refine lv_topi (fun x_57 ex_57 => ?_)
                have bx_57 : iv 0 9999 x_57 := by rw [ex_57]; exact tf_18 _
                refine va_lald hx hb hK hP 9 2 rfl rfl (iv_in bx_57 (by decide)) dX10_fogs_107 ?_
                refine lv_topl (fun j_58 ej_58 => ?_)
                refine lv_lconst (v := 0) hx hb dX10_fogs_108 (by decide) ?_
                refine W.lcmp hx hb dX10_fogs_109 ?_
                refine lv_if_le (tgt := 192) hx hb dX10_fogs_110 (by decide) (fun c_59 => ?_) (fun c_59 => ?_)
                · replace c_59 : j_58 ≤ (0 : Int64) := (lg_cmp_le _ _).mp c_59
                  have b_60 : ivL (-9223372036854775808) 0 j_58 := ivL_e1 c_59 (ivL_top j_58) (ivL_c (0 : Int64) (a := 0) (b := 0) (by decide)) (by decide)
                  obtain ⟨x_61, ex_61⟩ : ∃ z9 : Int32, z9 = u_39 + 1 := ⟨_, rfl⟩
                  have bx_61 : iv 1 10000 x_61 := by rw [ex_61]; exact iv_add b_47 (iv_c (1 : Int32) (a := 1) (b := 1) (by decide)) (by decide)
                  refine lv_iinc (v := x_61) (lv' := [(7, .int x_61), (8, .int u_49), (5, .int u_50), (6, .int u_31), (4, .int r_1), (0, .ref (z 0)), (1, .int a1), (2, .int a2), (3, .int a3)]) hx hb dX10_fogs_192 hl (k := 1) rfl (by rw [ex_61]; rfl) (by decide) rfl (fun ls hl => ?_)
                  refine lv_goto (tgt := 78) hx hb dX10_fogs_195 (by decide) ?_
                  exact ihn_42 _ _ _ _ (by rw [en_42, ex_61]; exact mu_up b_47 (by decide)) ⟨x_61, u_50, f_51, (iv_w bx_61 (by decide)), inn_52_0, rfl, hP, hD, hS, lv_sub hl [0, 2, 3, 4, 5, 6, 7, 8] rfl⟩
                · replace c_59 : ¬ j_58 ≤ (0 : Int64) := fun z => c_59 ((lg_cmp_le _ _).mpr z)
                  have b_62 : ivL 1 9223372036854775807 j_58 := ivL_l2 (Int64.not_le.mp c_59) (ivL_c (0 : Int64) (a := 0) (b := 0) (by decide)) (ivL_top j_58) (by decide)
                  refine lv_aload_n hx hb dX10_fogs_113 rfl (lv_at hl 5 rfl) ?_
                  refine va_get (ci := 10) (v := .ref (z 25)) (C := RX10) (T := TX10) (N := 40) hx hb hg inX10 hown hK hP 11 rfl rfl 25 (by decide) (hg _ q_6_9) (fun _ h9 => h9) rfl dX10_fogs_114 ?_
                  refine lv_iconst (v := 4) hx hb dX10_fogs_117 (by decide) ?_
                  refine lv_aload_n hx hb dX10_fogs_118 rfl (lv_at hl 5 rfl) ?_
                  refine va_get (ci := 10) (v := .ref (z 24)) (C := RX10) (T := TX10) (N := 40) hx hb hg inX10 hown hK hP 11 rfl rfl 24 (by decide) (hg _ q_6_8) (fun _ h9 => h9) rfl dX10_fogs_119 ?_
                  refine lv_iload hx hb dX10_fogs_122 (lv_at hl 1 rfl) ?_
                  refine va_iald hx hb hK hP 3 0 rfl rfl (iv_in b_47 (by decide)) dX10_fogs_124 ?_
                  refine tpi (y := x_57) ex_57.symm ?_
                  refine lv_imul hx hb dX10_fogs_125 ?_
                  refine lv_topi (fun x_63 ex_63 => ?_)
                  have bx_63 : iv 0 39996 x_63 := by rw [ex_63]; exact iv_cmul (iv_c (4 : Int32) (a := 4) (b := 4) (by decide)) bx_57 (by decide)
                  refine lv_iload hx hb dX10_fogs_126 (lv_at hl 0 rfl) ?_
                  refine lv_iadd hx hb dX10_fogs_128 ?_
                  refine lv_topi (fun x_64 ex_64 => ?_)
                  have bx_64 : iv 0 39999 x_64 := by rw [ex_64]; exact iv_add bx_63 b_56 (by decide)
                  refine va_iald hx hb hK hP 4 0 rfl rfl (iv_in bx_64 (by decide)) dX10_fogs_129 ?_
                  refine lv_topi (fun x_65 ex_65 => ?_)
                  have bx_65 : iv (-1) 9999 x_65 := by rw [ex_65]; exact tf_19 _
                  refine lv_istore (lv' := [(9, .int x_65), (8, .int u_49), (7, .int u_39), (5, .int u_50), (6, .int u_31), (4, .int r_1), (0, .ref (z 0)), (1, .int a1), (2, .int a2), (3, .int a3)]) hx hb dX10_fogs_130 hl (by decide) rfl (fun ls hl => ?_)
                  refine lv_aload_n hx hb dX10_fogs_132 rfl (lv_at hl 6 rfl) ?_
                  refine lv_iload_n hx hb dX10_fogs_133 rfl (lv_at hl 7 rfl) ?_
                  refine lv_iload_n hx hb dX10_fogs_134 rfl (lv_at hl 8 rfl) ?_
                  refine lv_iload hx hb dX10_fogs_135 (lv_at hl 4 rfl) ?_
                  refine lv_iload hx hb dX10_fogs_137 (lv_at hl 0 rfl) ?_
                  refine jnI (wr := [(z 37, aI V 4 fz37), (z 15, aI V 900 f_16), (z 16, aI V 6 f_17), (z 24, aI V 10000 f_18), (z 25, aI V 40000 f_19), (z 28, aZ V 10000 f_20), (z 35, aJ V 90000 f_21), (z 38, aI V 4 fz38), (z 30, aJ V 10000 f_33), (z 31, aJ V 10000 f_51), (z 1, aI V 3075 fz1)]) (rnV (rest := []) ⟨hx, hb, hml, hown, hg⟩ (k_X10_isSo_0 l V z a1 a2 u_31 x_65 fz39 0 pz0_5 pz0_6 pz0_7 pz0_8 pz0_9 pz0_10 pz0_11 pz0_12 pz0_13 pz0_14 pz0_18 pz0_19 pz0_22 pz0_23 v_22 b_7 b_8 (iv_w b_38 (by decide)) bx_65 bpz0_5 bpz0_6 bpz0_7 bpz0_8 bpz0_10 bpz0_11 bpz0_12 bpz0_13 bpz0_14 bpz0_18 bpz0_22 (iv_w b_48 (by decide))) mt_X10_isSo q_8_60 ⟨Nat.le_of_ble_eq_true rfl, Nat.le_of_ble_eq_true rfl⟩ hK hP hD hS hA hE [8, 11] rfl rfl 11 rfl rfl rfl rfl hl.1 rfl (Nat.le_of_ble_eq_true rfl) dX10_fogs_139 ⟨Nat.le_of_ble_eq_true rfl, Nat.le_of_ble_eq_true rfl⟩) hP hD hS hA [8, 11] [0, 1, 2, 3, 4, 5, 6, 7, 9, 10, 12] rfl rfl rfl (by decide) (fun r_66 w H locs hw hP hD hS => ?_)
                  obtain ⟨br_66, er_66, g_67, rfl⟩ := hw
                  have hP : va_P V.1 vwCl [(z 37, aI V 4 fz37), (z 15, aI V 900 f_16), (z 16, aI V 6 f_17), (z 24, aI V 10000 f_18), (z 25, aI V 40000 f_19), (z 28, aZ V 10000 f_20), (z 35, aJ V 90000 f_21), (z 38, aI V 4 fz38), (z 30, aJ V 10000 f_33), (z 31, aJ V 10000 f_51), (z 1, aI V 3075 fz1), (z 39, aJ V 160 fz39), (z 0, .inr (10, mo z 0 pz0_5 pz0_6 pz0_7 pz0_8 pz0_9 pz0_10 pz0_11 pz0_12 pz0_13 pz0_14 pz0_18 pz0_19 pz0_22 pz0_23 v_22))] H := hP
                  have hD : va_D A [(z 37, aI V 4 fz37), (z 15, aI V 900 f_16), (z 16, aI V 6 f_17), (z 24, aI V 10000 f_18), (z 25, aI V 40000 f_19), (z 28, aZ V 10000 f_20), (z 35, aJ V 90000 f_21), (z 38, aI V 4 fz38), (z 30, aJ V 10000 f_33), (z 31, aJ V 10000 f_51), (z 1, aI V 3075 fz1), (z 39, aJ V 160 fz39), (z 0, .inr (10, mo z 0 pz0_5 pz0_6 pz0_7 pz0_8 pz0_9 pz0_10 pz0_11 pz0_12 pz0_13 pz0_14 pz0_18 pz0_19 pz0_22 pz0_23 v_22))] := hD
                  refine lv_if_eq (tgt := 186) hx hb dX10_fogs_142 (by decide) (fun c_68 => ?_) (fun c_68 => ?_)
                  · have b_69 : iv 0 0 r_66 := iv_q c_68 (iv_c (0 : Int32) (a := 0) (b := 0) (by decide))
                    obtain ⟨x_70, ex_70⟩ : ∃ z9 : Int32, z9 = u_49 + 1 := ⟨_, rfl⟩
                    have bx_70 : iv 1 4 x_70 := by rw [ex_70]; exact iv_add b_56 (iv_c (1 : Int32) (a := 1) (b := 1) (by decide)) (by decide)
                    refine lv_iinc (v := x_70) (lv' := [(8, .int x_70), (9, .int x_65), (7, .int u_39), (5, .int u_50), (6, .int u_31), (4, .int r_1), (0, .ref (z 0)), (1, .int a1), (2, .int a2), (3, .int a3)]) hx hb dX10_fogs_186 hl (k := 1) rfl (by rw [ex_70]; rfl) (by decide) rfl (fun ls hl => ?_)
                    refine lv_goto (tgt := 90) hx hb dX10_fogs_189 (by decide) ?_
                    have hP := subP (ws' := [(z 37, aI V 4 fz37), (z 15, aI V 900 f_16), (z 16, aI V 6 f_17), (z 24, aI V 10000 f_18), (z 25, aI V 40000 f_19), (z 28, aZ V 10000 f_20), (z 35, aJ V 90000 f_21), (z 38, aI V 4 fz38), (z 39, aJ V 160 fz39), (z 30, aJ V 10000 f_33), (z 31, aJ V 10000 f_51), (z 0, .inr (10, mo z 0 pz0_5 pz0_6 pz0_7 pz0_8 pz0_9 pz0_10 pz0_11 pz0_12 pz0_13 pz0_14 pz0_18 pz0_19 pz0_22 pz0_23 v_22)), (z 1, aI V 3075 fz1)]) hP [0, 1, 2, 3, 4, 5, 6, 7, 11, 8, 9, 12, 10] rfl
                    have hD := hD.sub (ws' := [(z 37, aI V 4 fz37), (z 15, aI V 900 f_16), (z 16, aI V 6 f_17), (z 24, aI V 10000 f_18), (z 25, aI V 40000 f_19), (z 28, aZ V 10000 f_20), (z 35, aJ V 90000 f_21), (z 38, aI V 4 fz38), (z 39, aJ V 160 fz39), (z 30, aJ V 10000 f_33), (z 31, aJ V 10000 f_51), (z 0, .inr (10, mo z 0 pz0_5 pz0_6 pz0_7 pz0_8 pz0_9 pz0_10 pz0_11 pz0_12 pz0_13 pz0_14 pz0_18 pz0_19 pz0_22 pz0_23 v_22)), (z 1, aI V 3075 fz1)]) [0, 1, 2, 3, 4, 5, 6, 7, 11, 8, 9, 12, 10] rfl rfl
                    exact ihn_52 _ _ _ _ (by rw [en_52, ex_70]; exact mu_up b_56 (by decide)) ⟨x_70, u_50, f_51, (iv_w bx_70 (by decide)), inn_52_0, rfl, hP, hD, hS, lv_sub hl [0, 2, 3, 4, 5, 6, 7, 8, 9] rfl⟩
                  · have b_71 : iv 1 1 r_66 := iv_n0 c_68 br_66 (iv_c (0 : Int32) (a := 0) (b := 0) (by decide)) (by decide)
                    have b_72 : iv 0 9999 x_65 := iv_cap (g_67 (iv_eqp b_71 (iv_c (1 : Int32) (by decide)))) bx_65 (by decide)
                    refine lv_aload_n hx hb dX10_fogs_145 rfl (lv_at hl 6 rfl) ?_
                    refine va_get (ci := 10) (v := .ref (z 35)) (C := RX10) (T := TX10) (N := 40) hx hb hg inX10 hown hK hP 12 rfl rfl 35 (by decide) (hg _ q_6_19) (fun _ h9 => h9) rfl dX10_fogs_146 ?_
                    refine lv_sipush (v := 10000) hx hb dX10_fogs_149 (by decide) ?_
                    refine lv_iload hx hb dX10_fogs_152 (lv_at hl 4 rfl) ?_
                    refine lv_iconst (v := 1) hx hb dX10_fogs_154 (by decide) ?_
                    refine lv_iadd hx hb dX10_fogs_155 ?_
                    refine lv_topi (fun x_73 ex_73 => ?_)
                    have bx_73 : iv 1 8 x_73 := by rw [ex_73]; exact iv_add b_38 (iv_c (1 : Int32) (a := 1) (b := 1) (by decide)) (by decide)
                    refine lv_imul hx hb dX10_fogs_156 ?_
                    refine lv_topi (fun x_74 ex_74 => ?_)
                    have bx_74 : iv 10000 80000 x_74 := by rw [ex_74]; exact iv_cmul (iv_c (10000 : Int32) (a := 10000) (b := 10000) (by decide)) bx_73 (by decide)
                    refine lv_iload hx hb dX10_fogs_157 (lv_at hl 0 rfl) ?_
                    refine lv_iadd hx hb dX10_fogs_159 ?_
                    refine lv_topi (fun x_75 ex_75 => ?_)
                    have bx_75 : iv 10000 89999 x_75 := by rw [ex_75]; exact iv_add bx_74 b_72 (by decide)
                    refine va_lald hx hb hK hP 6 2 rfl rfl (iv_in bx_75 (by decide)) dX10_fogs_160 ?_
                    refine lv_topl (fun j_76 ej_76 => ?_)
                    refine lv_lconst (v := 0) hx hb dX10_fogs_161 (by decide) ?_
                    refine W.lcmp hx hb dX10_fogs_162 ?_
                    refine lv_if_ne (tgt := 169) hx hb dX10_fogs_163 (by decide) (fun c_77 => ?_) (fun c_77 => ?_)
                    · replace c_77 : ¬ j_76 = (0 : Int64) := fun z => c_77 ((lg_cmp_eq _ _).mpr z)
                      refine lv_aload_n hx hb dX10_fogs_169 rfl (lv_at hl 6 rfl) ?_
                      refine va_get (ci := 10) (v := .ref (z 31)) (C := RX10) (T := TX10) (N := 40) hx hb hg inX10 hown hK hP 12 rfl rfl 31 (by decide) (hg _ q_6_15) (fun _ h9 => h9) rfl dX10_fogs_170 ?_
                      refine lv_iload hx hb dX10_fogs_173 (lv_at hl 0 rfl) ?_
                      refine lv_lconst (v := 1) hx hb dX10_fogs_175 (by decide) ?_
                      refine va_last hx hb hK hP hD hS 9 2 rfl rfl (iv_in b_72 (by decide)) dX10_fogs_176 (fun H locs hP hD hS => ?_)
                      obtain ⟨f_78, hP, hD⟩ : ∃ f_78 : Nat → Int64, va_P V.1 vwCl [(z 37, aI V 4 fz37), (z 15, aI V 900 f_16), (z 16, aI V 6 f_17), (z 24, aI V 10000 f_18), (z 25, aI V 40000 f_19), (z 28, aZ V 10000 f_20), (z 35, aJ V 90000 f_21), (z 38, aI V 4 fz38), (z 30, aJ V 10000 f_33), (z 31, aJ V 10000 f_78), (z 1, aI V 3075 fz1), (z 39, aJ V 160 fz39), (z 0, .inr (10, mo z 0 pz0_5 pz0_6 pz0_7 pz0_8 pz0_9 pz0_10 pz0_11 pz0_12 pz0_13 pz0_14 pz0_18 pz0_19 pz0_22 pz0_23 v_22))] H ∧ va_D A [(z 37, aI V 4 fz37), (z 15, aI V 900 f_16), (z 16, aI V 6 f_17), (z 24, aI V 10000 f_18), (z 25, aI V 40000 f_19), (z 28, aZ V 10000 f_20), (z 35, aJ V 90000 f_21), (z 38, aI V 4 fz38), (z 30, aJ V 10000 f_33), (z 31, aJ V 10000 f_78), (z 1, aI V 3075 fz1), (z 39, aJ V 160 fz39), (z 0, .inr (10, mo z 0 pz0_5 pz0_6 pz0_7 pz0_8 pz0_9 pz0_10 pz0_11 pz0_12 pz0_13 pz0_14 pz0_18 pz0_19 pz0_22 pz0_23 v_22))] := ⟨_, hP, hD⟩
                      refine lv_iload hx hb dX10_fogs_177 (lv_at hl 3 rfl) ?_
                      refine lv_iconst (v := 1) hx hb dX10_fogs_179 (by decide) ?_
                      refine lv_iload hx hb dX10_fogs_180 (lv_at hl 1 rfl) ?_
                      refine lv_ishl hx hb dX10_fogs_182 ?_
                      refine lv_topi (fun x_79 ex_79 => ?_)
                      have bx_79 : iv 1 8 x_79 := by rw [ex_79]; exact iv_shl1 b_56 (by decide)
                      refine lv_ior hx hb dX10_fogs_183 ?_
                      refine lv_topi (fun x_80 ex_80 => ?_)
                      refine lv_istore (lv' := [(5, .int x_80), (9, .int x_65), (8, .int u_49), (7, .int u_39), (6, .int u_31), (4, .int r_1), (0, .ref (z 0)), (1, .int a1), (2, .int a2), (3, .int a3)]) hx hb dX10_fogs_184 hl (by decide) rfl (fun ls hl => ?_)
                      obtain ⟨x_81, ex_81⟩ : ∃ z9 : Int32, z9 = u_49 + 1 := ⟨_, rfl⟩
                      have bx_81 : iv 1 4 x_81 := by rw [ex_81]; exact iv_add b_56 (iv_c (1 : Int32) (a := 1) (b := 1) (by decide)) (by decide)
                      refine lv_iinc (v := x_81) (lv' := [(8, .int x_81), (5, .int x_80), (9, .int x_65), (7, .int u_39), (6, .int u_31), (4, .int r_1), (0, .ref (z 0)), (1, .int a1), (2, .int a2), (3, .int a3)]) hx hb dX10_fogs_186 hl (k := 2) rfl (by rw [ex_81]; rfl) (by decide) rfl (fun ls hl => ?_)
                      refine lv_goto (tgt := 90) hx hb dX10_fogs_189 (by decide) ?_
                      have hP := subP (ws' := [(z 37, aI V 4 fz37), (z 15, aI V 900 f_16), (z 16, aI V 6 f_17), (z 24, aI V 10000 f_18), (z 25, aI V 40000 f_19), (z 28, aZ V 10000 f_20), (z 35, aJ V 90000 f_21), (z 38, aI V 4 fz38), (z 39, aJ V 160 fz39), (z 30, aJ V 10000 f_33), (z 31, aJ V 10000 f_78), (z 0, .inr (10, mo z 0 pz0_5 pz0_6 pz0_7 pz0_8 pz0_9 pz0_10 pz0_11 pz0_12 pz0_13 pz0_14 pz0_18 pz0_19 pz0_22 pz0_23 v_22)), (z 1, aI V 3075 fz1)]) hP [0, 1, 2, 3, 4, 5, 6, 7, 11, 8, 9, 12, 10] rfl
                      have hD := hD.sub (ws' := [(z 37, aI V 4 fz37), (z 15, aI V 900 f_16), (z 16, aI V 6 f_17), (z 24, aI V 10000 f_18), (z 25, aI V 40000 f_19), (z 28, aZ V 10000 f_20), (z 35, aJ V 90000 f_21), (z 38, aI V 4 fz38), (z 39, aJ V 160 fz39), (z 30, aJ V 10000 f_33), (z 31, aJ V 10000 f_78), (z 0, .inr (10, mo z 0 pz0_5 pz0_6 pz0_7 pz0_8 pz0_9 pz0_10 pz0_11 pz0_12 pz0_13 pz0_14 pz0_18 pz0_19 pz0_22 pz0_23 v_22)), (z 1, aI V 3075 fz1)]) [0, 1, 2, 3, 4, 5, 6, 7, 11, 8, 9, 12, 10] rfl rfl
                      exact ihn_52 _ _ _ _ (by rw [en_52, ex_81]; exact mu_up b_56 (by decide)) ⟨x_81, x_80, f_78, (iv_w bx_81 (by decide)), inn_52_0, rfl, hP, hD, hS, lv_sub hl [0, 3, 1, 4, 5, 6, 7, 8, 9] rfl⟩
                    · replace c_77 : j_76 = (0 : Int64) := (lg_cmp_eq _ _).mp c_77
                      have b_82 : ivL 0 0 j_76 := ivL_q c_77 (ivL_c (0 : Int64) (a := 0) (b := 0) (by decide))
                      refine lv_goto (tgt := 186) hx hb dX10_fogs_166 (by decide) ?_
                      obtain ⟨x_83, ex_83⟩ : ∃ z9 : Int32, z9 = u_49 + 1 := ⟨_, rfl⟩
                      have bx_83 : iv 1 4 x_83 := by rw [ex_83]; exact iv_add b_56 (iv_c (1 : Int32) (a := 1) (b := 1) (by decide)) (by decide)
                      refine lv_iinc (v := x_83) (lv' := [(8, .int x_83), (9, .int x_65), (7, .int u_39), (5, .int u_50), (6, .int u_31), (4, .int r_1), (0, .ref (z 0)), (1, .int a1), (2, .int a2), (3, .int a3)]) hx hb dX10_fogs_186 hl (k := 1) rfl (by rw [ex_83]; rfl) (by decide) rfl (fun ls hl => ?_)
                      refine lv_goto (tgt := 90) hx hb dX10_fogs_189 (by decide) ?_
                      have hP := subP (ws' := [(z 37, aI V 4 fz37), (z 15, aI V 900 f_16), (z 16, aI V 6 f_17), (z 24, aI V 10000 f_18), (z 25, aI V 40000 f_19), (z 28, aZ V 10000 f_20), (z 35, aJ V 90000 f_21), (z 38, aI V 4 fz38), (z 39, aJ V 160 fz39), (z 30, aJ V 10000 f_33), (z 31, aJ V 10000 f_51), (z 0, .inr (10, mo z 0 pz0_5 pz0_6 pz0_7 pz0_8 pz0_9 pz0_10 pz0_11 pz0_12 pz0_13 pz0_14 pz0_18 pz0_19 pz0_22 pz0_23 v_22)), (z 1, aI V 3075 fz1)]) hP [0, 1, 2, 3, 4, 5, 6, 7, 11, 8, 9, 12, 10] rfl
                      have hD := hD.sub (ws' := [(z 37, aI V 4 fz37), (z 15, aI V 900 f_16), (z 16, aI V 6 f_17), (z 24, aI V 10000 f_18), (z 25, aI V 40000 f_19), (z 28, aZ V 10000 f_20), (z 35, aJ V 90000 f_21), (z 38, aI V 4 fz38), (z 39, aJ V 160 fz39), (z 30, aJ V 10000 f_33), (z 31, aJ V 10000 f_51), (z 0, .inr (10, mo z 0 pz0_5 pz0_6 pz0_7 pz0_8 pz0_9 pz0_10 pz0_11 pz0_12 pz0_13 pz0_14 pz0_18 pz0_19 pz0_22 pz0_23 v_22)), (z 1, aI V 3075 fz1)]) [0, 1, 2, 3, 4, 5, 6, 7, 11, 8, 9, 12, 10] rfl rfl
                      exact ihn_52 _ _ _ _ (by rw [en_52, ex_83]; exact mu_up b_56 (by decide)) ⟨x_83, u_50, f_51, (iv_w bx_83 (by decide)), inn_52_0, rfl, hP, hD, hS, lv_sub hl [0, 2, 3, 4, 5, 6, 7, 8, 9] rfl⟩
        · replace c_28 : r_15 = (0 : Int64) := (lg_cmp_eq _ _).mp c_28
          have b_84 : ivL 0 0 r_15 := ivL_q c_28 (ivL_c (0 : Int64) (a := 0) (b := 0) (by decide))
          refine lv_iload hx hb dX10_fogs_56 (lv_at hl 0 rfl) ?_
          have hP := subP (ws' := [(z 0, .inr (10, mo z 0 pz0_5 pz0_6 pz0_7 pz0_8 pz0_9 pz0_10 pz0_11 pz0_12 pz0_13 pz0_14 pz0_18 pz0_19 pz0_22 pz0_23 v_22)), (z 1, aI V 3075 fz1), (z 15, aI V 900 f_16), (z 16, aI V 6 f_17), (z 24, aI V 10000 f_18), (z 25, aI V 40000 f_19), (z 28, aZ V 10000 f_20), (z 30, aJ V 10000 fz30), (z 31, aJ V 10000 fz31), (z 35, aJ V 90000 f_21), (z 37, aI V 4 fz37), (z 38, aI V 4 fz38), (z 39, aJ V 160 fz39)]) hP [9, 10, 3, 4, 5, 6, 7, 0, 1, 8, 2, 11, 12] rfl
          have hD := hD.sub (ws' := [(z 0, .inr (10, mo z 0 pz0_5 pz0_6 pz0_7 pz0_8 pz0_9 pz0_10 pz0_11 pz0_12 pz0_13 pz0_14 pz0_18 pz0_19 pz0_22 pz0_23 v_22)), (z 1, aI V 3075 fz1), (z 15, aI V 900 f_16), (z 16, aI V 6 f_17), (z 24, aI V 10000 f_18), (z 25, aI V 40000 f_19), (z 28, aZ V 10000 f_20), (z 30, aJ V 10000 fz30), (z 31, aJ V 10000 fz31), (z 35, aJ V 90000 f_21), (z 37, aI V 4 fz37), (z 38, aI V 4 fz38), (z 39, aJ V 160 fz39)]) [9, 10, 3, 4, 5, 6, 7, 0, 1, 8, 2, 11, 12] rfl rfl
          exact fiI hx hb hr hlk hK hP hD hS dX10_fogs_58 (Nat.le_of_ble_eq_true rfl) (Nat.le_of_ble_eq_true rfl) (⟨0, v_22, f_16, f_17, f_18, f_19, f_20, fz30, fz31, f_21, bv_22, tf_17, tf_18, tf_19, g_23, rfl⟩)
      · have b_85 : iv 1 2147483647 a3 := iv_e2 (Int32.not_lt.mp c_13) b_12 b_10 (by decide)
        refine lv_bipush (v := (-7)) hx hb dX10_fogs_39 (by decide) ?_
        have hP := subP (ws' := [(z 0, .inr (10, mo z 0 pz0_5 pz0_6 pz0_7 pz0_8 pz0_9 pz0_10 pz0_11 pz0_12 pz0_13 pz0_14 pz0_18 pz0_19 pz0_22 pz0_23 pz0_29)), (z 1, aI V 3075 fz1), (z 15, aI V 900 fz15), (z 16, aI V 6 fz16), (z 24, aI V 10000 fz24), (z 25, aI V 40000 fz25), (z 28, aZ V 10000 fz28), (z 30, aJ V 10000 fz30), (z 31, aJ V 10000 fz31), (z 35, aJ V 90000 fz35), (z 37, aI V 4 fz37), (z 38, aI V 4 fz38), (z 39, aJ V 160 fz39)]) hP [8, 9, 0, 1, 2, 3, 4, 5, 6, 7, 10, 11, 12] rfl
        have hD := hD.sub (ws' := [(z 0, .inr (10, mo z 0 pz0_5 pz0_6 pz0_7 pz0_8 pz0_9 pz0_10 pz0_11 pz0_12 pz0_13 pz0_14 pz0_18 pz0_19 pz0_22 pz0_23 pz0_29)), (z 1, aI V 3075 fz1), (z 15, aI V 900 fz15), (z 16, aI V 6 fz16), (z 24, aI V 10000 fz24), (z 25, aI V 40000 fz25), (z 28, aZ V 10000 fz28), (z 30, aJ V 10000 fz30), (z 31, aJ V 10000 fz31), (z 35, aJ V 90000 fz35), (z 37, aI V 4 fz37), (z 38, aI V 4 fz38), (z 39, aJ V 160 fz39)]) [8, 9, 0, 1, 2, 3, 4, 5, 6, 7, 10, 11, 12] rfl rfl
        exact fiI hx hb hr hlk hK hP hD hS dX10_fogs_41 (Nat.le_of_ble_eq_true rfl) (Nat.le_of_ble_eq_true rfl) (⟨0, pz0_29, fz15, fz16, fz24, fz25, fz28, fz30, fz31, fz35, bpz0_29, tfz16, tfz24, tfz25, hf0, rfl⟩)
    · have b_86 : iv (-2147483648) (-1) a3 := iv_l1 (Int32.not_le.mp c_9) (iv_top a3) (iv_c (0 : Int32) (a := 0) (b := 0) (by decide)) (by decide)
      refine lv_bipush (v := (-3)) hx hb dX10_fogs_26 (by decide) ?_
      have hP := subP (ws' := [(z 0, .inr (10, mo z 0 pz0_5 pz0_6 pz0_7 pz0_8 pz0_9 pz0_10 pz0_11 pz0_12 pz0_13 pz0_14 pz0_18 pz0_19 pz0_22 pz0_23 pz0_29)), (z 1, aI V 3075 fz1), (z 15, aI V 900 fz15), (z 16, aI V 6 fz16), (z 24, aI V 10000 fz24), (z 25, aI V 40000 fz25), (z 28, aZ V 10000 fz28), (z 30, aJ V 10000 fz30), (z 31, aJ V 10000 fz31), (z 35, aJ V 90000 fz35), (z 37, aI V 4 fz37), (z 38, aI V 4 fz38), (z 39, aJ V 160 fz39)]) hP [8, 9, 0, 1, 2, 3, 4, 5, 6, 7, 10, 11, 12] rfl
      have hD := hD.sub (ws' := [(z 0, .inr (10, mo z 0 pz0_5 pz0_6 pz0_7 pz0_8 pz0_9 pz0_10 pz0_11 pz0_12 pz0_13 pz0_14 pz0_18 pz0_19 pz0_22 pz0_23 pz0_29)), (z 1, aI V 3075 fz1), (z 15, aI V 900 fz15), (z 16, aI V 6 fz16), (z 24, aI V 10000 fz24), (z 25, aI V 40000 fz25), (z 28, aZ V 10000 fz28), (z 30, aJ V 10000 fz30), (z 31, aJ V 10000 fz31), (z 35, aJ V 90000 fz35), (z 37, aI V 4 fz37), (z 38, aI V 4 fz38), (z 39, aJ V 160 fz39)]) [8, 9, 0, 1, 2, 3, 4, 5, 6, 7, 10, 11, 12] rfl rfl
      exact fiI hx hb hr hlk hK hP hD hS dX10_fogs_28 (Nat.le_of_ble_eq_true rfl) (Nat.le_of_ble_eq_true rfl) (⟨0, pz0_29, fz15, fz16, fz24, fz25, fz28, fz30, fz31, fz35, bpz0_29, tfz16, tfz24, tfz25, hf0, rfl⟩)
  · have b_87 : iv (-6) (-1) r_1 := iv_n1 c_5 br_1 (iv_c (0 : Int32) (a := 0) (b := 0) (by decide)) (by decide)
    refine lv_iload hx hb dX10_fogs_19 (lv_at hl 0 rfl) ?_
    have hP := subP (ws' := [(z 0, .inr (10, mo z 0 pz0_5 pz0_6 pz0_7 pz0_8 pz0_9 pz0_10 pz0_11 pz0_12 pz0_13 pz0_14 pz0_18 pz0_19 pz0_22 pz0_23 pz0_29)), (z 1, aI V 3075 fz1), (z 15, aI V 900 fz15), (z 16, aI V 6 fz16), (z 24, aI V 10000 fz24), (z 25, aI V 40000 fz25), (z 28, aZ V 10000 fz28), (z 30, aJ V 10000 fz30), (z 31, aJ V 10000 fz31), (z 35, aJ V 90000 fz35), (z 37, aI V 4 fz37), (z 38, aI V 4 fz38), (z 39, aJ V 160 fz39)]) hP [8, 9, 0, 1, 2, 3, 4, 5, 6, 7, 10, 11, 12] rfl
    have hD := hD.sub (ws' := [(z 0, .inr (10, mo z 0 pz0_5 pz0_6 pz0_7 pz0_8 pz0_9 pz0_10 pz0_11 pz0_12 pz0_13 pz0_14 pz0_18 pz0_19 pz0_22 pz0_23 pz0_29)), (z 1, aI V 3075 fz1), (z 15, aI V 900 fz15), (z 16, aI V 6 fz16), (z 24, aI V 10000 fz24), (z 25, aI V 40000 fz25), (z 28, aZ V 10000 fz28), (z 30, aJ V 10000 fz30), (z 31, aJ V 10000 fz31), (z 35, aJ V 90000 fz35), (z 37, aI V 4 fz37), (z 38, aI V 4 fz38), (z 39, aJ V 160 fz39)]) [8, 9, 0, 1, 2, 3, 4, 5, 6, 7, 10, 11, 12] rfl rfl
    exact fiI hx hb hr hlk hK hP hD hS dX10_fogs_21 (Nat.le_of_ble_eq_true rfl) (Nat.le_of_ble_eq_true rfl) (⟨0, pz0_29, fz15, fz16, fz24, fz25, fz28, fz30, fz31, fz35, bpz0_29, tfz16, tfz24, tfz25, hf0, rfl⟩)
theorem dX10_weathersOf_0 : decode cX10_weathersOf 0 = .ok (.iconst 0, 1) := by decide +kernel
theorem dX10_weathersOf_1 : decode cX10_weathersOf 1 = .ok (.istore_n 3, 1) := by decide +kernel
theorem dX10_weathersOf_2 : decode cX10_weathersOf 2 = .ok (.iconst 0, 1) := by decide +kernel
theorem dX10_weathersOf_3 : decode cX10_weathersOf 3 = .ok (.istore 4, 2) := by decide +kernel
theorem dX10_weathersOf_5 : decode cX10_weathersOf 5 = .ok (.iload 4, 2) := by decide +kernel
theorem dX10_weathersOf_7 : decode cX10_weathersOf 7 = .ok (.bipush 10, 2) := by decide +kernel
theorem dX10_weathersOf_9 : decode cX10_weathersOf 9 = .ok (.if_icmp .ge 98, 3) := by decide +kernel
theorem dX10_weathersOf_107 : decode cX10_weathersOf 107 = .ok (.iload_n 3, 1) := by decide +kernel
theorem dX10_weathersOf_108 : decode cX10_weathersOf 108 = .ok (.ireturn, 1) := by decide +kernel
theorem dX10_weathersOf_12 : decode cX10_weathersOf 12 = .ok (.aload_n 0, 1) := by decide +kernel
theorem dX10_weathersOf_13 : decode cX10_weathersOf 13 = .ok (.invokevirtual 269, 3) := by decide +kernel
theorem dX10_weathersOf_16 : decode cX10_weathersOf 16 = .ok (.istore 5, 2) := by decide +kernel
theorem dX10_weathersOf_18 : decode cX10_weathersOf 18 = .ok (.iconst 1, 1) := by decide +kernel
theorem dX10_weathersOf_19 : decode cX10_weathersOf 19 = .ok (.istore 6, 2) := by decide +kernel
theorem dX10_weathersOf_21 : decode cX10_weathersOf 21 = .ok (.iconst 0, 1) := by decide +kernel
theorem dX10_weathersOf_22 : decode cX10_weathersOf 22 = .ok (.istore 7, 2) := by decide +kernel
theorem dX10_weathersOf_24 : decode cX10_weathersOf 24 = .ok (.iload 7, 2) := by decide +kernel
theorem dX10_weathersOf_26 : decode cX10_weathersOf 26 = .ok (.aload_n 0, 1) := by decide +kernel
theorem dX10_weathersOf_27 : decode cX10_weathersOf 27 = .ok (.getfield 87, 3) := by decide +kernel
theorem dX10_weathersOf_30 : decode cX10_weathersOf 30 = .ok (.iload_n 1, 1) := by decide +kernel
theorem dX10_weathersOf_31 : decode cX10_weathersOf 31 = .ok (.iaload, 1) := by decide +kernel
theorem dX10_weathersOf_32 : decode cX10_weathersOf 32 = .ok (.if_icmp .ge 53, 3) := by decide +kernel
theorem dX10_weathersOf_85 : decode cX10_weathersOf 85 = .ok (.iload_n 3, 1) := by decide +kernel
theorem dX10_weathersOf_86 : decode cX10_weathersOf 86 = .ok (.iload 6, 2) := by decide +kernel
theorem dX10_weathersOf_88 : decode cX10_weathersOf 88 = .ok (.ifCond .eq 10, 3) := by decide +kernel
theorem dX10_weathersOf_98 : decode cX10_weathersOf 98 = .ok (.iconst 0, 1) := by decide +kernel
theorem dX10_weathersOf_99 : decode cX10_weathersOf 99 = .ok (.ior, 1) := by decide +kernel
theorem dX10_weathersOf_100 : decode cX10_weathersOf 100 = .ok (.istore_n 3, 1) := by decide +kernel
theorem dX10_weathersOf_101 : decode cX10_weathersOf 101 = .ok (.iinc 4 1, 3) := by decide +kernel
theorem dX10_weathersOf_104 : decode cX10_weathersOf 104 = .ok (.goto (-99), 3) := by decide +kernel
theorem dX10_weathersOf_91 : decode cX10_weathersOf 91 = .ok (.iconst 1, 1) := by decide +kernel
theorem dX10_weathersOf_92 : decode cX10_weathersOf 92 = .ok (.iload 4, 2) := by decide +kernel
theorem dX10_weathersOf_94 : decode cX10_weathersOf 94 = .ok (.ishl, 1) := by decide +kernel
theorem dX10_weathersOf_95 : decode cX10_weathersOf 95 = .ok (.goto 4, 3) := by decide +kernel
theorem dX10_weathersOf_35 : decode cX10_weathersOf 35 = .ok (.aload_n 0, 1) := by decide +kernel
theorem dX10_weathersOf_36 : decode cX10_weathersOf 36 = .ok (.iload 5, 2) := by decide +kernel
theorem dX10_weathersOf_38 : decode cX10_weathersOf 38 = .ok (.iconst 0, 1) := by decide +kernel
theorem dX10_weathersOf_39 : decode cX10_weathersOf 39 = .ok (.iload 4, 2) := by decide +kernel
theorem dX10_weathersOf_41 : decode cX10_weathersOf 41 = .ok (.invokevirtual 272, 3) := by decide +kernel
theorem dX10_weathersOf_44 : decode cX10_weathersOf 44 = .ok (.istore 5, 2) := by decide +kernel
theorem dX10_weathersOf_46 : decode cX10_weathersOf 46 = .ok (.iload 6, 2) := by decide +kernel
theorem dX10_weathersOf_48 : decode cX10_weathersOf 48 = .ok (.iload 5, 2) := by decide +kernel
theorem dX10_weathersOf_50 : decode cX10_weathersOf 50 = .ok (.iload_n 2, 1) := by decide +kernel
theorem dX10_weathersOf_51 : decode cX10_weathersOf 51 = .ok (.invokestatic 231, 3) := by decide +kernel
theorem dX10_weathersOf_54 : decode cX10_weathersOf 54 = .ok (.i2l, 1) := by decide +kernel
theorem dX10_weathersOf_55 : decode cX10_weathersOf 55 = .ok (.aload_n 0, 1) := by decide +kernel
theorem dX10_weathersOf_56 : decode cX10_weathersOf 56 = .ok (.getfield 90, 3) := by decide +kernel
theorem dX10_weathersOf_59 : decode cX10_weathersOf 59 = .ok (.bipush 40, 2) := by decide +kernel
theorem dX10_weathersOf_61 : decode cX10_weathersOf 61 = .ok (.iload_n 1, 1) := by decide +kernel
theorem dX10_weathersOf_62 : decode cX10_weathersOf 62 = .ok (.imul, 1) := by decide +kernel
theorem dX10_weathersOf_63 : decode cX10_weathersOf 63 = .ok (.iload 7, 2) := by decide +kernel
theorem dX10_weathersOf_65 : decode cX10_weathersOf 65 = .ok (.iadd, 1) := by decide +kernel
theorem dX10_weathersOf_66 : decode cX10_weathersOf 66 = .ok (.laload, 1) := by decide +kernel
theorem dX10_weathersOf_67 : decode cX10_weathersOf 67 = .ok (.lcmp, 1) := by decide +kernel
theorem dX10_weathersOf_68 : decode cX10_weathersOf 68 = .ok (.ifCond .ne 7, 3) := by decide +kernel
theorem dX10_weathersOf_75 : decode cX10_weathersOf 75 = .ok (.iconst 0, 1) := by decide +kernel
theorem dX10_weathersOf_76 : decode cX10_weathersOf 76 = .ok (.iand, 1) := by decide +kernel
theorem dX10_weathersOf_77 : decode cX10_weathersOf 77 = .ok (.istore 6, 2) := by decide +kernel
theorem dX10_weathersOf_79 : decode cX10_weathersOf 79 = .ok (.iinc 7 1, 3) := by decide +kernel
theorem dX10_weathersOf_82 : decode cX10_weathersOf 82 = .ok (.goto (-58), 3) := by decide +kernel
theorem dX10_weathersOf_71 : decode cX10_weathersOf 71 = .ok (.iconst 1, 1) := by decide +kernel
theorem dX10_weathersOf_72 : decode cX10_weathersOf 72 = .ok (.goto 4, 3) := by decide +kernel
set_option maxHeartbeats 4000000 in
set_option maxRecDepth 100000 in
theorem k_X10_weathersOf_0 (l : Launch) (V : GV) (z : Nat → Nat) (a1 : Int32) (a2 : Int32) (fz15 : Nat → Int32) (fz16 : Nat → Int32) (pz0_0 : Int32) (pz0_5 : Int32) (pz0_6 : Int32) (pz0_7 : Int32) (pz0_8 : Int32) (pz0_9 : Int32) (pz0_10 : Int32) (pz0_11 : Int32) (pz0_12 : Int32) (pz0_13 : Int32) (pz0_14 : Int32) (pz0_18 : Int32) (pz0_19 : Int32) (pz0_22 : Int32) (pz0_23 : Int32) (pz0_29 : Int32) (fz1 : Nat → Int32) (fz38 : Nat → Int32) (fz39 : Nat → Int64) (ba1 : iv 0 3 a1) (ba2 : iv 0 3 a2) (tfz16 : ivT tW fz16) (bpz0_5 : iv 0 900 pz0_5) (bpz0_6 : iv 0 900 pz0_6) (bpz0_7 : iv 0 900 pz0_7) (bpz0_8 : iv 0 900 pz0_8) (bpz0_10 : iv 0 999 pz0_10) (bpz0_11 : iv 0 4 pz0_11) (bpz0_12 : iv 0 900 pz0_12) (bpz0_13 : iv 0 4 pz0_13) (bpz0_14 : iv (-1) 900 pz0_14) (bpz0_18 : iv 0 2 pz0_18) (bpz0_22 : iv 0 9999 pz0_22) (bpz0_29 : iv 0 10000 pz0_29) (tfz1 : ivT tA fz1) (tfz38 : ∀ j, iv 0 40 (fz38 j)) (hf0 : RW fz1) : Ct l V yX10_weathersOf (.code yX10_weathersOf cX10_weathersOf 8 (some .int)) 5 [.ref (z 0), .int a1, .int a2] [(z 15, aI V 900 fz15), (z 16, aI V 6 fz16), (z 0, .inr (10, mo z pz0_0 pz0_5 pz0_6 pz0_7 pz0_8 pz0_9 pz0_10 pz0_11 pz0_12 pz0_13 pz0_14 pz0_18 pz0_19 pz0_22 pz0_23 pz0_29)), (z 1, aI V 3075 fz1), (z 38, aI V 4 fz38), (z 39, aJ V 160 fz39)] 0 0 (QI V (fun (r : Int32) (w : va_W) => ∃ (g0 : Nat → Int32) (g1 : Nat → Int32), (ivT tW g1) ∧ (RW fz1) ∧ w = [(z 15, aI V 900 g0), (z 16, aI V 6 g1), (z 0, .inr (10, mo z pz0_0 pz0_5 pz0_6 pz0_7 pz0_8 pz0_9 pz0_10 pz0_11 pz0_12 pz0_13 pz0_14 pz0_18 pz0_19 pz0_22 pz0_23 pz0_29)), (z 1, aI V 3075 fz1), (z 38, aI V 4 fz38), (z 39, aJ V 160 fz39)])) := by
  refine Ct.of (by decide) (Nat.le_of_ble_eq_true rfl) (fun p e s m below meth c A ls hx hb hr hml hown hlk hnm hg hP hK hD hE hA hS hl => ?_)
  have hl : lv_has ls 8 [(0, .ref (z 0)), (1, .int a1), (2, .int a2)] := hl
  refine lv_iconst (v := 0) hx hb dX10_weathersOf_0 (by decide) ?_
  refine lv_istore_n (lv' := [(3, .int 0), (0, .ref (z 0)), (1, .int a1), (2, .int a2)]) hx hb dX10_weathersOf_1 rfl hl (by decide) rfl (fun ls hl => ?_)
  refine lv_iconst (v := 0) hx hb dX10_weathersOf_2 (by decide) ?_
  refine lv_istore (lv' := [(4, .int 0), (3, .int 0), (0, .ref (z 0)), (1, .int a1), (2, .int a2)]) hx hb dX10_weathersOf_3 hl (by decide) rfl (fun ls hl => ?_)
  refine loopF (X := fun (n_5 : Nat) (H : Heap) (locs : List Loc) (ls : Array Slot) => ∃ (u_1 : Int32) (u_2 : Int32) (f_3 : Nat → Int32) (f_4 : Nat → Int32), (iv 0 2147483647 u_1) ∧ (ivT tW f_4) ∧ (RW fz1) ∧ n_5 = (2147483647 - (u_1 : Int32).toInt).toNat ∧ va_P V.1 vwCl [(z 15, aI V 900 f_3), (z 16, aI V 6 f_4), (z 0, .inr (10, mo z pz0_0 pz0_5 pz0_6 pz0_7 pz0_8 pz0_9 pz0_10 pz0_11 pz0_12 pz0_13 pz0_14 pz0_18 pz0_19 pz0_22 pz0_23 pz0_29)), (z 1, aI V 3075 fz1), (z 38, aI V 4 fz38), (z 39, aJ V 160 fz39)] H ∧ va_D A [(z 15, aI V 900 f_3), (z 16, aI V 6 f_4), (z 0, .inr (10, mo z pz0_0 pz0_5 pz0_6 pz0_7 pz0_8 pz0_9 pz0_10 pz0_11 pz0_12 pz0_13 pz0_14 pz0_18 pz0_19 pz0_22 pz0_23 pz0_29)), (z 1, aI V 3075 fz1), (z 38, aI V 4 fz38), (z 39, aJ V 160 fz39)] ∧ va_S A s.heap H locs ∧ lv_has ls 8 [(4, .int u_1), (3, .int u_2), (0, .ref (z 0)), (1, .int a1), (2, .int a2)]) (g := fun ls => F0 m 5 ls []) (fun n_5 H locs ls hX ihn_5 => ?_) _ ⟨0, 0, fz15, fz16, (iv_c (0 : Int32) (by decide)), tfz16, hf0, rfl, hP, hD, hS, lv_sub hl [0, 1, 2, 3, 4] rfl⟩
  obtain ⟨u_1, u_2, f_3, f_4, bu_1, tf_4, inn_5_0, en_5, hP, hD, hS, hl⟩ := hX
  refine lv_iload hx hb dX10_weathersOf_5 (lv_at hl 0 rfl) ?_
  refine lv_bipush (v := 10) hx hb dX10_weathersOf_7 (by decide) ?_
  refine lv_icmp_ge (tgt := 107) hx hb dX10_weathersOf_9 (by decide) (fun c_6 => ?_) (fun c_6 => ?_)
  · have b_7 : iv 10 2147483647 u_1 := iv_e2 c_6 (iv_c (10 : Int32) (a := 10) (b := 10) (by decide)) bu_1 (by decide)
    refine lv_iload_n hx hb dX10_weathersOf_107 rfl (lv_at hl 1 rfl) ?_
    exact fiI hx hb hr hlk hK hP hD hS dX10_weathersOf_108 (Nat.le_of_ble_eq_true rfl) (Nat.le_of_ble_eq_true rfl) (⟨f_3, f_4, tf_4, inn_5_0, rfl⟩)
  · have b_8 : iv 0 9 u_1 := iv_l1 (Int32.not_le.mp c_6) bu_1 (iv_c (10 : Int32) (a := 10) (b := 10) (by decide)) (by decide)
    refine lv_aload_n hx hb dX10_weathersOf_12 rfl (lv_at hl 2 rfl) ?_
    refine jnI (wr := [(z 15, aI V 900 f_3), (z 16, aI V 6 f_4), (z 38, aI V 4 fz38), (z 39, aJ V 160 fz39)]) (rnV (rest := []) ⟨hx, hb, hml, hown, hg⟩ (k_X10_standNow_0 l V z pz0_0 pz0_5 pz0_6 pz0_7 pz0_8 pz0_9 pz0_10 pz0_11 pz0_12 pz0_13 pz0_14 pz0_18 pz0_19 pz0_22 pz0_23 pz0_29 fz1 bpz0_5 bpz0_6 bpz0_7 bpz0_8 bpz0_10 bpz0_11 bpz0_12 bpz0_13 bpz0_14 bpz0_18 bpz0_22 bpz0_29 tfz1) mt_X10_standNow q_7_11 ⟨Nat.le_of_ble_eq_true rfl, Nat.le_of_ble_eq_true rfl⟩ hK hP hD hS hA hE [2, 3] rfl rfl 2 rfl rfl rfl rfl hl.1 rfl (Nat.le_of_ble_eq_true rfl) dX10_weathersOf_13 ⟨Nat.le_of_ble_eq_true rfl, Nat.le_of_ble_eq_true rfl⟩) hP hD hS hA [2, 3] [0, 1, 4, 5] rfl rfl rfl (by decide) (fun r_9 w H locs hw hP hD hS => ?_)
    obtain ⟨br_9, er_9, rfl⟩ := hw
    have hP : va_P V.1 vwCl [(z 15, aI V 900 f_3), (z 16, aI V 6 f_4), (z 38, aI V 4 fz38), (z 39, aJ V 160 fz39), (z 0, .inr (10, mo z pz0_0 pz0_5 pz0_6 pz0_7 pz0_8 pz0_9 pz0_10 pz0_11 pz0_12 pz0_13 pz0_14 pz0_18 pz0_19 pz0_22 pz0_23 pz0_29)), (z 1, aI V 3075 fz1)] H := hP
    have hD : va_D A [(z 15, aI V 900 f_3), (z 16, aI V 6 f_4), (z 38, aI V 4 fz38), (z 39, aJ V 160 fz39), (z 0, .inr (10, mo z pz0_0 pz0_5 pz0_6 pz0_7 pz0_8 pz0_9 pz0_10 pz0_11 pz0_12 pz0_13 pz0_14 pz0_18 pz0_19 pz0_22 pz0_23 pz0_29)), (z 1, aI V 3075 fz1)] := hD
    refine lv_istore (lv' := [(5, .int r_9), (4, .int u_1), (3, .int u_2), (0, .ref (z 0)), (1, .int a1), (2, .int a2)]) hx hb dX10_weathersOf_16 hl (by decide) rfl (fun ls hl => ?_)
    refine lv_iconst (v := 1) hx hb dX10_weathersOf_18 (by decide) ?_
    refine lv_istore (lv' := [(6, .int 1), (5, .int r_9), (4, .int u_1), (3, .int u_2), (0, .ref (z 0)), (1, .int a1), (2, .int a2)]) hx hb dX10_weathersOf_19 hl (by decide) rfl (fun ls hl => ?_)
    refine lv_iconst (v := 0) hx hb dX10_weathersOf_21 (by decide) ?_
    refine lv_istore (lv' := [(7, .int 0), (6, .int 1), (5, .int r_9), (4, .int u_1), (3, .int u_2), (0, .ref (z 0)), (1, .int a1), (2, .int a2)]) hx hb dX10_weathersOf_22 hl (by decide) rfl (fun ls hl => ?_)
    refine loopF (X := fun (n_15 : Nat) (H : Heap) (locs : List Loc) (ls : Array Slot) => ∃ (u_10 : Int32) (u_11 : Int32) (u_12 : Int32) (f_13 : Nat → Int32) (f_14 : Nat → Int32), (iv 0 2147483647 u_10) ∧ (iv 0 9999 u_12) ∧ (ivT tW f_14) ∧ (RW fz1) ∧ n_15 = (2147483647 - (u_10 : Int32).toInt).toNat ∧ va_P V.1 vwCl [(z 15, aI V 900 f_13), (z 16, aI V 6 f_14), (z 38, aI V 4 fz38), (z 39, aJ V 160 fz39), (z 0, .inr (10, mo z pz0_0 pz0_5 pz0_6 pz0_7 pz0_8 pz0_9 pz0_10 pz0_11 pz0_12 pz0_13 pz0_14 pz0_18 pz0_19 pz0_22 pz0_23 pz0_29)), (z 1, aI V 3075 fz1)] H ∧ va_D A [(z 15, aI V 900 f_13), (z 16, aI V 6 f_14), (z 38, aI V 4 fz38), (z 39, aJ V 160 fz39), (z 0, .inr (10, mo z pz0_0 pz0_5 pz0_6 pz0_7 pz0_8 pz0_9 pz0_10 pz0_11 pz0_12 pz0_13 pz0_14 pz0_18 pz0_19 pz0_22 pz0_23 pz0_29)), (z 1, aI V 3075 fz1)] ∧ va_S A s.heap H locs ∧ lv_has ls 8 [(7, .int u_10), (6, .int u_11), (5, .int u_12), (4, .int u_1), (3, .int u_2), (0, .ref (z 0)), (1, .int a1), (2, .int a2)]) (g := fun ls => F0 m 24 ls []) (fun n_15 H locs ls hX ihn_15 => ?_) _ ⟨0, 1, r_9, f_3, f_4, (iv_c (0 : Int32) (by decide)), br_9, tf_4, inn_5_0, rfl, hP, hD, hS, lv_sub hl [0, 1, 2, 3, 4, 5, 6, 7] rfl⟩
    obtain ⟨u_10, u_11, u_12, f_13, f_14, bu_10, bu_12, tf_14, inn_15_0, en_15, hP, hD, hS, hl⟩ := hX
    refine lv_iload hx hb dX10_weathersOf_24 (lv_at hl 0 rfl) ?_
    refine lv_aload_n hx hb dX10_weathersOf_26 rfl (lv_at hl 5 rfl) ?_
    refine va_get (ci := 10) (v := .ref (z 38)) (C := RX10) (T := TX10) (N := 40) hx hb hg inX10 hown hK hP 4 rfl rfl 38 (by decide) (hg _ q_6_22) (fun _ h9 => h9) rfl dX10_weathersOf_27 ?_
    refine lv_iload_n hx hb dX10_weathersOf_30 rfl (lv_at hl 6 rfl) ?_
    refine va_iald hx hb hK hP 2 0 rfl rfl (iv_in ba1 (by decide)) dX10_weathersOf_31 ?_
    refine lv_topi (fun x_16 ex_16 => ?_)
    have bx_16 : iv 0 40 x_16 := by rw [ex_16]; exact tfz38 _
    refine lv_icmp_ge (tgt := 85) hx hb dX10_weathersOf_32 (by decide) (fun c_17 => ?_) (fun c_17 => ?_)
    · refine lv_iload_n hx hb dX10_weathersOf_85 rfl (lv_at hl 4 rfl) ?_
      refine lv_iload hx hb dX10_weathersOf_86 (lv_at hl 1 rfl) ?_
      refine lv_if_eq (tgt := 98) hx hb dX10_weathersOf_88 (by decide) (fun c_18 => ?_) (fun c_18 => ?_)
      · have b_19 : iv 0 0 u_11 := iv_q c_18 (iv_c (0 : Int32) (a := 0) (b := 0) (by decide))
        refine lv_iconst (v := 0) hx hb dX10_weathersOf_98 (by decide) ?_
        refine lv_ior hx hb dX10_weathersOf_99 ?_
        refine lv_topi (fun x_20 ex_20 => ?_)
        refine lv_istore_n (lv' := [(3, .int x_20), (7, .int u_10), (6, .int u_11), (5, .int u_12), (4, .int u_1), (0, .ref (z 0)), (1, .int a1), (2, .int a2)]) hx hb dX10_weathersOf_100 rfl hl (by decide) rfl (fun ls hl => ?_)
        obtain ⟨x_21, ex_21⟩ : ∃ z9 : Int32, z9 = u_1 + 1 := ⟨_, rfl⟩
        have bx_21 : iv 1 10 x_21 := by rw [ex_21]; exact iv_add b_8 (iv_c (1 : Int32) (a := 1) (b := 1) (by decide)) (by decide)
        refine lv_iinc (v := x_21) (lv' := [(4, .int x_21), (3, .int x_20), (7, .int u_10), (6, .int u_11), (5, .int u_12), (0, .ref (z 0)), (1, .int a1), (2, .int a2)]) hx hb dX10_weathersOf_101 hl (k := 4) rfl (by rw [ex_21]; rfl) (by decide) rfl (fun ls hl => ?_)
        refine lv_goto (tgt := 5) hx hb dX10_weathersOf_104 (by decide) ?_
        have hP := subP (ws' := [(z 15, aI V 900 f_13), (z 16, aI V 6 f_14), (z 0, .inr (10, mo z pz0_0 pz0_5 pz0_6 pz0_7 pz0_8 pz0_9 pz0_10 pz0_11 pz0_12 pz0_13 pz0_14 pz0_18 pz0_19 pz0_22 pz0_23 pz0_29)), (z 1, aI V 3075 fz1), (z 38, aI V 4 fz38), (z 39, aJ V 160 fz39)]) hP [0, 1, 4, 5, 2, 3] rfl
        have hD := hD.sub (ws' := [(z 15, aI V 900 f_13), (z 16, aI V 6 f_14), (z 0, .inr (10, mo z pz0_0 pz0_5 pz0_6 pz0_7 pz0_8 pz0_9 pz0_10 pz0_11 pz0_12 pz0_13 pz0_14 pz0_18 pz0_19 pz0_22 pz0_23 pz0_29)), (z 1, aI V 3075 fz1), (z 38, aI V 4 fz38), (z 39, aJ V 160 fz39)]) [0, 1, 4, 5, 2, 3] rfl rfl
        exact ihn_5 _ _ _ _ (by rw [en_5, ex_21]; exact mu_up b_8 (by decide)) ⟨x_21, x_20, f_13, f_14, (iv_w bx_21 (by decide)), tf_14, inn_15_0, rfl, hP, hD, hS, lv_sub hl [0, 1, 5, 6, 7] rfl⟩
      · refine lv_iconst (v := 1) hx hb dX10_weathersOf_91 (by decide) ?_
        refine lv_iload hx hb dX10_weathersOf_92 (lv_at hl 3 rfl) ?_
        refine lv_ishl hx hb dX10_weathersOf_94 ?_
        refine lv_topi (fun x_22 ex_22 => ?_)
        refine lv_goto (tgt := 99) hx hb dX10_weathersOf_95 (by decide) ?_
        refine lv_ior hx hb dX10_weathersOf_99 ?_
        refine lv_topi (fun x_23 ex_23 => ?_)
        refine lv_istore_n (lv' := [(3, .int x_23), (7, .int u_10), (6, .int u_11), (5, .int u_12), (4, .int u_1), (0, .ref (z 0)), (1, .int a1), (2, .int a2)]) hx hb dX10_weathersOf_100 rfl hl (by decide) rfl (fun ls hl => ?_)
        obtain ⟨x_24, ex_24⟩ : ∃ z9 : Int32, z9 = u_1 + 1 := ⟨_, rfl⟩
        have bx_24 : iv 1 10 x_24 := by rw [ex_24]; exact iv_add b_8 (iv_c (1 : Int32) (a := 1) (b := 1) (by decide)) (by decide)
        refine lv_iinc (v := x_24) (lv' := [(4, .int x_24), (3, .int x_23), (7, .int u_10), (6, .int u_11), (5, .int u_12), (0, .ref (z 0)), (1, .int a1), (2, .int a2)]) hx hb dX10_weathersOf_101 hl (k := 4) rfl (by rw [ex_24]; rfl) (by decide) rfl (fun ls hl => ?_)
        refine lv_goto (tgt := 5) hx hb dX10_weathersOf_104 (by decide) ?_
        have hP := subP (ws' := [(z 15, aI V 900 f_13), (z 16, aI V 6 f_14), (z 0, .inr (10, mo z pz0_0 pz0_5 pz0_6 pz0_7 pz0_8 pz0_9 pz0_10 pz0_11 pz0_12 pz0_13 pz0_14 pz0_18 pz0_19 pz0_22 pz0_23 pz0_29)), (z 1, aI V 3075 fz1), (z 38, aI V 4 fz38), (z 39, aJ V 160 fz39)]) hP [0, 1, 4, 5, 2, 3] rfl
        have hD := hD.sub (ws' := [(z 15, aI V 900 f_13), (z 16, aI V 6 f_14), (z 0, .inr (10, mo z pz0_0 pz0_5 pz0_6 pz0_7 pz0_8 pz0_9 pz0_10 pz0_11 pz0_12 pz0_13 pz0_14 pz0_18 pz0_19 pz0_22 pz0_23 pz0_29)), (z 1, aI V 3075 fz1), (z 38, aI V 4 fz38), (z 39, aJ V 160 fz39)]) [0, 1, 4, 5, 2, 3] rfl rfl
        exact ihn_5 _ _ _ _ (by rw [en_5, ex_24]; exact mu_up b_8 (by decide)) ⟨x_24, x_23, f_13, f_14, (iv_w bx_24 (by decide)), tf_14, inn_15_0, rfl, hP, hD, hS, lv_sub hl [0, 1, 5, 6, 7] rfl⟩
    · have b_25 : iv 0 39 u_10 := iv_l1 (Int32.not_le.mp c_17) bu_10 bx_16 (by decide)
      have b_26 : iv 1 40 x_16 := iv_l2 (Int32.not_le.mp c_17) bu_10 bx_16 (by decide)
      refine lv_aload_n hx hb dX10_weathersOf_35 rfl (lv_at hl 5 rfl) ?_
      refine lv_iload hx hb dX10_weathersOf_36 (lv_at hl 2 rfl) ?_
      refine lv_iconst (v := 0) hx hb dX10_weathersOf_38 (by decide) ?_
      refine lv_iload hx hb dX10_weathersOf_39 (lv_at hl 3 rfl) ?_
      refine jnI (wr := [(z 38, aI V 4 fz38), (z 39, aJ V 160 fz39)]) (rnV (rest := []) ⟨hx, hb, hml, hown, hg⟩ (k_X10_nightTo_0 l V z u_12 0 u_1 f_13 f_14 pz0_0 pz0_5 pz0_6 pz0_7 pz0_8 pz0_9 pz0_10 pz0_11 pz0_12 pz0_13 pz0_14 pz0_18 pz0_19 pz0_22 pz0_23 pz0_29 fz1 bu_12 tf_14 bpz0_5 bpz0_6 bpz0_7 bpz0_8 bpz0_10 bpz0_11 bpz0_12 bpz0_13 bpz0_14 bpz0_18 bpz0_22 bpz0_29 tfz1 inn_15_0) mt_X10_nightTo q_7_18 ⟨Nat.le_of_ble_eq_true rfl, Nat.le_of_ble_eq_true rfl⟩ hK hP hD hS hA hE [0, 1, 4, 5] rfl rfl 4 rfl rfl rfl rfl hl.1 rfl (Nat.le_of_ble_eq_true rfl) dX10_weathersOf_41 ⟨Nat.le_of_ble_eq_true rfl, Nat.le_of_ble_eq_true rfl⟩) hP hD hS hA [0, 1, 4, 5] [2, 3] rfl rfl rfl (by decide) (fun r_27 w H locs hw hP hD hS => ?_)
      obtain ⟨f_28, f_29, tf_29, br_27, g_30, rfl⟩ := hw
      have hP : va_P V.1 vwCl [(z 38, aI V 4 fz38), (z 39, aJ V 160 fz39), (z 15, aI V 900 f_28), (z 16, aI V 6 f_29), (z 0, .inr (10, mo z pz0_0 pz0_5 pz0_6 pz0_7 pz0_8 pz0_9 pz0_10 pz0_11 pz0_12 pz0_13 pz0_14 pz0_18 pz0_19 pz0_22 pz0_23 pz0_29)), (z 1, aI V 3075 fz1)] H := hP
      have hD : va_D A [(z 38, aI V 4 fz38), (z 39, aJ V 160 fz39), (z 15, aI V 900 f_28), (z 16, aI V 6 f_29), (z 0, .inr (10, mo z pz0_0 pz0_5 pz0_6 pz0_7 pz0_8 pz0_9 pz0_10 pz0_11 pz0_12 pz0_13 pz0_14 pz0_18 pz0_19 pz0_22 pz0_23 pz0_29)), (z 1, aI V 3075 fz1)] := hD
      refine lv_istore (lv' := [(5, .int r_27), (7, .int u_10), (6, .int u_11), (4, .int u_1), (3, .int u_2), (0, .ref (z 0)), (1, .int a1), (2, .int a2)]) hx hb dX10_weathersOf_44 hl (by decide) rfl (fun ls hl => ?_)
      refine lv_iload hx hb dX10_weathersOf_46 (lv_at hl 2 rfl) ?_
      refine lv_iload hx hb dX10_weathersOf_48 (lv_at hl 0 rfl) ?_
      refine lv_iload_n hx hb dX10_weathersOf_50 rfl (lv_at hl 7 rfl) ?_
      refine jnI (wr := [(z 38, aI V 4 fz38), (z 39, aJ V 160 fz39), (z 15, aI V 900 f_28), (z 16, aI V 6 f_29), (z 0, .inr (10, mo z pz0_0 pz0_5 pz0_6 pz0_7 pz0_8 pz0_9 pz0_10 pz0_11 pz0_12 pz0_13 pz0_14 pz0_18 pz0_19 pz0_22 pz0_23 pz0_29)), (z 1, aI V 3075 fz1)]) (rnS (rest := [.int u_11]) ⟨hx, hb, hml, hown, hg⟩ (k_X10_stackIn_0 l V r_27 a2 (iv_w br_27 (by decide)) ba2) mt_X10_stackIn q_7_26 ⟨Nat.le_of_ble_eq_true rfl, Nat.le_of_ble_eq_true rfl⟩ hK hP hD hS hA hE [] rfl rfl rfl hl.1 rfl (Nat.le_of_ble_eq_true rfl) dX10_weathersOf_51 ⟨Nat.le_of_ble_eq_true rfl, Nat.le_of_ble_eq_true rfl⟩) hP hD hS hA [] [0, 1, 2, 3, 4, 5] rfl rfl rfl (by decide) (fun r_31 w H locs hw hP hD hS => ?_)
      obtain ⟨br_31, er_31, rfl⟩ := hw
      have hP : va_P V.1 vwCl [(z 38, aI V 4 fz38), (z 39, aJ V 160 fz39), (z 15, aI V 900 f_28), (z 16, aI V 6 f_29), (z 0, .inr (10, mo z pz0_0 pz0_5 pz0_6 pz0_7 pz0_8 pz0_9 pz0_10 pz0_11 pz0_12 pz0_13 pz0_14 pz0_18 pz0_19 pz0_22 pz0_23 pz0_29)), (z 1, aI V 3075 fz1)] H := hP
      have hD : va_D A [(z 38, aI V 4 fz38), (z 39, aJ V 160 fz39), (z 15, aI V 900 f_28), (z 16, aI V 6 f_29), (z 0, .inr (10, mo z pz0_0 pz0_5 pz0_6 pz0_7 pz0_8 pz0_9 pz0_10 pz0_11 pz0_12 pz0_13 pz0_14 pz0_18 pz0_19 pz0_22 pz0_23 pz0_29)), (z 1, aI V 3075 fz1)] := hD
      refine lv_i2l hx hb dX10_weathersOf_54 rfl ?_
      refine lv_topl (fun j_32 ej_32 => ?_)
      have bj_32 : ivL 0 4 j_32 := by rw [ej_32]; exact ivL_of br_31
      refine lv_aload_n hx hb dX10_weathersOf_55 rfl (lv_at hl 5 rfl) ?_
      refine va_get (ci := 10) (v := .ref (z 39)) (C := RX10) (T := TX10) (N := 40) hx hb hg inX10 hown hK hP 4 rfl rfl 39 (by decide) (hg _ q_6_23) (fun _ h9 => h9) rfl dX10_weathersOf_56 ?_
      refine lv_bipush (v := 40) hx hb dX10_weathersOf_59 (by decide) ?_
      refine lv_iload_n hx hb dX10_weathersOf_61 rfl (lv_at hl 6 rfl) ?_
      refine lv_imul hx hb dX10_weathersOf_62 ?_
      refine lv_topi (fun x_33 ex_33 => ?_)
      have bx_33 : iv 0 120 x_33 := by rw [ex_33]; exact iv_cmul (iv_c (40 : Int32) (a := 40) (b := 40) (by decide)) ba1 (by decide)
      refine lv_iload hx hb dX10_weathersOf_63 (lv_at hl 1 rfl) ?_
      refine lv_iadd hx hb dX10_weathersOf_65 ?_
      refine lv_topi (fun x_34 ex_34 => ?_)
      have bx_34 : iv 0 159 x_34 := by rw [ex_34]; exact iv_add bx_33 b_25 (by decide)
      refine va_lald hx hb hK hP 1 2 rfl rfl (iv_in bx_34 (by decide)) dX10_weathersOf_66 ?_
      refine lv_topl (fun j_35 ej_35 => ?_)
      refine W.lcmp hx hb dX10_weathersOf_67 ?_
      refine lv_if_ne (tgt := 75) hx hb dX10_weathersOf_68 (by decide) (fun c_36 => ?_) (fun c_36 => ?_)
      · replace c_36 : ¬ j_32 = j_35 := fun z => c_36 ((lg_cmp_eq _ _).mpr z)
        refine lv_iconst (v := 0) hx hb dX10_weathersOf_75 (by decide) ?_
        refine lv_iand hx hb dX10_weathersOf_76 ?_
        refine lv_topi (fun x_37 ex_37 => ?_)
        refine lv_istore (lv' := [(6, .int x_37), (5, .int r_27), (7, .int u_10), (4, .int u_1), (3, .int u_2), (0, .ref (z 0)), (1, .int a1), (2, .int a2)]) hx hb dX10_weathersOf_77 hl (by decide) rfl (fun ls hl => ?_)
        obtain ⟨x_38, ex_38⟩ : ∃ z9 : Int32, z9 = u_10 + 1 := ⟨_, rfl⟩
        have bx_38 : iv 1 40 x_38 := by rw [ex_38]; exact iv_add b_25 (iv_c (1 : Int32) (a := 1) (b := 1) (by decide)) (by decide)
        refine lv_iinc (v := x_38) (lv' := [(7, .int x_38), (6, .int x_37), (5, .int r_27), (4, .int u_1), (3, .int u_2), (0, .ref (z 0)), (1, .int a1), (2, .int a2)]) hx hb dX10_weathersOf_79 hl (k := 2) rfl (by rw [ex_38]; rfl) (by decide) rfl (fun ls hl => ?_)
        refine lv_goto (tgt := 24) hx hb dX10_weathersOf_82 (by decide) ?_
        have hP := subP (ws' := [(z 15, aI V 900 f_28), (z 16, aI V 6 f_29), (z 38, aI V 4 fz38), (z 39, aJ V 160 fz39), (z 0, .inr (10, mo z pz0_0 pz0_5 pz0_6 pz0_7 pz0_8 pz0_9 pz0_10 pz0_11 pz0_12 pz0_13 pz0_14 pz0_18 pz0_19 pz0_22 pz0_23 pz0_29)), (z 1, aI V 3075 fz1)]) hP [2, 3, 0, 1, 4, 5] rfl
        have hD := hD.sub (ws' := [(z 15, aI V 900 f_28), (z 16, aI V 6 f_29), (z 38, aI V 4 fz38), (z 39, aJ V 160 fz39), (z 0, .inr (10, mo z pz0_0 pz0_5 pz0_6 pz0_7 pz0_8 pz0_9 pz0_10 pz0_11 pz0_12 pz0_13 pz0_14 pz0_18 pz0_19 pz0_22 pz0_23 pz0_29)), (z 1, aI V 3075 fz1)]) [2, 3, 0, 1, 4, 5] rfl rfl
        exact ihn_15 _ _ _ _ (by rw [en_15, ex_38]; exact mu_up b_25 (by decide)) ⟨x_38, x_37, r_27, f_28, f_29, (iv_w bx_38 (by decide)), (iv_w br_27 (by decide)), tf_29, g_30, rfl, hP, hD, hS, lv_sub hl [0, 1, 2, 3, 4, 5, 6, 7] rfl⟩
      · replace c_36 : j_32 = j_35 := (lg_cmp_eq _ _).mp c_36
        have b_39 : ivL 0 4 j_35 := ivL_q c_36.symm bj_32
        refine lv_iconst (v := 1) hx hb dX10_weathersOf_71 (by decide) ?_
        refine lv_goto (tgt := 76) hx hb dX10_weathersOf_72 (by decide) ?_
        refine lv_iand hx hb dX10_weathersOf_76 ?_
        refine lv_topi (fun x_40 ex_40 => ?_)
        have bx_40 : iv 0 1 x_40 := by rw [ex_40]; exact iv_and1 _
        refine lv_istore (lv' := [(6, .int x_40), (5, .int r_27), (7, .int u_10), (4, .int u_1), (3, .int u_2), (0, .ref (z 0)), (1, .int a1), (2, .int a2)]) hx hb dX10_weathersOf_77 hl (by decide) rfl (fun ls hl => ?_)
        obtain ⟨x_41, ex_41⟩ : ∃ z9 : Int32, z9 = u_10 + 1 := ⟨_, rfl⟩
        have bx_41 : iv 1 40 x_41 := by rw [ex_41]; exact iv_add b_25 (iv_c (1 : Int32) (a := 1) (b := 1) (by decide)) (by decide)
        refine lv_iinc (v := x_41) (lv' := [(7, .int x_41), (6, .int x_40), (5, .int r_27), (4, .int u_1), (3, .int u_2), (0, .ref (z 0)), (1, .int a1), (2, .int a2)]) hx hb dX10_weathersOf_79 hl (k := 2) rfl (by rw [ex_41]; rfl) (by decide) rfl (fun ls hl => ?_)
        refine lv_goto (tgt := 24) hx hb dX10_weathersOf_82 (by decide) ?_
        have hP := subP (ws' := [(z 15, aI V 900 f_28), (z 16, aI V 6 f_29), (z 38, aI V 4 fz38), (z 39, aJ V 160 fz39), (z 0, .inr (10, mo z pz0_0 pz0_5 pz0_6 pz0_7 pz0_8 pz0_9 pz0_10 pz0_11 pz0_12 pz0_13 pz0_14 pz0_18 pz0_19 pz0_22 pz0_23 pz0_29)), (z 1, aI V 3075 fz1)]) hP [2, 3, 0, 1, 4, 5] rfl
        have hD := hD.sub (ws' := [(z 15, aI V 900 f_28), (z 16, aI V 6 f_29), (z 38, aI V 4 fz38), (z 39, aJ V 160 fz39), (z 0, .inr (10, mo z pz0_0 pz0_5 pz0_6 pz0_7 pz0_8 pz0_9 pz0_10 pz0_11 pz0_12 pz0_13 pz0_14 pz0_18 pz0_19 pz0_22 pz0_23 pz0_29)), (z 1, aI V 3075 fz1)]) [2, 3, 0, 1, 4, 5] rfl rfl
        exact ihn_15 _ _ _ _ (by rw [en_15, ex_41]; exact mu_up b_25 (by decide)) ⟨x_41, x_40, r_27, f_28, f_29, (iv_w bx_41 (by decide)), (iv_w br_27 (by decide)), tf_29, g_30, rfl, hP, hD, hS, lv_sub hl [0, 1, 2, 3, 4, 5, 6, 7] rfl⟩
theorem dX10_weathers_0 : decode cX10_weathers 0 = .ok (.aload_n 0, 1) := by decide +kernel
theorem dX10_weathers_1 : decode cX10_weathers 1 = .ok (.iconst 0, 1) := by decide +kernel
theorem dX10_weathers_2 : decode cX10_weathers 2 = .ok (.putfield 1, 3) := by decide +kernel
theorem dX10_weathers_5 : decode cX10_weathers 5 = .ok (.aload_n 0, 1) := by decide +kernel
theorem dX10_weathers_6 : decode cX10_weathers 6 = .ok (.iload_n 1, 1) := by decide +kernel
theorem dX10_weathers_7 : decode cX10_weathers 7 = .ok (.iload_n 2, 1) := by decide +kernel
theorem dX10_weathers_8 : decode cX10_weathers 8 = .ok (.iconst 0, 1) := by decide +kernel
theorem dX10_weathers_9 : decode cX10_weathers 9 = .ok (.invokevirtual 425, 3) := by decide +kernel
theorem dX10_weathers_12 : decode cX10_weathers 12 = .ok (.istore_n 3, 1) := by decide +kernel
theorem dX10_weathers_13 : decode cX10_weathers 13 = .ok (.iload_n 3, 1) := by decide +kernel
theorem dX10_weathers_14 : decode cX10_weathers 14 = .ok (.ifCond .eq 7, 3) := by decide +kernel
theorem dX10_weathers_21 : decode cX10_weathers 21 = .ok (.aload_n 0, 1) := by decide +kernel
theorem dX10_weathers_22 : decode cX10_weathers 22 = .ok (.iload_n 1, 1) := by decide +kernel
theorem dX10_weathers_23 : decode cX10_weathers 23 = .ok (.iload_n 2, 1) := by decide +kernel
theorem q_8_80 : Cond.code yX10_weathersOf prog_12_method_113_code 8 (some FieldType.int) ∈ gw := gw_8 (i := 80) (rfl) rfl
theorem q_8_79 : Cond.instanceMethod yX10_weathersOf ∈ gw := gw_8 (i := 79) (by decide +kernel) rfl
theorem q_s_120 : Cond.selects "BeaconDelayModel" yX10_weathersOf yX10_weathersOf ∈ gw := gw_s (i := 120) (by decide +kernel) rfl
theorem mt_X10_weathersOf : MtV yX10_weathersOf cX10_weathersOf 8 (some .int) 2 := ⟨⟨q_8_80, q_1_9, by decide +kernel, by decide +kernel, by decide +kernel⟩, q_8_79, q_s_120⟩
theorem q_8_77 : Cond.methodLink "BeaconDelayModel" 432 yX10_weathersOf ∈ gw := gw_8 (i := 77) (by decide +kernel) rfl
theorem dX10_weathers_24 : decode cX10_weathers 24 = .ok (.invokevirtual 432, 3) := by decide +kernel
theorem dX10_weathers_27 : decode cX10_weathers 27 = .ok (.ireturn, 1) := by decide +kernel
theorem dX10_weathers_17 : decode cX10_weathers 17 = .ok (.iload_n 3, 1) := by decide +kernel
theorem dX10_weathers_18 : decode cX10_weathers 18 = .ok (.goto 9, 3) := by decide +kernel
set_option maxHeartbeats 4000000 in
set_option maxRecDepth 100000 in
theorem k_X10_weathers_0 (l : Launch) (V : GV) (z : Nat → Nat) (a1 : Int32) (a2 : Int32) (pz0_0 : Int32) (pz0_5 : Int32) (pz0_6 : Int32) (pz0_7 : Int32) (pz0_8 : Int32) (pz0_9 : Int32) (pz0_10 : Int32) (pz0_11 : Int32) (pz0_12 : Int32) (pz0_13 : Int32) (pz0_14 : Int32) (pz0_18 : Int32) (pz0_19 : Int32) (pz0_22 : Int32) (pz0_23 : Int32) (pz0_29 : Int32) (fz1 : Nat → Int32) (fz15 : Nat → Int32) (fz16 : Nat → Int32) (fz37 : Nat → Int32) (fz38 : Nat → Int32) (fz39 : Nat → Int64) (bpz0_5 : iv 0 900 pz0_5) (bpz0_6 : iv 0 900 pz0_6) (bpz0_7 : iv 0 900 pz0_7) (bpz0_8 : iv 0 900 pz0_8) (bpz0_10 : iv 0 999 pz0_10) (bpz0_11 : iv 0 4 pz0_11) (bpz0_12 : iv 0 900 pz0_12) (bpz0_13 : iv 0 4 pz0_13) (bpz0_14 : iv (-1) 900 pz0_14) (bpz0_18 : iv 0 2 pz0_18) (bpz0_22 : iv 0 9999 pz0_22) (bpz0_29 : iv 0 10000 pz0_29) (tfz1 : ivT tA fz1) (tfz16 : ivT tW fz16) (tfz37 : ∀ j, iv (-1) 3 (fz37 j)) (tfz38 : ∀ j, iv 0 40 (fz38 j)) (hf0 : RW fz1) : Ct l V yX10_weathers (.code yX10_weathers cX10_weathers 4 (some .int)) 6 [.ref (z 0), .int a1, .int a2] [(z 0, .inr (10, mo z pz0_0 pz0_5 pz0_6 pz0_7 pz0_8 pz0_9 pz0_10 pz0_11 pz0_12 pz0_13 pz0_14 pz0_18 pz0_19 pz0_22 pz0_23 pz0_29)), (z 1, aI V 3075 fz1), (z 15, aI V 900 fz15), (z 16, aI V 6 fz16), (z 37, aI V 4 fz37), (z 38, aI V 4 fz38), (z 39, aJ V 160 fz39)] 0 0 (QI V (fun (r : Int32) (w : va_W) => ∃ (v0 : Int32) (g1 : Nat → Int32) (g2 : Nat → Int32), (ivT tW g2) ∧ (RW fz1) ∧ w = [(z 0, .inr (10, mo z v0 pz0_5 pz0_6 pz0_7 pz0_8 pz0_9 pz0_10 pz0_11 pz0_12 pz0_13 pz0_14 pz0_18 pz0_19 pz0_22 pz0_23 pz0_29)), (z 1, aI V 3075 fz1), (z 15, aI V 900 g1), (z 16, aI V 6 g2), (z 37, aI V 4 fz37), (z 38, aI V 4 fz38), (z 39, aJ V 160 fz39)])) := by
  refine Ct.of (by decide) (Nat.le_of_ble_eq_true rfl) (fun p e s m below meth c A ls hx hb hr hml hown hlk hnm hg hP hK hD hE hA hS hl => ?_)
  have hl : lv_has ls 4 [(0, .ref (z 0)), (1, .int a1), (2, .int a2)] := hl
  refine lv_aload_n hx hb dX10_weathers_0 rfl (lv_at hl 0 rfl) ?_
  refine lv_iconst (v := 0) hx hb dX10_weathers_1 (by decide) ?_
  refine va_put (ci := 10) (v := .int 0) (ty := .int) (C := RX10) (T := TX10) (N := 40) hx hb hg inX10 tyX10 tyX10_ok nmX10 hown hK hP hD hS 0 rfl rfl 0 (by decide) (hg _ q_5_224) (fun _ h9 => h9) rfl (by decide +kernel) rfl rfl (Nat.le_of_ble_eq_true rfl) dX10_weathers_2 (fun H locs hP hD hS => ?_)
  have hP : va_P V.1 vwCl [(z 0, .inr (10, mo z 0 pz0_5 pz0_6 pz0_7 pz0_8 pz0_9 pz0_10 pz0_11 pz0_12 pz0_13 pz0_14 pz0_18 pz0_19 pz0_22 pz0_23 pz0_29)), (z 1, aI V 3075 fz1), (z 15, aI V 900 fz15), (z 16, aI V 6 fz16), (z 37, aI V 4 fz37), (z 38, aI V 4 fz38), (z 39, aJ V 160 fz39)] H := hP
  have hD : va_D A [(z 0, .inr (10, mo z 0 pz0_5 pz0_6 pz0_7 pz0_8 pz0_9 pz0_10 pz0_11 pz0_12 pz0_13 pz0_14 pz0_18 pz0_19 pz0_22 pz0_23 pz0_29)), (z 1, aI V 3075 fz1), (z 15, aI V 900 fz15), (z 16, aI V 6 fz16), (z 37, aI V 4 fz37), (z 38, aI V 4 fz38), (z 39, aJ V 160 fz39)] := hD
  refine lv_aload_n hx hb dX10_weathers_5 rfl (lv_at hl 0 rfl) ?_
  refine lv_iload_n hx hb dX10_weathers_6 rfl (lv_at hl 1 rfl) ?_
  refine lv_iload_n hx hb dX10_weathers_7 rfl (lv_at hl 2 rfl) ?_
  refine lv_iconst (v := 0) hx hb dX10_weathers_8 (by decide) ?_
  refine jnI (wr := [(z 15, aI V 900 fz15), (z 16, aI V 6 fz16)]) (rnV (rest := []) ⟨hx, hb, hml, hown, hg⟩ (k_X10_noTold_0 l V z a1 a2 0 0 pz0_5 pz0_6 pz0_7 pz0_8 pz0_9 pz0_10 pz0_11 pz0_12 pz0_13 pz0_14 pz0_18 pz0_19 pz0_22 pz0_23 pz0_29 fz1 fz37 fz38 fz39 bpz0_5 bpz0_6 bpz0_7 bpz0_8 bpz0_10 bpz0_11 bpz0_12 bpz0_13 bpz0_14 bpz0_18 bpz0_22 bpz0_29 tfz1 tfz37 tfz38) mt_X10_noTold q_8_51 ⟨Nat.le_of_ble_eq_true rfl, Nat.le_of_ble_eq_true rfl⟩ hK hP hD hS hA hE [0, 1, 4, 5, 6] rfl rfl 0 rfl rfl rfl rfl hl.1 rfl (Nat.le_of_ble_eq_true rfl) dX10_weathers_9 ⟨Nat.le_of_ble_eq_true rfl, Nat.le_of_ble_eq_true rfl⟩) hP hD hS hA [0, 1, 4, 5, 6] [2, 3] rfl rfl rfl (by decide) (fun r_1 w H locs hw hP hD hS => ?_)
  obtain ⟨br_1, g_2, g_3, g_4, rfl⟩ := hw
  have hP : va_P V.1 vwCl [(z 15, aI V 900 fz15), (z 16, aI V 6 fz16), (z 0, .inr (10, mo z 0 pz0_5 pz0_6 pz0_7 pz0_8 pz0_9 pz0_10 pz0_11 pz0_12 pz0_13 pz0_14 pz0_18 pz0_19 pz0_22 pz0_23 pz0_29)), (z 1, aI V 3075 fz1), (z 37, aI V 4 fz37), (z 38, aI V 4 fz38), (z 39, aJ V 160 fz39)] H := hP
  have hD : va_D A [(z 15, aI V 900 fz15), (z 16, aI V 6 fz16), (z 0, .inr (10, mo z 0 pz0_5 pz0_6 pz0_7 pz0_8 pz0_9 pz0_10 pz0_11 pz0_12 pz0_13 pz0_14 pz0_18 pz0_19 pz0_22 pz0_23 pz0_29)), (z 1, aI V 3075 fz1), (z 37, aI V 4 fz37), (z 38, aI V 4 fz38), (z 39, aJ V 160 fz39)] := hD
  refine lv_istore_n (lv' := [(3, .int r_1), (0, .ref (z 0)), (1, .int a1), (2, .int a2)]) hx hb dX10_weathers_12 rfl hl (by decide) rfl (fun ls hl => ?_)
  refine lv_iload_n hx hb dX10_weathers_13 rfl (lv_at hl 0 rfl) ?_
  refine lv_if_eq (tgt := 21) hx hb dX10_weathers_14 (by decide) (fun c_5 => ?_) (fun c_5 => ?_)
  · have b_6 : iv 0 0 r_1 := iv_q c_5 (iv_c (0 : Int32) (a := 0) (b := 0) (by decide))
    have b_7 : iv 0 3 a1 := iv_cap (g_3 (iv_eqp b_6 (iv_c (0 : Int32) (by decide)))) (iv_top a1) (by decide)
    have b_8 : iv 0 3 a2 := iv_cap (g_4 (iv_eqp b_6 (iv_c (0 : Int32) (by decide)))) (iv_top a2) (by decide)
    refine lv_aload_n hx hb dX10_weathers_21 rfl (lv_at hl 1 rfl) ?_
    refine lv_iload_n hx hb dX10_weathers_22 rfl (lv_at hl 2 rfl) ?_
    refine lv_iload_n hx hb dX10_weathers_23 rfl (lv_at hl 3 rfl) ?_
    refine jnI (wr := [(z 37, aI V 4 fz37)]) (rnV (rest := []) ⟨hx, hb, hml, hown, hg⟩ (k_X10_weathersOf_0 l V z a1 a2 fz15 fz16 0 pz0_5 pz0_6 pz0_7 pz0_8 pz0_9 pz0_10 pz0_11 pz0_12 pz0_13 pz0_14 pz0_18 pz0_19 pz0_22 pz0_23 pz0_29 fz1 fz38 fz39 b_7 b_8 tfz16 bpz0_5 bpz0_6 bpz0_7 bpz0_8 bpz0_10 bpz0_11 bpz0_12 bpz0_13 bpz0_14 bpz0_18 bpz0_22 bpz0_29 tfz1 tfz38 hf0) mt_X10_weathersOf q_8_77 ⟨Nat.le_of_ble_eq_true rfl, Nat.le_of_ble_eq_true rfl⟩ hK hP hD hS hA hE [0, 1, 2, 3, 5, 6] rfl rfl 2 rfl rfl rfl rfl hl.1 rfl (Nat.le_of_ble_eq_true rfl) dX10_weathers_24 ⟨Nat.le_of_ble_eq_true rfl, Nat.le_of_ble_eq_true rfl⟩) hP hD hS hA [0, 1, 2, 3, 5, 6] [4] rfl rfl rfl (by decide) (fun r_9 w H locs hw hP hD hS => ?_)
    obtain ⟨f_10, f_11, tf_11, g_12, rfl⟩ := hw
    have hP : va_P V.1 vwCl [(z 37, aI V 4 fz37), (z 15, aI V 900 f_10), (z 16, aI V 6 f_11), (z 0, .inr (10, mo z 0 pz0_5 pz0_6 pz0_7 pz0_8 pz0_9 pz0_10 pz0_11 pz0_12 pz0_13 pz0_14 pz0_18 pz0_19 pz0_22 pz0_23 pz0_29)), (z 1, aI V 3075 fz1), (z 38, aI V 4 fz38), (z 39, aJ V 160 fz39)] H := hP
    have hD : va_D A [(z 37, aI V 4 fz37), (z 15, aI V 900 f_10), (z 16, aI V 6 f_11), (z 0, .inr (10, mo z 0 pz0_5 pz0_6 pz0_7 pz0_8 pz0_9 pz0_10 pz0_11 pz0_12 pz0_13 pz0_14 pz0_18 pz0_19 pz0_22 pz0_23 pz0_29)), (z 1, aI V 3075 fz1), (z 38, aI V 4 fz38), (z 39, aJ V 160 fz39)] := hD
    have hP := subP (ws' := [(z 0, .inr (10, mo z 0 pz0_5 pz0_6 pz0_7 pz0_8 pz0_9 pz0_10 pz0_11 pz0_12 pz0_13 pz0_14 pz0_18 pz0_19 pz0_22 pz0_23 pz0_29)), (z 1, aI V 3075 fz1), (z 15, aI V 900 f_10), (z 16, aI V 6 f_11), (z 37, aI V 4 fz37), (z 38, aI V 4 fz38), (z 39, aJ V 160 fz39)]) hP [3, 4, 1, 2, 0, 5, 6] rfl
    have hD := hD.sub (ws' := [(z 0, .inr (10, mo z 0 pz0_5 pz0_6 pz0_7 pz0_8 pz0_9 pz0_10 pz0_11 pz0_12 pz0_13 pz0_14 pz0_18 pz0_19 pz0_22 pz0_23 pz0_29)), (z 1, aI V 3075 fz1), (z 15, aI V 900 f_10), (z 16, aI V 6 f_11), (z 37, aI V 4 fz37), (z 38, aI V 4 fz38), (z 39, aJ V 160 fz39)]) [3, 4, 1, 2, 0, 5, 6] rfl rfl
    exact fiI hx hb hr hlk hK hP hD hS dX10_weathers_27 (Nat.le_of_ble_eq_true rfl) (Nat.le_of_ble_eq_true rfl) (⟨0, f_10, f_11, tf_11, g_12, rfl⟩)
  · have b_13 : iv (-6) (-1) r_1 := iv_n1 c_5 br_1 (iv_c (0 : Int32) (a := 0) (b := 0) (by decide)) (by decide)
    refine lv_iload_n hx hb dX10_weathers_17 rfl (lv_at hl 0 rfl) ?_
    refine lv_goto (tgt := 27) hx hb dX10_weathers_18 (by decide) ?_
    have hP := subP (ws' := [(z 0, .inr (10, mo z 0 pz0_5 pz0_6 pz0_7 pz0_8 pz0_9 pz0_10 pz0_11 pz0_12 pz0_13 pz0_14 pz0_18 pz0_19 pz0_22 pz0_23 pz0_29)), (z 1, aI V 3075 fz1), (z 15, aI V 900 fz15), (z 16, aI V 6 fz16), (z 37, aI V 4 fz37), (z 38, aI V 4 fz38), (z 39, aJ V 160 fz39)]) hP [2, 3, 0, 1, 4, 5, 6] rfl
    have hD := hD.sub (ws' := [(z 0, .inr (10, mo z 0 pz0_5 pz0_6 pz0_7 pz0_8 pz0_9 pz0_10 pz0_11 pz0_12 pz0_13 pz0_14 pz0_18 pz0_19 pz0_22 pz0_23 pz0_29)), (z 1, aI V 3075 fz1), (z 15, aI V 900 fz15), (z 16, aI V 6 fz16), (z 37, aI V 4 fz37), (z 38, aI V 4 fz38), (z 39, aJ V 160 fz39)]) [2, 3, 0, 1, 4, 5, 6] rfl rfl
    exact fiI hx hb hr hlk hK hP hD hS dX10_weathers_27 (Nat.le_of_ble_eq_true rfl) (Nat.le_of_ble_eq_true rfl) (⟨0, fz15, fz16, tfz16, hf0, rfl⟩)
theorem dX10_mostAlike_0 : decode cX10_mostAlike 0 = .ok (.iconst 0, 1) := by decide +kernel
theorem dX10_mostAlike_1 : decode cX10_mostAlike 1 = .ok (.istore_n 3, 1) := by decide +kernel
theorem dX10_mostAlike_2 : decode cX10_mostAlike 2 = .ok (.iconst 0, 1) := by decide +kernel
theorem dX10_mostAlike_3 : decode cX10_mostAlike 3 = .ok (.istore 4, 2) := by decide +kernel
theorem dX10_mostAlike_5 : decode cX10_mostAlike 5 = .ok (.iload 4, 2) := by decide +kernel
theorem dX10_mostAlike_7 : decode cX10_mostAlike 7 = .ok (.bipush 10, 2) := by decide +kernel
theorem dX10_mostAlike_9 : decode cX10_mostAlike 9 = .ok (.if_icmp .ge 45, 3) := by decide +kernel
theorem dX10_mostAlike_54 : decode cX10_mostAlike 54 = .ok (.iconst 0, 1) := by decide +kernel
theorem dX10_mostAlike_55 : decode cX10_mostAlike 55 = .ok (.istore 4, 2) := by decide +kernel
theorem dX10_mostAlike_57 : decode cX10_mostAlike 57 = .ok (.iload 4, 2) := by decide +kernel
theorem dX10_mostAlike_59 : decode cX10_mostAlike 59 = .ok (.bipush 10, 2) := by decide +kernel
theorem dX10_mostAlike_61 : decode cX10_mostAlike 61 = .ok (.if_icmp .ge 79, 3) := by decide +kernel
theorem dX10_mostAlike_140 : decode cX10_mostAlike 140 = .ok (.iload_n 3, 1) := by decide +kernel
theorem dX10_mostAlike_141 : decode cX10_mostAlike 141 = .ok (.ireturn, 1) := by decide +kernel
theorem dX10_mostAlike_64 : decode cX10_mostAlike 64 = .ok (.iconst 0, 1) := by decide +kernel
theorem dX10_mostAlike_65 : decode cX10_mostAlike 65 = .ok (.istore 5, 2) := by decide +kernel
theorem dX10_mostAlike_67 : decode cX10_mostAlike 67 = .ok (.iconst 0, 1) := by decide +kernel
theorem dX10_mostAlike_68 : decode cX10_mostAlike 68 = .ok (.istore 6, 2) := by decide +kernel
theorem dX10_mostAlike_70 : decode cX10_mostAlike 70 = .ok (.iload 6, 2) := by decide +kernel
theorem dX10_mostAlike_72 : decode cX10_mostAlike 72 = .ok (.bipush 10, 2) := by decide +kernel
theorem dX10_mostAlike_74 : decode cX10_mostAlike 74 = .ok (.if_icmp .ge 47, 3) := by decide +kernel
theorem dX10_mostAlike_121 : decode cX10_mostAlike 121 = .ok (.iload 5, 2) := by decide +kernel
theorem dX10_mostAlike_123 : decode cX10_mostAlike 123 = .ok (.iload_n 3, 1) := by decide +kernel
theorem dX10_mostAlike_124 : decode cX10_mostAlike 124 = .ok (.if_icmp .le 8, 3) := by decide +kernel
theorem dX10_mostAlike_132 : decode cX10_mostAlike 132 = .ok (.iload_n 3, 1) := by decide +kernel
theorem dX10_mostAlike_133 : decode cX10_mostAlike 133 = .ok (.istore_n 3, 1) := by decide +kernel
theorem dX10_mostAlike_134 : decode cX10_mostAlike 134 = .ok (.iinc 4 1, 3) := by decide +kernel
theorem dX10_mostAlike_137 : decode cX10_mostAlike 137 = .ok (.goto (-80), 3) := by decide +kernel
theorem dX10_mostAlike_127 : decode cX10_mostAlike 127 = .ok (.iload 5, 2) := by decide +kernel
theorem dX10_mostAlike_129 : decode cX10_mostAlike 129 = .ok (.goto 4, 3) := by decide +kernel
theorem dX10_mostAlike_77 : decode cX10_mostAlike 77 = .ok (.iload 5, 2) := by decide +kernel
theorem dX10_mostAlike_79 : decode cX10_mostAlike 79 = .ok (.aload_n 0, 1) := by decide +kernel
theorem q_6_20 : Cond.fieldLink "BeaconDelayModel" 81 "BeaconDelayModel" "highBy1" "[I" ∈ gw := gw_6 (i := 20) (by decide +kernel) rfl
theorem dX10_mostAlike_80 : decode cX10_mostAlike 80 = .ok (.getfield 81, 3) := by decide +kernel
theorem dX10_mostAlike_83 : decode cX10_mostAlike 83 = .ok (.iload 4, 2) := by decide +kernel
theorem dX10_mostAlike_85 : decode cX10_mostAlike 85 = .ok (.iaload, 1) := by decide +kernel
theorem dX10_mostAlike_86 : decode cX10_mostAlike 86 = .ok (.iconst (-1), 1) := by decide +kernel
theorem dX10_mostAlike_87 : decode cX10_mostAlike 87 = .ok (.if_icmp .eq 24, 3) := by decide +kernel
theorem dX10_mostAlike_111 : decode cX10_mostAlike 111 = .ok (.iconst 0, 1) := by decide +kernel
theorem dX10_mostAlike_112 : decode cX10_mostAlike 112 = .ok (.iadd, 1) := by decide +kernel
theorem dX10_mostAlike_113 : decode cX10_mostAlike 113 = .ok (.istore 5, 2) := by decide +kernel
theorem dX10_mostAlike_115 : decode cX10_mostAlike 115 = .ok (.iinc 6 1, 3) := by decide +kernel
theorem dX10_mostAlike_118 : decode cX10_mostAlike 118 = .ok (.goto (-48), 3) := by decide +kernel
theorem dX10_mostAlike_90 : decode cX10_mostAlike 90 = .ok (.aload_n 0, 1) := by decide +kernel
theorem dX10_mostAlike_91 : decode cX10_mostAlike 91 = .ok (.getfield 81, 3) := by decide +kernel
theorem dX10_mostAlike_94 : decode cX10_mostAlike 94 = .ok (.iload 6, 2) := by decide +kernel
theorem dX10_mostAlike_96 : decode cX10_mostAlike 96 = .ok (.iaload, 1) := by decide +kernel
theorem dX10_mostAlike_97 : decode cX10_mostAlike 97 = .ok (.aload_n 0, 1) := by decide +kernel
theorem dX10_mostAlike_98 : decode cX10_mostAlike 98 = .ok (.getfield 81, 3) := by decide +kernel
theorem dX10_mostAlike_101 : decode cX10_mostAlike 101 = .ok (.iload 4, 2) := by decide +kernel
theorem dX10_mostAlike_103 : decode cX10_mostAlike 103 = .ok (.iaload, 1) := by decide +kernel
theorem dX10_mostAlike_104 : decode cX10_mostAlike 104 = .ok (.if_icmp .ne 7, 3) := by decide +kernel
theorem dX10_mostAlike_107 : decode cX10_mostAlike 107 = .ok (.iconst 1, 1) := by decide +kernel
theorem dX10_mostAlike_108 : decode cX10_mostAlike 108 = .ok (.goto 4, 3) := by decide +kernel
theorem dX10_mostAlike_12 : decode cX10_mostAlike 12 = .ok (.aload_n 0, 1) := by decide +kernel
theorem dX10_mostAlike_13 : decode cX10_mostAlike 13 = .ok (.getfield 81, 3) := by decide +kernel
theorem dX10_mostAlike_16 : decode cX10_mostAlike 16 = .ok (.iload 4, 2) := by decide +kernel
theorem dX10_mostAlike_18 : decode cX10_mostAlike 18 = .ok (.iload_n 2, 1) := by decide +kernel
theorem dX10_mostAlike_19 : decode cX10_mostAlike 19 = .ok (.i2l, 1) := by decide +kernel
theorem dX10_mostAlike_20 : decode cX10_mostAlike 20 = .ok (.iload 4, 2) := by decide +kernel
theorem dX10_mostAlike_22 : decode cX10_mostAlike 22 = .ok (.invokestatic 244, 3) := by decide +kernel
theorem dX10_mostAlike_25 : decode cX10_mostAlike 25 = .ok (.ifCond .eq 21, 3) := by decide +kernel
theorem dX10_mostAlike_46 : decode cX10_mostAlike 46 = .ok (.iconst (-1), 1) := by decide +kernel
theorem dX10_mostAlike_47 : decode cX10_mostAlike 47 = .ok (.iastore, 1) := by decide +kernel
theorem dX10_mostAlike_48 : decode cX10_mostAlike 48 = .ok (.iinc 4 1, 3) := by decide +kernel
theorem dX10_mostAlike_51 : decode cX10_mostAlike 51 = .ok (.goto (-46), 3) := by decide +kernel
theorem dX10_mostAlike_28 : decode cX10_mostAlike 28 = .ok (.aload_n 0, 1) := by decide +kernel
theorem dX10_mostAlike_29 : decode cX10_mostAlike 29 = .ok (.aload_n 0, 1) := by decide +kernel
theorem dX10_mostAlike_30 : decode cX10_mostAlike 30 = .ok (.invokevirtual 269, 3) := by decide +kernel
theorem dX10_mostAlike_33 : decode cX10_mostAlike 33 = .ok (.iload_n 1, 1) := by decide +kernel
theorem dX10_mostAlike_34 : decode cX10_mostAlike 34 = .ok (.iload 4, 2) := by decide +kernel
theorem dX10_mostAlike_36 : decode cX10_mostAlike 36 = .ok (.invokevirtual 272, 3) := by decide +kernel
theorem dX10_mostAlike_39 : decode cX10_mostAlike 39 = .ok (.sipush 625, 3) := by decide +kernel
theorem dX10_mostAlike_42 : decode cX10_mostAlike 42 = .ok (.irem, 1) := by decide +kernel
theorem dX10_mostAlike_43 : decode cX10_mostAlike 43 = .ok (.goto 4, 3) := by decide +kernel
set_option maxHeartbeats 4000000 in
set_option maxRecDepth 100000 in
theorem k_X10_mostAlike_0 (l : Launch) (V : GV) (z : Nat → Nat) (a1 : Int32) (a2 : Int32) (fz36 : Nat → Int32) (fz15 : Nat → Int32) (fz16 : Nat → Int32) (pz0_0 : Int32) (pz0_5 : Int32) (pz0_6 : Int32) (pz0_7 : Int32) (pz0_8 : Int32) (pz0_9 : Int32) (pz0_10 : Int32) (pz0_11 : Int32) (pz0_12 : Int32) (pz0_13 : Int32) (pz0_14 : Int32) (pz0_18 : Int32) (pz0_19 : Int32) (pz0_22 : Int32) (pz0_23 : Int32) (pz0_29 : Int32) (fz1 : Nat → Int32) (ba1 : iv 0 3 a1) (tfz16 : ivT tW fz16) (bpz0_5 : iv 0 900 pz0_5) (bpz0_6 : iv 0 900 pz0_6) (bpz0_7 : iv 0 900 pz0_7) (bpz0_8 : iv 0 900 pz0_8) (bpz0_10 : iv 0 999 pz0_10) (bpz0_11 : iv 0 4 pz0_11) (bpz0_12 : iv 0 900 pz0_12) (bpz0_13 : iv 0 4 pz0_13) (bpz0_14 : iv (-1) 900 pz0_14) (bpz0_18 : iv 0 2 pz0_18) (bpz0_22 : iv 0 9999 pz0_22) (bpz0_29 : iv 0 10000 pz0_29) (tfz1 : ivT tA fz1) (hf0 : RW fz1) : Ct l V yX10_mostAlike (.code yX10_mostAlike cX10_mostAlike 7 (some .int)) 5 [.ref (z 0), .int a1, .int a2] [(z 36, aI V 10 fz36), (z 15, aI V 900 fz15), (z 16, aI V 6 fz16), (z 0, .inr (10, mo z pz0_0 pz0_5 pz0_6 pz0_7 pz0_8 pz0_9 pz0_10 pz0_11 pz0_12 pz0_13 pz0_14 pz0_18 pz0_19 pz0_22 pz0_23 pz0_29)), (z 1, aI V 3075 fz1)] 0 0 (QI V (fun (r : Int32) (w : va_W) => ∃ (g0 : Nat → Int32) (g1 : Nat → Int32) (g2 : Nat → Int32), (ivT tW g2) ∧ (RW fz1) ∧ w = [(z 36, aI V 10 g0), (z 15, aI V 900 g1), (z 16, aI V 6 g2), (z 0, .inr (10, mo z pz0_0 pz0_5 pz0_6 pz0_7 pz0_8 pz0_9 pz0_10 pz0_11 pz0_12 pz0_13 pz0_14 pz0_18 pz0_19 pz0_22 pz0_23 pz0_29)), (z 1, aI V 3075 fz1)])) := by
  refine Ct.of (by decide) (Nat.le_of_ble_eq_true rfl) (fun p e s m below meth c A ls hx hb hr hml hown hlk hnm hg hP hK hD hE hA hS hl => ?_)
  have hl : lv_has ls 7 [(0, .ref (z 0)), (1, .int a1), (2, .int a2)] := hl
  refine lv_iconst (v := 0) hx hb dX10_mostAlike_0 (by decide) ?_
  refine lv_istore_n (lv' := [(3, .int 0), (0, .ref (z 0)), (1, .int a1), (2, .int a2)]) hx hb dX10_mostAlike_1 rfl hl (by decide) rfl (fun ls hl => ?_)
  refine lv_iconst (v := 0) hx hb dX10_mostAlike_2 (by decide) ?_
  refine lv_istore (lv' := [(4, .int 0), (3, .int 0), (0, .ref (z 0)), (1, .int a1), (2, .int a2)]) hx hb dX10_mostAlike_3 hl (by decide) rfl (fun ls hl => ?_)
  refine loopF (X := fun (n_5 : Nat) (H : Heap) (locs : List Loc) (ls : Array Slot) => ∃ (u_1 : Int32) (f_2 : Nat → Int32) (f_3 : Nat → Int32) (f_4 : Nat → Int32), (iv 0 2147483647 u_1) ∧ (ivT tW f_4) ∧ (RW fz1) ∧ n_5 = (2147483647 - (u_1 : Int32).toInt).toNat ∧ va_P V.1 vwCl [(z 36, aI V 10 f_2), (z 15, aI V 900 f_3), (z 16, aI V 6 f_4), (z 0, .inr (10, mo z pz0_0 pz0_5 pz0_6 pz0_7 pz0_8 pz0_9 pz0_10 pz0_11 pz0_12 pz0_13 pz0_14 pz0_18 pz0_19 pz0_22 pz0_23 pz0_29)), (z 1, aI V 3075 fz1)] H ∧ va_D A [(z 36, aI V 10 f_2), (z 15, aI V 900 f_3), (z 16, aI V 6 f_4), (z 0, .inr (10, mo z pz0_0 pz0_5 pz0_6 pz0_7 pz0_8 pz0_9 pz0_10 pz0_11 pz0_12 pz0_13 pz0_14 pz0_18 pz0_19 pz0_22 pz0_23 pz0_29)), (z 1, aI V 3075 fz1)] ∧ va_S A s.heap H locs ∧ lv_has ls 7 [(4, .int u_1), (3, .int 0), (0, .ref (z 0)), (1, .int a1), (2, .int a2)]) (g := fun ls => F0 m 5 ls []) (fun n_5 H locs ls hX ihn_5 => ?_) _ ⟨0, fz36, fz15, fz16, (iv_c (0 : Int32) (by decide)), tfz16, hf0, rfl, hP, hD, hS, lv_sub hl [0, 1, 2, 3, 4] rfl⟩
  obtain ⟨u_1, f_2, f_3, f_4, bu_1, tf_4, inn_5_0, en_5, hP, hD, hS, hl⟩ := hX
  refine lv_iload hx hb dX10_mostAlike_5 (lv_at hl 0 rfl) ?_
  refine lv_bipush (v := 10) hx hb dX10_mostAlike_7 (by decide) ?_
  refine lv_icmp_ge (tgt := 54) hx hb dX10_mostAlike_9 (by decide) (fun c_6 => ?_) (fun c_6 => ?_)
  · have b_7 : iv 10 2147483647 u_1 := iv_e2 c_6 (iv_c (10 : Int32) (a := 10) (b := 10) (by decide)) bu_1 (by decide)
    refine lv_iconst (v := 0) hx hb dX10_mostAlike_54 (by decide) ?_
    refine lv_istore (lv' := [(4, .int 0), (3, .int 0), (0, .ref (z 0)), (1, .int a1), (2, .int a2)]) hx hb dX10_mostAlike_55 hl (by decide) rfl (fun ls hl => ?_)
    refine loopF (X := fun (n_10 : Nat) (H : Heap) (locs : List Loc) (ls : Array Slot) => ∃ (u_8 : Int32) (u_9 : Int32), (iv 0 2147483647 u_8) ∧ (RW fz1) ∧ n_10 = (2147483647 - (u_8 : Int32).toInt).toNat ∧ va_P V.1 vwCl [(z 36, aI V 10 f_2), (z 15, aI V 900 f_3), (z 16, aI V 6 f_4), (z 0, .inr (10, mo z pz0_0 pz0_5 pz0_6 pz0_7 pz0_8 pz0_9 pz0_10 pz0_11 pz0_12 pz0_13 pz0_14 pz0_18 pz0_19 pz0_22 pz0_23 pz0_29)), (z 1, aI V 3075 fz1)] H ∧ va_D A [(z 36, aI V 10 f_2), (z 15, aI V 900 f_3), (z 16, aI V 6 f_4), (z 0, .inr (10, mo z pz0_0 pz0_5 pz0_6 pz0_7 pz0_8 pz0_9 pz0_10 pz0_11 pz0_12 pz0_13 pz0_14 pz0_18 pz0_19 pz0_22 pz0_23 pz0_29)), (z 1, aI V 3075 fz1)] ∧ va_S A s.heap H locs ∧ lv_has ls 7 [(4, .int u_8), (3, .int u_9), (0, .ref (z 0)), (1, .int a1), (2, .int a2)]) (g := fun ls => F0 m 57 ls []) (fun n_10 H locs ls hX ihn_10 => ?_) _ ⟨0, 0, (iv_c (0 : Int32) (by decide)), inn_5_0, rfl, hP, hD, hS, lv_sub hl [0, 1, 2, 3, 4] rfl⟩
    obtain ⟨u_8, u_9, bu_8, inn_10_0, en_10, hP, hD, hS, hl⟩ := hX
    refine lv_iload hx hb dX10_mostAlike_57 (lv_at hl 0 rfl) ?_
    refine lv_bipush (v := 10) hx hb dX10_mostAlike_59 (by decide) ?_
    refine lv_icmp_ge (tgt := 140) hx hb dX10_mostAlike_61 (by decide) (fun c_11 => ?_) (fun c_11 => ?_)
    · have b_12 : iv 10 2147483647 u_8 := iv_e2 c_11 (iv_c (10 : Int32) (a := 10) (b := 10) (by decide)) bu_8 (by decide)
      refine lv_iload_n hx hb dX10_mostAlike_140 rfl (lv_at hl 1 rfl) ?_
      exact fiI hx hb hr hlk hK hP hD hS dX10_mostAlike_141 (Nat.le_of_ble_eq_true rfl) (Nat.le_of_ble_eq_true rfl) (⟨f_2, f_3, f_4, tf_4, inn_10_0, rfl⟩)
    · have b_13 : iv 0 9 u_8 := iv_l1 (Int32.not_le.mp c_11) bu_8 (iv_c (10 : Int32) (a := 10) (b := 10) (by decide)) (by decide)
      refine lv_iconst (v := 0) hx hb dX10_mostAlike_64 (by decide) ?_
      refine lv_istore (lv' := [(5, .int 0), (4, .int u_8), (3, .int u_9), (0, .ref (z 0)), (1, .int a1), (2, .int a2)]) hx hb dX10_mostAlike_65 hl (by decide) rfl (fun ls hl => ?_)
      refine lv_iconst (v := 0) hx hb dX10_mostAlike_67 (by decide) ?_
      refine lv_istore (lv' := [(6, .int 0), (5, .int 0), (4, .int u_8), (3, .int u_9), (0, .ref (z 0)), (1, .int a1), (2, .int a2)]) hx hb dX10_mostAlike_68 hl (by decide) rfl (fun ls hl => ?_)
      refine loopF (X := fun (n_16 : Nat) (H : Heap) (locs : List Loc) (ls : Array Slot) => ∃ (u_14 : Int32) (u_15 : Int32), (iv 0 2147483647 u_14) ∧ (RW fz1) ∧ n_16 = (2147483647 - (u_14 : Int32).toInt).toNat ∧ va_P V.1 vwCl [(z 36, aI V 10 f_2), (z 15, aI V 900 f_3), (z 16, aI V 6 f_4), (z 0, .inr (10, mo z pz0_0 pz0_5 pz0_6 pz0_7 pz0_8 pz0_9 pz0_10 pz0_11 pz0_12 pz0_13 pz0_14 pz0_18 pz0_19 pz0_22 pz0_23 pz0_29)), (z 1, aI V 3075 fz1)] H ∧ va_D A [(z 36, aI V 10 f_2), (z 15, aI V 900 f_3), (z 16, aI V 6 f_4), (z 0, .inr (10, mo z pz0_0 pz0_5 pz0_6 pz0_7 pz0_8 pz0_9 pz0_10 pz0_11 pz0_12 pz0_13 pz0_14 pz0_18 pz0_19 pz0_22 pz0_23 pz0_29)), (z 1, aI V 3075 fz1)] ∧ va_S A s.heap H locs ∧ lv_has ls 7 [(6, .int u_14), (5, .int u_15), (4, .int u_8), (3, .int u_9), (0, .ref (z 0)), (1, .int a1), (2, .int a2)]) (g := fun ls => F0 m 70 ls []) (fun n_16 H locs ls hX ihn_16 => ?_) _ ⟨0, 0, (iv_c (0 : Int32) (by decide)), inn_10_0, rfl, hP, hD, hS, lv_sub hl [0, 1, 2, 3, 4, 5, 6] rfl⟩
      obtain ⟨u_14, u_15, bu_14, inn_16_0, en_16, hP, hD, hS, hl⟩ := hX
      refine lv_iload hx hb dX10_mostAlike_70 (lv_at hl 0 rfl) ?_
      refine lv_bipush (v := 10) hx hb dX10_mostAlike_72 (by decide) ?_
      refine lv_icmp_ge (tgt := 121) hx hb dX10_mostAlike_74 (by decide) (fun c_17 => ?_) (fun c_17 => ?_)
      · have b_18 : iv 10 2147483647 u_14 := iv_e2 c_17 (iv_c (10 : Int32) (a := 10) (b := 10) (by decide)) bu_14 (by decide)
        refine lv_iload hx hb dX10_mostAlike_121 (lv_at hl 1 rfl) ?_
        refine lv_iload_n hx hb dX10_mostAlike_123 rfl (lv_at hl 3 rfl) ?_
        refine lv_icmp_le (tgt := 132) hx hb dX10_mostAlike_124 (by decide) (fun c_19 => ?_) (fun c_19 => ?_)
        · refine lv_iload_n hx hb dX10_mostAlike_132 rfl (lv_at hl 3 rfl) ?_
          refine lv_istore_n (lv' := [(3, .int u_9), (6, .int u_14), (5, .int u_15), (4, .int u_8), (0, .ref (z 0)), (1, .int a1), (2, .int a2)]) hx hb dX10_mostAlike_133 rfl hl (by decide) rfl (fun ls hl => ?_)
          obtain ⟨x_20, ex_20⟩ : ∃ z9 : Int32, z9 = u_8 + 1 := ⟨_, rfl⟩
          have bx_20 : iv 1 10 x_20 := by rw [ex_20]; exact iv_add b_13 (iv_c (1 : Int32) (a := 1) (b := 1) (by decide)) (by decide)
          refine lv_iinc (v := x_20) (lv' := [(4, .int x_20), (3, .int u_9), (6, .int u_14), (5, .int u_15), (0, .ref (z 0)), (1, .int a1), (2, .int a2)]) hx hb dX10_mostAlike_134 hl (k := 3) rfl (by rw [ex_20]; rfl) (by decide) rfl (fun ls hl => ?_)
          refine lv_goto (tgt := 57) hx hb dX10_mostAlike_137 (by decide) ?_
          exact ihn_10 _ _ _ _ (by rw [en_10, ex_20]; exact mu_up b_13 (by decide)) ⟨x_20, u_9, (iv_w bx_20 (by decide)), inn_16_0, rfl, hP, hD, hS, lv_sub hl [0, 1, 4, 5, 6] rfl⟩
        · have b_21 : iv (-2147483648) 2147483646 u_9 := iv_l1 (Int32.not_le.mp c_19) (iv_top u_9) (iv_top u_15) (by decide)
          have b_22 : iv (-2147483647) 2147483647 u_15 := iv_l2 (Int32.not_le.mp c_19) (iv_top u_9) (iv_top u_15) (by decide)
          refine lv_iload hx hb dX10_mostAlike_127 (lv_at hl 1 rfl) ?_
          refine lv_goto (tgt := 133) hx hb dX10_mostAlike_129 (by decide) ?_
          refine lv_istore_n (lv' := [(3, .int u_15), (6, .int u_14), (5, .int u_15), (4, .int u_8), (0, .ref (z 0)), (1, .int a1), (2, .int a2)]) hx hb dX10_mostAlike_133 rfl hl (by decide) rfl (fun ls hl => ?_)
          obtain ⟨x_23, ex_23⟩ : ∃ z9 : Int32, z9 = u_8 + 1 := ⟨_, rfl⟩
          have bx_23 : iv 1 10 x_23 := by rw [ex_23]; exact iv_add b_13 (iv_c (1 : Int32) (a := 1) (b := 1) (by decide)) (by decide)
          refine lv_iinc (v := x_23) (lv' := [(4, .int x_23), (3, .int u_15), (6, .int u_14), (5, .int u_15), (0, .ref (z 0)), (1, .int a1), (2, .int a2)]) hx hb dX10_mostAlike_134 hl (k := 3) rfl (by rw [ex_23]; rfl) (by decide) rfl (fun ls hl => ?_)
          refine lv_goto (tgt := 57) hx hb dX10_mostAlike_137 (by decide) ?_
          exact ihn_10 _ _ _ _ (by rw [en_10, ex_23]; exact mu_up b_13 (by decide)) ⟨x_23, u_15, (iv_w bx_23 (by decide)), inn_16_0, rfl, hP, hD, hS, lv_sub hl [0, 1, 4, 5, 6] rfl⟩
      · have b_24 : iv 0 9 u_14 := iv_l1 (Int32.not_le.mp c_17) bu_14 (iv_c (10 : Int32) (a := 10) (b := 10) (by decide)) (by decide)
        refine lv_iload hx hb dX10_mostAlike_77 (lv_at hl 1 rfl) ?_
        refine lv_aload_n hx hb dX10_mostAlike_79 rfl (lv_at hl 4 rfl) ?_
        refine va_get (ci := 10) (v := .ref (z 36)) (C := RX10) (T := TX10) (N := 40) hx hb hg inX10 hown hK hP 3 rfl rfl 36 (by decide) (hg _ q_6_20) (fun _ h9 => h9) rfl dX10_mostAlike_80 ?_
        refine lv_iload hx hb dX10_mostAlike_83 (lv_at hl 2 rfl) ?_
        refine va_iald hx hb hK hP 0 0 rfl rfl (iv_in b_13 (by decide)) dX10_mostAlike_85 ?_
        refine lv_topi (fun x_25 ex_25 => ?_)
        refine lv_iconst (v := (-1)) hx hb dX10_mostAlike_86 (by decide) ?_
        refine lv_icmp_eq (tgt := 111) hx hb dX10_mostAlike_87 (by decide) (fun c_26 => ?_) (fun c_26 => ?_)
        · have b_27 : iv (-1) (-1) x_25 := iv_q c_26 (iv_c ((-1) : Int32) (a := (-1)) (b := (-1)) (by decide))
          refine lv_iconst (v := 0) hx hb dX10_mostAlike_111 (by decide) ?_
          refine lv_iadd hx hb dX10_mostAlike_112 ?_
          refine lv_topi (fun x_28 ex_28 => ?_)
          refine lv_istore (lv' := [(5, .int x_28), (6, .int u_14), (4, .int u_8), (3, .int u_9), (0, .ref (z 0)), (1, .int a1), (2, .int a2)]) hx hb dX10_mostAlike_113 hl (by decide) rfl (fun ls hl => ?_)
          obtain ⟨x_29, ex_29⟩ : ∃ z9 : Int32, z9 = u_14 + 1 := ⟨_, rfl⟩
          have bx_29 : iv 1 10 x_29 := by rw [ex_29]; exact iv_add b_24 (iv_c (1 : Int32) (a := 1) (b := 1) (by decide)) (by decide)
          refine lv_iinc (v := x_29) (lv' := [(6, .int x_29), (5, .int x_28), (4, .int u_8), (3, .int u_9), (0, .ref (z 0)), (1, .int a1), (2, .int a2)]) hx hb dX10_mostAlike_115 hl (k := 1) rfl (by rw [ex_29]; rfl) (by decide) rfl (fun ls hl => ?_)
          refine lv_goto (tgt := 70) hx hb dX10_mostAlike_118 (by decide) ?_
          exact ihn_16 _ _ _ _ (by rw [en_16, ex_29]; exact mu_up b_24 (by decide)) ⟨x_29, x_28, (iv_w bx_29 (by decide)), inn_16_0, rfl, hP, hD, hS, lv_sub hl [0, 1, 2, 3, 4, 5, 6] rfl⟩
        · refine lv_aload_n hx hb dX10_mostAlike_90 rfl (lv_at hl 4 rfl) ?_
          refine va_get (ci := 10) (v := .ref (z 36)) (C := RX10) (T := TX10) (N := 40) hx hb hg inX10 hown hK hP 3 rfl rfl 36 (by decide) (hg _ q_6_20) (fun _ h9 => h9) rfl dX10_mostAlike_91 ?_
          refine lv_iload hx hb dX10_mostAlike_94 (lv_at hl 0 rfl) ?_
          refine va_iald hx hb hK hP 0 0 rfl rfl (iv_in b_24 (by decide)) dX10_mostAlike_96 ?_
          refine lv_topi (fun x_30 ex_30 => ?_)
          refine lv_aload_n hx hb dX10_mostAlike_97 rfl (lv_at hl 4 rfl) ?_
          refine va_get (ci := 10) (v := .ref (z 36)) (C := RX10) (T := TX10) (N := 40) hx hb hg inX10 hown hK hP 3 rfl rfl 36 (by decide) (hg _ q_6_20) (fun _ h9 => h9) rfl dX10_mostAlike_98 ?_
          refine lv_iload hx hb dX10_mostAlike_101 (lv_at hl 2 rfl) ?_
          refine va_iald hx hb hK hP 0 0 rfl rfl (iv_in b_13 (by decide)) dX10_mostAlike_103 ?_
          refine lv_topi (fun x_31 ex_31 => ?_)
          refine lv_icmp_ne (tgt := 111) hx hb dX10_mostAlike_104 (by decide) (fun c_32 => ?_) (fun c_32 => ?_)
          · refine lv_iconst (v := 0) hx hb dX10_mostAlike_111 (by decide) ?_
            refine lv_iadd hx hb dX10_mostAlike_112 ?_
            refine lv_topi (fun x_33 ex_33 => ?_)
            refine lv_istore (lv' := [(5, .int x_33), (6, .int u_14), (4, .int u_8), (3, .int u_9), (0, .ref (z 0)), (1, .int a1), (2, .int a2)]) hx hb dX10_mostAlike_113 hl (by decide) rfl (fun ls hl => ?_)
            obtain ⟨x_34, ex_34⟩ : ∃ z9 : Int32, z9 = u_14 + 1 := ⟨_, rfl⟩
            have bx_34 : iv 1 10 x_34 := by rw [ex_34]; exact iv_add b_24 (iv_c (1 : Int32) (a := 1) (b := 1) (by decide)) (by decide)
            refine lv_iinc (v := x_34) (lv' := [(6, .int x_34), (5, .int x_33), (4, .int u_8), (3, .int u_9), (0, .ref (z 0)), (1, .int a1), (2, .int a2)]) hx hb dX10_mostAlike_115 hl (k := 1) rfl (by rw [ex_34]; rfl) (by decide) rfl (fun ls hl => ?_)
            refine lv_goto (tgt := 70) hx hb dX10_mostAlike_118 (by decide) ?_
            exact ihn_16 _ _ _ _ (by rw [en_16, ex_34]; exact mu_up b_24 (by decide)) ⟨x_34, x_33, (iv_w bx_34 (by decide)), inn_16_0, rfl, hP, hD, hS, lv_sub hl [0, 1, 2, 3, 4, 5, 6] rfl⟩
          · refine lv_iconst (v := 1) hx hb dX10_mostAlike_107 (by decide) ?_
            refine lv_goto (tgt := 112) hx hb dX10_mostAlike_108 (by decide) ?_
            refine lv_iadd hx hb dX10_mostAlike_112 ?_
            refine lv_topi (fun x_35 ex_35 => ?_)
            refine lv_istore (lv' := [(5, .int x_35), (6, .int u_14), (4, .int u_8), (3, .int u_9), (0, .ref (z 0)), (1, .int a1), (2, .int a2)]) hx hb dX10_mostAlike_113 hl (by decide) rfl (fun ls hl => ?_)
            obtain ⟨x_36, ex_36⟩ : ∃ z9 : Int32, z9 = u_14 + 1 := ⟨_, rfl⟩
            have bx_36 : iv 1 10 x_36 := by rw [ex_36]; exact iv_add b_24 (iv_c (1 : Int32) (a := 1) (b := 1) (by decide)) (by decide)
            refine lv_iinc (v := x_36) (lv' := [(6, .int x_36), (5, .int x_35), (4, .int u_8), (3, .int u_9), (0, .ref (z 0)), (1, .int a1), (2, .int a2)]) hx hb dX10_mostAlike_115 hl (k := 1) rfl (by rw [ex_36]; rfl) (by decide) rfl (fun ls hl => ?_)
            refine lv_goto (tgt := 70) hx hb dX10_mostAlike_118 (by decide) ?_
            exact ihn_16 _ _ _ _ (by rw [en_16, ex_36]; exact mu_up b_24 (by decide)) ⟨x_36, x_35, (iv_w bx_36 (by decide)), inn_16_0, rfl, hP, hD, hS, lv_sub hl [0, 1, 2, 3, 4, 5, 6] rfl⟩
  · have b_37 : iv 0 9 u_1 := iv_l1 (Int32.not_le.mp c_6) bu_1 (iv_c (10 : Int32) (a := 10) (b := 10) (by decide)) (by decide)
    refine lv_aload_n hx hb dX10_mostAlike_12 rfl (lv_at hl 2 rfl) ?_
    refine va_get (ci := 10) (v := .ref (z 36)) (C := RX10) (T := TX10) (N := 40) hx hb hg inX10 hown hK hP 3 rfl rfl 36 (by decide) (hg _ q_6_20) (fun _ h9 => h9) rfl dX10_mostAlike_13 ?_
    refine lv_iload hx hb dX10_mostAlike_16 (lv_at hl 0 rfl) ?_
    refine lv_iload_n hx hb dX10_mostAlike_18 rfl (lv_at hl 4 rfl) ?_
    refine lv_i2l hx hb dX10_mostAlike_19 rfl ?_
    refine lv_topl (fun j_38 ej_38 => ?_)
    refine lv_iload hx hb dX10_mostAlike_20 (lv_at hl 0 rfl) ?_
    refine jnI (wr := [(z 36, aI V 10 f_2), (z 15, aI V 900 f_3), (z 16, aI V 6 f_4), (z 0, .inr (10, mo z pz0_0 pz0_5 pz0_6 pz0_7 pz0_8 pz0_9 pz0_10 pz0_11 pz0_12 pz0_13 pz0_14 pz0_18 pz0_19 pz0_22 pz0_23 pz0_29)), (z 1, aI V 3075 fz1)]) (rnS (rest := [.int u_1, .ref (z 36)]) ⟨hx, hb, hml, hown, hg⟩ (k_X10_isIn_0 l V j_38 u_1 (iv_w b_37 (by decide))) mt_X10_isIn q_7_32 ⟨Nat.le_of_ble_eq_true rfl, Nat.le_of_ble_eq_true rfl⟩ hK hP hD hS hA hE [] rfl rfl rfl hl.1 rfl (Nat.le_of_ble_eq_true rfl) dX10_mostAlike_22 ⟨Nat.le_of_ble_eq_true rfl, Nat.le_of_ble_eq_true rfl⟩) hP hD hS hA [] [0, 1, 2, 3, 4] rfl rfl rfl (by decide) (fun r_39 w H locs hw hP hD hS => ?_)
    obtain ⟨br_39, rfl⟩ := hw
    have hP : va_P V.1 vwCl [(z 36, aI V 10 f_2), (z 15, aI V 900 f_3), (z 16, aI V 6 f_4), (z 0, .inr (10, mo z pz0_0 pz0_5 pz0_6 pz0_7 pz0_8 pz0_9 pz0_10 pz0_11 pz0_12 pz0_13 pz0_14 pz0_18 pz0_19 pz0_22 pz0_23 pz0_29)), (z 1, aI V 3075 fz1)] H := hP
    have hD : va_D A [(z 36, aI V 10 f_2), (z 15, aI V 900 f_3), (z 16, aI V 6 f_4), (z 0, .inr (10, mo z pz0_0 pz0_5 pz0_6 pz0_7 pz0_8 pz0_9 pz0_10 pz0_11 pz0_12 pz0_13 pz0_14 pz0_18 pz0_19 pz0_22 pz0_23 pz0_29)), (z 1, aI V 3075 fz1)] := hD
    refine lv_if_eq (tgt := 46) hx hb dX10_mostAlike_25 (by decide) (fun c_40 => ?_) (fun c_40 => ?_)
    · have b_41 : iv 0 0 r_39 := iv_q c_40 (iv_c (0 : Int32) (a := 0) (b := 0) (by decide))
      refine lv_iconst (v := (-1)) hx hb dX10_mostAlike_46 (by decide) ?_
      refine va_iast hx hb hK hP hD hS 0 0 rfl rfl (iv_in b_37 (by decide)) dX10_mostAlike_47 (fun H locs hP hD hS => ?_)
      obtain ⟨f_42, hP, hD⟩ : ∃ f_42 : Nat → Int32, va_P V.1 vwCl [(z 36, aI V 10 f_42), (z 15, aI V 900 f_3), (z 16, aI V 6 f_4), (z 0, .inr (10, mo z pz0_0 pz0_5 pz0_6 pz0_7 pz0_8 pz0_9 pz0_10 pz0_11 pz0_12 pz0_13 pz0_14 pz0_18 pz0_19 pz0_22 pz0_23 pz0_29)), (z 1, aI V 3075 fz1)] H ∧ va_D A [(z 36, aI V 10 f_42), (z 15, aI V 900 f_3), (z 16, aI V 6 f_4), (z 0, .inr (10, mo z pz0_0 pz0_5 pz0_6 pz0_7 pz0_8 pz0_9 pz0_10 pz0_11 pz0_12 pz0_13 pz0_14 pz0_18 pz0_19 pz0_22 pz0_23 pz0_29)), (z 1, aI V 3075 fz1)] := ⟨_, hP, hD⟩
      obtain ⟨x_43, ex_43⟩ : ∃ z9 : Int32, z9 = u_1 + 1 := ⟨_, rfl⟩
      have bx_43 : iv 1 10 x_43 := by rw [ex_43]; exact iv_add b_37 (iv_c (1 : Int32) (a := 1) (b := 1) (by decide)) (by decide)
      refine lv_iinc (v := x_43) (lv' := [(4, .int x_43), (3, .int 0), (0, .ref (z 0)), (1, .int a1), (2, .int a2)]) hx hb dX10_mostAlike_48 hl (k := 0) rfl (by rw [ex_43]; rfl) (by decide) rfl (fun ls hl => ?_)
      refine lv_goto (tgt := 5) hx hb dX10_mostAlike_51 (by decide) ?_
      exact ihn_5 _ _ _ _ (by rw [en_5, ex_43]; exact mu_up b_37 (by decide)) ⟨x_43, f_42, f_3, f_4, (iv_w bx_43 (by decide)), tf_4, inn_5_0, rfl, hP, hD, hS, lv_sub hl [0, 1, 2, 3, 4] rfl⟩
    · have b_44 : iv 1 1 r_39 := iv_n0 c_40 br_39 (iv_c (0 : Int32) (a := 0) (b := 0) (by decide)) (by decide)
      refine lv_aload_n hx hb dX10_mostAlike_28 rfl (lv_at hl 2 rfl) ?_
      refine lv_aload_n hx hb dX10_mostAlike_29 rfl (lv_at hl 2 rfl) ?_
      refine jnI (wr := [(z 36, aI V 10 f_2), (z 15, aI V 900 f_3), (z 16, aI V 6 f_4)]) (rnV (rest := [.ref (z 0), .int u_1, .ref (z 36)]) ⟨hx, hb, hml, hown, hg⟩ (k_X10_standNow_0 l V z pz0_0 pz0_5 pz0_6 pz0_7 pz0_8 pz0_9 pz0_10 pz0_11 pz0_12 pz0_13 pz0_14 pz0_18 pz0_19 pz0_22 pz0_23 pz0_29 fz1 bpz0_5 bpz0_6 bpz0_7 bpz0_8 bpz0_10 bpz0_11 bpz0_12 bpz0_13 bpz0_14 bpz0_18 bpz0_22 bpz0_29 tfz1) mt_X10_standNow q_7_11 ⟨Nat.le_of_ble_eq_true rfl, Nat.le_of_ble_eq_true rfl⟩ hK hP hD hS hA hE [3, 4] rfl rfl 3 rfl rfl rfl rfl hl.1 rfl (Nat.le_of_ble_eq_true rfl) dX10_mostAlike_30 ⟨Nat.le_of_ble_eq_true rfl, Nat.le_of_ble_eq_true rfl⟩) hP hD hS hA [3, 4] [0, 1, 2] rfl rfl rfl (by decide) (fun r_45 w H locs hw hP hD hS => ?_)
      obtain ⟨br_45, er_45, rfl⟩ := hw
      have hP : va_P V.1 vwCl [(z 36, aI V 10 f_2), (z 15, aI V 900 f_3), (z 16, aI V 6 f_4), (z 0, .inr (10, mo z pz0_0 pz0_5 pz0_6 pz0_7 pz0_8 pz0_9 pz0_10 pz0_11 pz0_12 pz0_13 pz0_14 pz0_18 pz0_19 pz0_22 pz0_23 pz0_29)), (z 1, aI V 3075 fz1)] H := hP
      have hD : va_D A [(z 36, aI V 10 f_2), (z 15, aI V 900 f_3), (z 16, aI V 6 f_4), (z 0, .inr (10, mo z pz0_0 pz0_5 pz0_6 pz0_7 pz0_8 pz0_9 pz0_10 pz0_11 pz0_12 pz0_13 pz0_14 pz0_18 pz0_19 pz0_22 pz0_23 pz0_29)), (z 1, aI V 3075 fz1)] := hD
      refine lv_iload_n hx hb dX10_mostAlike_33 rfl (lv_at hl 3 rfl) ?_
      refine lv_iload hx hb dX10_mostAlike_34 (lv_at hl 0 rfl) ?_
      refine jnI (wr := [(z 36, aI V 10 f_2)]) (rnV (rest := [.int u_1, .ref (z 36)]) ⟨hx, hb, hml, hown, hg⟩ (k_X10_nightTo_0 l V z r_45 a1 u_1 f_3 f_4 pz0_0 pz0_5 pz0_6 pz0_7 pz0_8 pz0_9 pz0_10 pz0_11 pz0_12 pz0_13 pz0_14 pz0_18 pz0_19 pz0_22 pz0_23 pz0_29 fz1 br_45 tf_4 bpz0_5 bpz0_6 bpz0_7 bpz0_8 bpz0_10 bpz0_11 bpz0_12 bpz0_13 bpz0_14 bpz0_18 bpz0_22 bpz0_29 tfz1 inn_5_0) mt_X10_nightTo q_7_18 ⟨Nat.le_of_ble_eq_true rfl, Nat.le_of_ble_eq_true rfl⟩ hK hP hD hS hA hE [1, 2, 3, 4] rfl rfl 3 rfl rfl rfl rfl hl.1 rfl (Nat.le_of_ble_eq_true rfl) dX10_mostAlike_36 ⟨Nat.le_of_ble_eq_true rfl, Nat.le_of_ble_eq_true rfl⟩) hP hD hS hA [1, 2, 3, 4] [0] rfl rfl rfl (by decide) (fun r_46 w H locs hw hP hD hS => ?_)
      obtain ⟨f_47, f_48, tf_48, br_46, g_49, rfl⟩ := hw
      have hP : va_P V.1 vwCl [(z 36, aI V 10 f_2), (z 15, aI V 900 f_47), (z 16, aI V 6 f_48), (z 0, .inr (10, mo z pz0_0 pz0_5 pz0_6 pz0_7 pz0_8 pz0_9 pz0_10 pz0_11 pz0_12 pz0_13 pz0_14 pz0_18 pz0_19 pz0_22 pz0_23 pz0_29)), (z 1, aI V 3075 fz1)] H := hP
      have hD : va_D A [(z 36, aI V 10 f_2), (z 15, aI V 900 f_47), (z 16, aI V 6 f_48), (z 0, .inr (10, mo z pz0_0 pz0_5 pz0_6 pz0_7 pz0_8 pz0_9 pz0_10 pz0_11 pz0_12 pz0_13 pz0_14 pz0_18 pz0_19 pz0_22 pz0_23 pz0_29)), (z 1, aI V 3075 fz1)] := hD
      refine lv_sipush (v := 625) hx hb dX10_mostAlike_39 (by decide) ?_
      refine lv_irem hx hb dX10_mostAlike_42 (by decide) ?_
      refine lv_topi (fun x_50 ex_50 => ?_)
      have bx_50 : iv 0 624 x_50 := by rw [ex_50]; exact iv_remp br_46 (k := 625) (by decide) (by decide)
      refine lv_goto (tgt := 47) hx hb dX10_mostAlike_43 (by decide) ?_
      refine va_iast hx hb hK hP hD hS 0 0 rfl rfl (iv_in b_37 (by decide)) dX10_mostAlike_47 (fun H locs hP hD hS => ?_)
      obtain ⟨f_51, hP, hD⟩ : ∃ f_51 : Nat → Int32, va_P V.1 vwCl [(z 36, aI V 10 f_51), (z 15, aI V 900 f_47), (z 16, aI V 6 f_48), (z 0, .inr (10, mo z pz0_0 pz0_5 pz0_6 pz0_7 pz0_8 pz0_9 pz0_10 pz0_11 pz0_12 pz0_13 pz0_14 pz0_18 pz0_19 pz0_22 pz0_23 pz0_29)), (z 1, aI V 3075 fz1)] H ∧ va_D A [(z 36, aI V 10 f_51), (z 15, aI V 900 f_47), (z 16, aI V 6 f_48), (z 0, .inr (10, mo z pz0_0 pz0_5 pz0_6 pz0_7 pz0_8 pz0_9 pz0_10 pz0_11 pz0_12 pz0_13 pz0_14 pz0_18 pz0_19 pz0_22 pz0_23 pz0_29)), (z 1, aI V 3075 fz1)] := ⟨_, hP, hD⟩
      obtain ⟨x_52, ex_52⟩ : ∃ z9 : Int32, z9 = u_1 + 1 := ⟨_, rfl⟩
      have bx_52 : iv 1 10 x_52 := by rw [ex_52]; exact iv_add b_37 (iv_c (1 : Int32) (a := 1) (b := 1) (by decide)) (by decide)
      refine lv_iinc (v := x_52) (lv' := [(4, .int x_52), (3, .int 0), (0, .ref (z 0)), (1, .int a1), (2, .int a2)]) hx hb dX10_mostAlike_48 hl (k := 0) rfl (by rw [ex_52]; rfl) (by decide) rfl (fun ls hl => ?_)
      refine lv_goto (tgt := 5) hx hb dX10_mostAlike_51 (by decide) ?_
      exact ihn_5 _ _ _ _ (by rw [en_5, ex_52]; exact mu_up b_37 (by decide)) ⟨x_52, f_51, f_47, f_48, (iv_w bx_52 (by decide)), tf_48, g_49, rfl, hP, hD, hS, lv_sub hl [0, 1, 2, 3, 4] rfl⟩
theorem dX10_attempt_0 : decode cX10_attempt 0 = .ok (.aload_n 0, 1) := by decide +kernel
theorem dX10_attempt_1 : decode cX10_attempt 1 = .ok (.iconst 0, 1) := by decide +kernel
theorem dX10_attempt_2 : decode cX10_attempt 2 = .ok (.putfield 1, 3) := by decide +kernel
theorem dX10_attempt_5 : decode cX10_attempt 5 = .ok (.aload_n 0, 1) := by decide +kernel
theorem dX10_attempt_6 : decode cX10_attempt 6 = .ok (.iload_n 1, 1) := by decide +kernel
theorem dX10_attempt_7 : decode cX10_attempt 7 = .ok (.iload_n 2, 1) := by decide +kernel
theorem dX10_attempt_8 : decode cX10_attempt 8 = .ok (.iconst 0, 1) := by decide +kernel
theorem dX10_attempt_9 : decode cX10_attempt 9 = .ok (.invokevirtual 425, 3) := by decide +kernel
theorem dX10_attempt_12 : decode cX10_attempt 12 = .ok (.istore_n 3, 1) := by decide +kernel
theorem dX10_attempt_13 : decode cX10_attempt 13 = .ok (.iload_n 3, 1) := by decide +kernel
theorem dX10_attempt_14 : decode cX10_attempt 14 = .ok (.ifCond .eq 5, 3) := by decide +kernel
theorem dX10_attempt_19 : decode cX10_attempt 19 = .ok (.aload_n 0, 1) := by decide +kernel
theorem dX10_attempt_20 : decode cX10_attempt 20 = .ok (.iload_n 1, 1) := by decide +kernel
theorem dX10_attempt_21 : decode cX10_attempt 21 = .ok (.iload_n 2, 1) := by decide +kernel
theorem dX10_attempt_22 : decode cX10_attempt 22 = .ok (.invokevirtual 432, 3) := by decide +kernel
theorem dX10_attempt_25 : decode cX10_attempt 25 = .ok (.istore 4, 2) := by decide +kernel
theorem dX10_attempt_27 : decode cX10_attempt 27 = .ok (.iconst (-1), 1) := by decide +kernel
theorem dX10_attempt_28 : decode cX10_attempt 28 = .ok (.istore 5, 2) := by decide +kernel
theorem dX10_attempt_30 : decode cX10_attempt 30 = .ok (.ldc_w 361, 3) := by decide +kernel
theorem dX10_attempt_33 : decode cX10_attempt 33 = .ok (.istore 6, 2) := by decide +kernel
theorem dX10_attempt_35 : decode cX10_attempt 35 = .ok (.iconst 0, 1) := by decide +kernel
theorem dX10_attempt_36 : decode cX10_attempt 36 = .ok (.istore 7, 2) := by decide +kernel
theorem dX10_attempt_38 : decode cX10_attempt 38 = .ok (.aload_n 0, 1) := by decide +kernel
theorem dX10_attempt_39 : decode cX10_attempt 39 = .ok (.iload 7, 2) := by decide +kernel
theorem dX10_attempt_41 : decode cX10_attempt 41 = .ok (.i2l, 1) := by decide +kernel
theorem dX10_attempt_42 : decode cX10_attempt 42 = .ok (.invokevirtual 266, 3) := by decide +kernel
theorem dX10_attempt_45 : decode cX10_attempt 45 = .ok (.ifCond .eq 42, 3) := by decide +kernel
theorem dX10_attempt_87 : decode cX10_attempt 87 = .ok (.iload 5, 2) := by decide +kernel
theorem dX10_attempt_89 : decode cX10_attempt 89 = .ok (.ireturn, 1) := by decide +kernel
theorem dX10_attempt_48 : decode cX10_attempt 48 = .ok (.iload 4, 2) := by decide +kernel
theorem dX10_attempt_50 : decode cX10_attempt 50 = .ok (.ifCond .eq 37, 3) := by decide +kernel
theorem dX10_attempt_53 : decode cX10_attempt 53 = .ok (.aload_n 0, 1) := by decide +kernel
theorem dX10_attempt_54 : decode cX10_attempt 54 = .ok (.iload 7, 2) := by decide +kernel
theorem dX10_attempt_56 : decode cX10_attempt 56 = .ok (.iload 4, 2) := by decide +kernel
theorem q_8_88 : Cond.code yX10_mostAlike prog_12_method_115_code 7 (some FieldType.int) ∈ gw := gw_8 (i := 88) (rfl) rfl
theorem q_8_87 : Cond.instanceMethod yX10_mostAlike ∈ gw := gw_8 (i := 87) (by decide +kernel) rfl
theorem q_s_121 : Cond.selects "BeaconDelayModel" yX10_mostAlike yX10_mostAlike ∈ gw := gw_s (i := 121) (by decide +kernel) rfl
theorem mt_X10_mostAlike : MtV yX10_mostAlike cX10_mostAlike 7 (some .int) 2 := ⟨⟨q_8_88, q_1_9, by decide +kernel, by decide +kernel, by decide +kernel⟩, q_8_87, q_s_121⟩
theorem q_8_85 : Cond.methodLink "BeaconDelayModel" 435 yX10_mostAlike ∈ gw := gw_8 (i := 85) (by decide +kernel) rfl
theorem dX10_attempt_58 : decode cX10_attempt 58 = .ok (.invokevirtual 435, 3) := by decide +kernel
theorem dX10_attempt_61 : decode cX10_attempt 61 = .ok (.istore 8, 2) := by decide +kernel
theorem dX10_attempt_63 : decode cX10_attempt 63 = .ok (.iload 8, 2) := by decide +kernel
theorem dX10_attempt_65 : decode cX10_attempt 65 = .ok (.iload 6, 2) := by decide +kernel
theorem dX10_attempt_67 : decode cX10_attempt 67 = .ok (.if_icmp .lt 6, 3) := by decide +kernel
theorem dX10_attempt_73 : decode cX10_attempt 73 = .ok (.iload 7, 2) := by decide +kernel
theorem dX10_attempt_75 : decode cX10_attempt 75 = .ok (.istore 5, 2) := by decide +kernel
theorem dX10_attempt_77 : decode cX10_attempt 77 = .ok (.iload 8, 2) := by decide +kernel
theorem dX10_attempt_79 : decode cX10_attempt 79 = .ok (.istore 6, 2) := by decide +kernel
theorem dX10_attempt_81 : decode cX10_attempt 81 = .ok (.iinc 7 1, 3) := by decide +kernel
theorem dX10_attempt_84 : decode cX10_attempt 84 = .ok (.goto (-46), 3) := by decide +kernel
theorem dX10_attempt_70 : decode cX10_attempt 70 = .ok (.goto 11, 3) := by decide +kernel
theorem dX10_attempt_17 : decode cX10_attempt 17 = .ok (.iload_n 3, 1) := by decide +kernel
theorem dX10_attempt_18 : decode cX10_attempt 18 = .ok (.ireturn, 1) := by decide +kernel
set_option maxHeartbeats 4000000 in
set_option maxRecDepth 100000 in
theorem k_X10_attempt_0 (l : Launch) (V : GV) (z : Nat → Nat) (a1 : Int32) (a2 : Int32) (pz0_0 : Int32) (pz0_5 : Int32) (pz0_6 : Int32) (pz0_7 : Int32) (pz0_8 : Int32) (pz0_9 : Int32) (pz0_10 : Int32) (pz0_11 : Int32) (pz0_12 : Int32) (pz0_13 : Int32) (pz0_14 : Int32) (pz0_18 : Int32) (pz0_19 : Int32) (pz0_22 : Int32) (pz0_23 : Int32) (pz0_29 : Int32) (fz1 : Nat → Int32) (fz15 : Nat → Int32) (fz16 : Nat → Int32) (fz36 : Nat → Int32) (fz37 : Nat → Int32) (fz38 : Nat → Int32) (fz39 : Nat → Int64) (bpz0_5 : iv 0 900 pz0_5) (bpz0_6 : iv 0 900 pz0_6) (bpz0_7 : iv 0 900 pz0_7) (bpz0_8 : iv 0 900 pz0_8) (bpz0_10 : iv 0 999 pz0_10) (bpz0_11 : iv 0 4 pz0_11) (bpz0_12 : iv 0 900 pz0_12) (bpz0_13 : iv 0 4 pz0_13) (bpz0_14 : iv (-1) 900 pz0_14) (bpz0_18 : iv 0 2 pz0_18) (bpz0_22 : iv 0 9999 pz0_22) (bpz0_29 : iv 0 10000 pz0_29) (tfz1 : ivT tA fz1) (tfz16 : ivT tW fz16) (tfz37 : ∀ j, iv (-1) 3 (fz37 j)) (tfz38 : ∀ j, iv 0 40 (fz38 j)) (hf0 : RW fz1) : Ct l V yX10_attempt (.code yX10_attempt cX10_attempt 9 (some .int)) 6 [.ref (z 0), .int a1, .int a2] [(z 0, .inr (10, mo z pz0_0 pz0_5 pz0_6 pz0_7 pz0_8 pz0_9 pz0_10 pz0_11 pz0_12 pz0_13 pz0_14 pz0_18 pz0_19 pz0_22 pz0_23 pz0_29)), (z 1, aI V 3075 fz1), (z 15, aI V 900 fz15), (z 16, aI V 6 fz16), (z 36, aI V 10 fz36), (z 37, aI V 4 fz37), (z 38, aI V 4 fz38), (z 39, aJ V 160 fz39)] 0 0 (QI V (fun (r : Int32) (w : va_W) => ∃ (v0 : Int32) (g1 : Nat → Int32) (g2 : Nat → Int32) (g3 : Nat → Int32), (ivT tW g2) ∧ (RW fz1) ∧ w = [(z 0, .inr (10, mo z v0 pz0_5 pz0_6 pz0_7 pz0_8 pz0_9 pz0_10 pz0_11 pz0_12 pz0_13 pz0_14 pz0_18 pz0_19 pz0_22 pz0_23 pz0_29)), (z 1, aI V 3075 fz1), (z 15, aI V 900 g1), (z 16, aI V 6 g2), (z 36, aI V 10 g3), (z 37, aI V 4 fz37), (z 38, aI V 4 fz38), (z 39, aJ V 160 fz39)])) := by
  refine Ct.of (by decide) (Nat.le_of_ble_eq_true rfl) (fun p e s m below meth c A ls hx hb hr hml hown hlk hnm hg hP hK hD hE hA hS hl => ?_)
  have hl : lv_has ls 9 [(0, .ref (z 0)), (1, .int a1), (2, .int a2)] := hl
  refine lv_aload_n hx hb dX10_attempt_0 rfl (lv_at hl 0 rfl) ?_
  refine lv_iconst (v := 0) hx hb dX10_attempt_1 (by decide) ?_
  refine va_put (ci := 10) (v := .int 0) (ty := .int) (C := RX10) (T := TX10) (N := 40) hx hb hg inX10 tyX10 tyX10_ok nmX10 hown hK hP hD hS 0 rfl rfl 0 (by decide) (hg _ q_5_224) (fun _ h9 => h9) rfl (by decide +kernel) rfl rfl (Nat.le_of_ble_eq_true rfl) dX10_attempt_2 (fun H locs hP hD hS => ?_)
  have hP : va_P V.1 vwCl [(z 0, .inr (10, mo z 0 pz0_5 pz0_6 pz0_7 pz0_8 pz0_9 pz0_10 pz0_11 pz0_12 pz0_13 pz0_14 pz0_18 pz0_19 pz0_22 pz0_23 pz0_29)), (z 1, aI V 3075 fz1), (z 15, aI V 900 fz15), (z 16, aI V 6 fz16), (z 36, aI V 10 fz36), (z 37, aI V 4 fz37), (z 38, aI V 4 fz38), (z 39, aJ V 160 fz39)] H := hP
  have hD : va_D A [(z 0, .inr (10, mo z 0 pz0_5 pz0_6 pz0_7 pz0_8 pz0_9 pz0_10 pz0_11 pz0_12 pz0_13 pz0_14 pz0_18 pz0_19 pz0_22 pz0_23 pz0_29)), (z 1, aI V 3075 fz1), (z 15, aI V 900 fz15), (z 16, aI V 6 fz16), (z 36, aI V 10 fz36), (z 37, aI V 4 fz37), (z 38, aI V 4 fz38), (z 39, aJ V 160 fz39)] := hD
  refine lv_aload_n hx hb dX10_attempt_5 rfl (lv_at hl 0 rfl) ?_
  refine lv_iload_n hx hb dX10_attempt_6 rfl (lv_at hl 1 rfl) ?_
  refine lv_iload_n hx hb dX10_attempt_7 rfl (lv_at hl 2 rfl) ?_
  refine lv_iconst (v := 0) hx hb dX10_attempt_8 (by decide) ?_
  refine jnI (wr := [(z 15, aI V 900 fz15), (z 16, aI V 6 fz16), (z 36, aI V 10 fz36)]) (rnV (rest := []) ⟨hx, hb, hml, hown, hg⟩ (k_X10_noTold_0 l V z a1 a2 0 0 pz0_5 pz0_6 pz0_7 pz0_8 pz0_9 pz0_10 pz0_11 pz0_12 pz0_13 pz0_14 pz0_18 pz0_19 pz0_22 pz0_23 pz0_29 fz1 fz37 fz38 fz39 bpz0_5 bpz0_6 bpz0_7 bpz0_8 bpz0_10 bpz0_11 bpz0_12 bpz0_13 bpz0_14 bpz0_18 bpz0_22 bpz0_29 tfz1 tfz37 tfz38) mt_X10_noTold q_8_51 ⟨Nat.le_of_ble_eq_true rfl, Nat.le_of_ble_eq_true rfl⟩ hK hP hD hS hA hE [0, 1, 5, 6, 7] rfl rfl 0 rfl rfl rfl rfl hl.1 rfl (Nat.le_of_ble_eq_true rfl) dX10_attempt_9 ⟨Nat.le_of_ble_eq_true rfl, Nat.le_of_ble_eq_true rfl⟩) hP hD hS hA [0, 1, 5, 6, 7] [2, 3, 4] rfl rfl rfl (by decide) (fun r_1 w H locs hw hP hD hS => ?_)
  obtain ⟨br_1, g_2, g_3, g_4, rfl⟩ := hw
  have hP : va_P V.1 vwCl [(z 15, aI V 900 fz15), (z 16, aI V 6 fz16), (z 36, aI V 10 fz36), (z 0, .inr (10, mo z 0 pz0_5 pz0_6 pz0_7 pz0_8 pz0_9 pz0_10 pz0_11 pz0_12 pz0_13 pz0_14 pz0_18 pz0_19 pz0_22 pz0_23 pz0_29)), (z 1, aI V 3075 fz1), (z 37, aI V 4 fz37), (z 38, aI V 4 fz38), (z 39, aJ V 160 fz39)] H := hP
  have hD : va_D A [(z 15, aI V 900 fz15), (z 16, aI V 6 fz16), (z 36, aI V 10 fz36), (z 0, .inr (10, mo z 0 pz0_5 pz0_6 pz0_7 pz0_8 pz0_9 pz0_10 pz0_11 pz0_12 pz0_13 pz0_14 pz0_18 pz0_19 pz0_22 pz0_23 pz0_29)), (z 1, aI V 3075 fz1), (z 37, aI V 4 fz37), (z 38, aI V 4 fz38), (z 39, aJ V 160 fz39)] := hD
  refine lv_istore_n (lv' := [(3, .int r_1), (0, .ref (z 0)), (1, .int a1), (2, .int a2)]) hx hb dX10_attempt_12 rfl hl (by decide) rfl (fun ls hl => ?_)
  refine lv_iload_n hx hb dX10_attempt_13 rfl (lv_at hl 0 rfl) ?_
  refine lv_if_eq (tgt := 19) hx hb dX10_attempt_14 (by decide) (fun c_5 => ?_) (fun c_5 => ?_)
  · have b_6 : iv 0 0 r_1 := iv_q c_5 (iv_c (0 : Int32) (a := 0) (b := 0) (by decide))
    have b_7 : iv 0 3 a1 := iv_cap (g_3 (iv_eqp b_6 (iv_c (0 : Int32) (by decide)))) (iv_top a1) (by decide)
    have b_8 : iv 0 3 a2 := iv_cap (g_4 (iv_eqp b_6 (iv_c (0 : Int32) (by decide)))) (iv_top a2) (by decide)
    refine lv_aload_n hx hb dX10_attempt_19 rfl (lv_at hl 1 rfl) ?_
    refine lv_iload_n hx hb dX10_attempt_20 rfl (lv_at hl 2 rfl) ?_
    refine lv_iload_n hx hb dX10_attempt_21 rfl (lv_at hl 3 rfl) ?_
    refine jnI (wr := [(z 36, aI V 10 fz36), (z 37, aI V 4 fz37)]) (rnV (rest := []) ⟨hx, hb, hml, hown, hg⟩ (k_X10_weathersOf_0 l V z a1 a2 fz15 fz16 0 pz0_5 pz0_6 pz0_7 pz0_8 pz0_9 pz0_10 pz0_11 pz0_12 pz0_13 pz0_14 pz0_18 pz0_19 pz0_22 pz0_23 pz0_29 fz1 fz38 fz39 b_7 b_8 tfz16 bpz0_5 bpz0_6 bpz0_7 bpz0_8 bpz0_10 bpz0_11 bpz0_12 bpz0_13 bpz0_14 bpz0_18 bpz0_22 bpz0_29 tfz1 tfz38 hf0) mt_X10_weathersOf q_8_77 ⟨Nat.le_of_ble_eq_true rfl, Nat.le_of_ble_eq_true rfl⟩ hK hP hD hS hA hE [0, 1, 3, 4, 6, 7] rfl rfl 3 rfl rfl rfl rfl hl.1 rfl (Nat.le_of_ble_eq_true rfl) dX10_attempt_22 ⟨Nat.le_of_ble_eq_true rfl, Nat.le_of_ble_eq_true rfl⟩) hP hD hS hA [0, 1, 3, 4, 6, 7] [2, 5] rfl rfl rfl (by decide) (fun r_9 w H locs hw hP hD hS => ?_)
    obtain ⟨f_10, f_11, tf_11, g_12, rfl⟩ := hw
    have hP : va_P V.1 vwCl [(z 36, aI V 10 fz36), (z 37, aI V 4 fz37), (z 15, aI V 900 f_10), (z 16, aI V 6 f_11), (z 0, .inr (10, mo z 0 pz0_5 pz0_6 pz0_7 pz0_8 pz0_9 pz0_10 pz0_11 pz0_12 pz0_13 pz0_14 pz0_18 pz0_19 pz0_22 pz0_23 pz0_29)), (z 1, aI V 3075 fz1), (z 38, aI V 4 fz38), (z 39, aJ V 160 fz39)] H := hP
    have hD : va_D A [(z 36, aI V 10 fz36), (z 37, aI V 4 fz37), (z 15, aI V 900 f_10), (z 16, aI V 6 f_11), (z 0, .inr (10, mo z 0 pz0_5 pz0_6 pz0_7 pz0_8 pz0_9 pz0_10 pz0_11 pz0_12 pz0_13 pz0_14 pz0_18 pz0_19 pz0_22 pz0_23 pz0_29)), (z 1, aI V 3075 fz1), (z 38, aI V 4 fz38), (z 39, aJ V 160 fz39)] := hD
    refine lv_istore (lv' := [(4, .int r_9), (3, .int r_1), (0, .ref (z 0)), (1, .int a1), (2, .int a2)]) hx hb dX10_attempt_25 hl (by decide) rfl (fun ls hl => ?_)
    refine lv_iconst (v := (-1)) hx hb dX10_attempt_27 (by decide) ?_
    refine lv_istore (lv' := [(5, .int (-1)), (4, .int r_9), (3, .int r_1), (0, .ref (z 0)), (1, .int a1), (2, .int a2)]) hx hb dX10_attempt_28 hl (by decide) rfl (fun ls hl => ?_)
    refine lv_ldcw (v := 268435456) hx hb hown (hg _ q_7_202) dX10_attempt_30 ?_
    refine lv_istore (lv' := [(6, .int 268435456), (5, .int (-1)), (4, .int r_9), (3, .int r_1), (0, .ref (z 0)), (1, .int a1), (2, .int a2)]) hx hb dX10_attempt_33 hl (by decide) rfl (fun ls hl => ?_)
    refine lv_iconst (v := 0) hx hb dX10_attempt_35 (by decide) ?_
    refine lv_istore (lv' := [(7, .int 0), (6, .int 268435456), (5, .int (-1)), (4, .int r_9), (3, .int r_1), (0, .ref (z 0)), (1, .int a1), (2, .int a2)]) hx hb dX10_attempt_36 hl (by decide) rfl (fun ls hl => ?_)
    refine loopF (X := fun (n_19 : Nat) (H : Heap) (locs : List Loc) (ls : Array Slot) => ∃ (u_13 : Int32) (u_14 : Int32) (u_15 : Int32) (f_16 : Nat → Int32) (f_17 : Nat → Int32) (f_18 : Nat → Int32), (iv 0 4 u_13) ∧ (ivT tW f_18) ∧ (RW fz1) ∧ n_19 = (2147483647 - (u_13 : Int32).toInt).toNat ∧ va_P V.1 vwCl [(z 36, aI V 10 f_16), (z 37, aI V 4 fz37), (z 15, aI V 900 f_17), (z 16, aI V 6 f_18), (z 0, .inr (10, mo z 0 pz0_5 pz0_6 pz0_7 pz0_8 pz0_9 pz0_10 pz0_11 pz0_12 pz0_13 pz0_14 pz0_18 pz0_19 pz0_22 pz0_23 pz0_29)), (z 1, aI V 3075 fz1), (z 38, aI V 4 fz38), (z 39, aJ V 160 fz39)] H ∧ va_D A [(z 36, aI V 10 f_16), (z 37, aI V 4 fz37), (z 15, aI V 900 f_17), (z 16, aI V 6 f_18), (z 0, .inr (10, mo z 0 pz0_5 pz0_6 pz0_7 pz0_8 pz0_9 pz0_10 pz0_11 pz0_12 pz0_13 pz0_14 pz0_18 pz0_19 pz0_22 pz0_23 pz0_29)), (z 1, aI V 3075 fz1), (z 38, aI V 4 fz38), (z 39, aJ V 160 fz39)] ∧ va_S A s.heap H locs ∧ lv_has ls 9 [(7, .int u_13), (6, .int u_14), (5, .int u_15), (4, .int r_9), (3, .int r_1), (0, .ref (z 0)), (1, .int a1), (2, .int a2)]) (g := fun ls => F0 m 38 ls []) (fun n_19 H locs ls hX ihn_19 => ?_) _ ⟨0, 268435456, (-1), fz36, f_10, f_11, (iv_c (0 : Int32) (by decide)), tf_11, g_12, rfl, hP, hD, hS, lv_sub hl [0, 1, 2, 3, 4, 5, 6, 7] rfl⟩
    obtain ⟨u_13, u_14, u_15, f_16, f_17, f_18, bu_13, tf_18, inn_19_0, en_19, hP, hD, hS, hl⟩ := hX
    refine lv_aload_n hx hb dX10_attempt_38 rfl (lv_at hl 5 rfl) ?_
    refine lv_iload hx hb dX10_attempt_39 (lv_at hl 0 rfl) ?_
    refine lv_i2l hx hb dX10_attempt_41 rfl ?_
    refine lv_topl (fun j_20 ej_20 => ?_)
    have bj_20 : ivL 0 4 j_20 := by rw [ej_20]; exact ivL_of bu_13
    refine jnI (wr := [(z 36, aI V 10 f_16), (z 37, aI V 4 fz37), (z 15, aI V 900 f_17), (z 16, aI V 6 f_18), (z 38, aI V 4 fz38), (z 39, aJ V 160 fz39)]) (rnV (rest := []) ⟨hx, hb, hml, hown, hg⟩ (k_X10_isNight_0 l V z j_20 0 pz0_5 pz0_6 pz0_7 pz0_8 pz0_9 pz0_10 pz0_11 pz0_12 pz0_13 pz0_14 pz0_18 pz0_19 pz0_22 pz0_23 pz0_29 fz1 bpz0_5 bpz0_6 bpz0_7 bpz0_8 bpz0_10 bpz0_11 bpz0_12 bpz0_13 bpz0_14 bpz0_18 bpz0_22 bpz0_29 tfz1) mt_X10_isNight q_7_7 ⟨Nat.le_of_ble_eq_true rfl, Nat.le_of_ble_eq_true rfl⟩ hK hP hD hS hA hE [4, 5] rfl rfl 4 rfl rfl rfl rfl hl.1 rfl (Nat.le_of_ble_eq_true rfl) dX10_attempt_42 ⟨Nat.le_of_ble_eq_true rfl, Nat.le_of_ble_eq_true rfl⟩) hP hD hS hA [4, 5] [0, 1, 2, 3, 6, 7] rfl rfl rfl (by decide) (fun r_21 w H locs hw hP hD hS => ?_)
    obtain ⟨br_21, g_22, rfl⟩ := hw
    have hP : va_P V.1 vwCl [(z 36, aI V 10 f_16), (z 37, aI V 4 fz37), (z 15, aI V 900 f_17), (z 16, aI V 6 f_18), (z 38, aI V 4 fz38), (z 39, aJ V 160 fz39), (z 0, .inr (10, mo z 0 pz0_5 pz0_6 pz0_7 pz0_8 pz0_9 pz0_10 pz0_11 pz0_12 pz0_13 pz0_14 pz0_18 pz0_19 pz0_22 pz0_23 pz0_29)), (z 1, aI V 3075 fz1)] H := hP
    have hD : va_D A [(z 36, aI V 10 f_16), (z 37, aI V 4 fz37), (z 15, aI V 900 f_17), (z 16, aI V 6 f_18), (z 38, aI V 4 fz38), (z 39, aJ V 160 fz39), (z 0, .inr (10, mo z 0 pz0_5 pz0_6 pz0_7 pz0_8 pz0_9 pz0_10 pz0_11 pz0_12 pz0_13 pz0_14 pz0_18 pz0_19 pz0_22 pz0_23 pz0_29)), (z 1, aI V 3075 fz1)] := hD
    refine lv_if_eq (tgt := 87) hx hb dX10_attempt_45 (by decide) (fun c_23 => ?_) (fun c_23 => ?_)
    · have b_24 : iv 0 0 r_21 := iv_q c_23 (iv_c (0 : Int32) (a := 0) (b := 0) (by decide))
      refine lv_iload hx hb dX10_attempt_87 (lv_at hl 2 rfl) ?_
      have hP := subP (ws' := [(z 0, .inr (10, mo z 0 pz0_5 pz0_6 pz0_7 pz0_8 pz0_9 pz0_10 pz0_11 pz0_12 pz0_13 pz0_14 pz0_18 pz0_19 pz0_22 pz0_23 pz0_29)), (z 1, aI V 3075 fz1), (z 15, aI V 900 f_17), (z 16, aI V 6 f_18), (z 36, aI V 10 f_16), (z 37, aI V 4 fz37), (z 38, aI V 4 fz38), (z 39, aJ V 160 fz39)]) hP [6, 7, 2, 3, 0, 1, 4, 5] rfl
      have hD := hD.sub (ws' := [(z 0, .inr (10, mo z 0 pz0_5 pz0_6 pz0_7 pz0_8 pz0_9 pz0_10 pz0_11 pz0_12 pz0_13 pz0_14 pz0_18 pz0_19 pz0_22 pz0_23 pz0_29)), (z 1, aI V 3075 fz1), (z 15, aI V 900 f_17), (z 16, aI V 6 f_18), (z 36, aI V 10 f_16), (z 37, aI V 4 fz37), (z 38, aI V 4 fz38), (z 39, aJ V 160 fz39)]) [6, 7, 2, 3, 0, 1, 4, 5] rfl rfl
      exact fiI hx hb hr hlk hK hP hD hS dX10_attempt_89 (Nat.le_of_ble_eq_true rfl) (Nat.le_of_ble_eq_true rfl) (⟨0, f_17, f_18, f_16, tf_18, inn_19_0, rfl⟩)
    · have b_25 : iv 1 1 r_21 := iv_n0 c_23 br_21 (iv_c (0 : Int32) (a := 0) (b := 0) (by decide)) (by decide)
      have b_26 : ivL 0 3 j_20 := ivL_cap (g_22 (iv_eqp b_25 (iv_c (1 : Int32) (by decide)))) bj_20 (by decide)
      have b_27 : iv 0 3 u_13 := iv_cap (ivL_i ej_20 b_26) bu_13 (by decide)
      refine lv_iload hx hb dX10_attempt_48 (lv_at hl 3 rfl) ?_
      refine lv_if_eq (tgt := 87) hx hb dX10_attempt_50 (by decide) (fun c_28 => ?_) (fun c_28 => ?_)
      · have b_29 : iv 0 0 r_9 := iv_q c_28 (iv_c (0 : Int32) (a := 0) (b := 0) (by decide))
        refine lv_iload hx hb dX10_attempt_87 (lv_at hl 2 rfl) ?_
        have hP := subP (ws' := [(z 0, .inr (10, mo z 0 pz0_5 pz0_6 pz0_7 pz0_8 pz0_9 pz0_10 pz0_11 pz0_12 pz0_13 pz0_14 pz0_18 pz0_19 pz0_22 pz0_23 pz0_29)), (z 1, aI V 3075 fz1), (z 15, aI V 900 f_17), (z 16, aI V 6 f_18), (z 36, aI V 10 f_16), (z 37, aI V 4 fz37), (z 38, aI V 4 fz38), (z 39, aJ V 160 fz39)]) hP [6, 7, 2, 3, 0, 1, 4, 5] rfl
        have hD := hD.sub (ws' := [(z 0, .inr (10, mo z 0 pz0_5 pz0_6 pz0_7 pz0_8 pz0_9 pz0_10 pz0_11 pz0_12 pz0_13 pz0_14 pz0_18 pz0_19 pz0_22 pz0_23 pz0_29)), (z 1, aI V 3075 fz1), (z 15, aI V 900 f_17), (z 16, aI V 6 f_18), (z 36, aI V 10 f_16), (z 37, aI V 4 fz37), (z 38, aI V 4 fz38), (z 39, aJ V 160 fz39)]) [6, 7, 2, 3, 0, 1, 4, 5] rfl rfl
        exact fiI hx hb hr hlk hK hP hD hS dX10_attempt_89 (Nat.le_of_ble_eq_true rfl) (Nat.le_of_ble_eq_true rfl) (⟨0, f_17, f_18, f_16, tf_18, inn_19_0, rfl⟩)
      · refine lv_aload_n hx hb dX10_attempt_53 rfl (lv_at hl 5 rfl) ?_
        refine lv_iload hx hb dX10_attempt_54 (lv_at hl 0 rfl) ?_
        refine lv_iload hx hb dX10_attempt_56 (lv_at hl 3 rfl) ?_
        refine jnI (wr := [(z 37, aI V 4 fz37), (z 38, aI V 4 fz38), (z 39, aJ V 160 fz39)]) (rnV (rest := []) ⟨hx, hb, hml, hown, hg⟩ (k_X10_mostAlike_0 l V z u_13 r_9 f_16 f_17 f_18 0 pz0_5 pz0_6 pz0_7 pz0_8 pz0_9 pz0_10 pz0_11 pz0_12 pz0_13 pz0_14 pz0_18 pz0_19 pz0_22 pz0_23 pz0_29 fz1 b_27 tf_18 bpz0_5 bpz0_6 bpz0_7 bpz0_8 bpz0_10 bpz0_11 bpz0_12 bpz0_13 bpz0_14 bpz0_18 bpz0_22 bpz0_29 tfz1 inn_19_0) mt_X10_mostAlike q_8_85 ⟨Nat.le_of_ble_eq_true rfl, Nat.le_of_ble_eq_true rfl⟩ hK hP hD hS hA hE [0, 2, 3, 6, 7] rfl rfl 6 rfl rfl rfl rfl hl.1 rfl (Nat.le_of_ble_eq_true rfl) dX10_attempt_58 ⟨Nat.le_of_ble_eq_true rfl, Nat.le_of_ble_eq_true rfl⟩) hP hD hS hA [0, 2, 3, 6, 7] [1, 4, 5] rfl rfl rfl (by decide) (fun r_30 w H locs hw hP hD hS => ?_)
        obtain ⟨f_31, f_32, f_33, tf_33, g_34, rfl⟩ := hw
        have hP : va_P V.1 vwCl [(z 37, aI V 4 fz37), (z 38, aI V 4 fz38), (z 39, aJ V 160 fz39), (z 36, aI V 10 f_31), (z 15, aI V 900 f_32), (z 16, aI V 6 f_33), (z 0, .inr (10, mo z 0 pz0_5 pz0_6 pz0_7 pz0_8 pz0_9 pz0_10 pz0_11 pz0_12 pz0_13 pz0_14 pz0_18 pz0_19 pz0_22 pz0_23 pz0_29)), (z 1, aI V 3075 fz1)] H := hP
        have hD : va_D A [(z 37, aI V 4 fz37), (z 38, aI V 4 fz38), (z 39, aJ V 160 fz39), (z 36, aI V 10 f_31), (z 15, aI V 900 f_32), (z 16, aI V 6 f_33), (z 0, .inr (10, mo z 0 pz0_5 pz0_6 pz0_7 pz0_8 pz0_9 pz0_10 pz0_11 pz0_12 pz0_13 pz0_14 pz0_18 pz0_19 pz0_22 pz0_23 pz0_29)), (z 1, aI V 3075 fz1)] := hD
        refine lv_istore (lv' := [(8, .int r_30), (7, .int u_13), (6, .int u_14), (5, .int u_15), (4, .int r_9), (3, .int r_1), (0, .ref (z 0)), (1, .int a1), (2, .int a2)]) hx hb dX10_attempt_61 hl (by decide) rfl (fun ls hl => ?_)
        refine lv_iload hx hb dX10_attempt_63 (lv_at hl 0 rfl) ?_
        refine lv_iload hx hb dX10_attempt_65 (lv_at hl 2 rfl) ?_
        refine lv_icmp_lt (tgt := 73) hx hb dX10_attempt_67 (by decide) (fun c_35 => ?_) (fun c_35 => ?_)
        · have b_36 : iv (-2147483648) 2147483646 r_30 := iv_l1 c_35 (iv_top r_30) (iv_top u_14) (by decide)
          have b_37 : iv (-2147483647) 2147483647 u_14 := iv_l2 c_35 (iv_top r_30) (iv_top u_14) (by decide)
          refine lv_iload hx hb dX10_attempt_73 (lv_at hl 1 rfl) ?_
          refine lv_istore (lv' := [(5, .int u_13), (8, .int r_30), (7, .int u_13), (6, .int u_14), (4, .int r_9), (3, .int r_1), (0, .ref (z 0)), (1, .int a1), (2, .int a2)]) hx hb dX10_attempt_75 hl (by decide) rfl (fun ls hl => ?_)
          refine lv_iload hx hb dX10_attempt_77 (lv_at hl 1 rfl) ?_
          refine lv_istore (lv' := [(6, .int r_30), (5, .int u_13), (8, .int r_30), (7, .int u_13), (4, .int r_9), (3, .int r_1), (0, .ref (z 0)), (1, .int a1), (2, .int a2)]) hx hb dX10_attempt_79 hl (by decide) rfl (fun ls hl => ?_)
          obtain ⟨x_38, ex_38⟩ : ∃ z9 : Int32, z9 = u_13 + 1 := ⟨_, rfl⟩
          have bx_38 : iv 1 4 x_38 := by rw [ex_38]; exact iv_add b_27 (iv_c (1 : Int32) (a := 1) (b := 1) (by decide)) (by decide)
          refine lv_iinc (v := x_38) (lv' := [(7, .int x_38), (6, .int r_30), (5, .int u_13), (8, .int r_30), (4, .int r_9), (3, .int r_1), (0, .ref (z 0)), (1, .int a1), (2, .int a2)]) hx hb dX10_attempt_81 hl (k := 3) rfl (by rw [ex_38]; rfl) (by decide) rfl (fun ls hl => ?_)
          refine lv_goto (tgt := 38) hx hb dX10_attempt_84 (by decide) ?_
          have hP := subP (ws' := [(z 36, aI V 10 f_31), (z 37, aI V 4 fz37), (z 15, aI V 900 f_32), (z 16, aI V 6 f_33), (z 0, .inr (10, mo z 0 pz0_5 pz0_6 pz0_7 pz0_8 pz0_9 pz0_10 pz0_11 pz0_12 pz0_13 pz0_14 pz0_18 pz0_19 pz0_22 pz0_23 pz0_29)), (z 1, aI V 3075 fz1), (z 38, aI V 4 fz38), (z 39, aJ V 160 fz39)]) hP [3, 0, 4, 5, 6, 7, 1, 2] rfl
          have hD := hD.sub (ws' := [(z 36, aI V 10 f_31), (z 37, aI V 4 fz37), (z 15, aI V 900 f_32), (z 16, aI V 6 f_33), (z 0, .inr (10, mo z 0 pz0_5 pz0_6 pz0_7 pz0_8 pz0_9 pz0_10 pz0_11 pz0_12 pz0_13 pz0_14 pz0_18 pz0_19 pz0_22 pz0_23 pz0_29)), (z 1, aI V 3075 fz1), (z 38, aI V 4 fz38), (z 39, aJ V 160 fz39)]) [3, 0, 4, 5, 6, 7, 1, 2] rfl rfl
          exact ihn_19 _ _ _ _ (by rw [en_19, ex_38]; exact mu_up b_27 (by decide)) ⟨x_38, r_30, u_13, f_31, f_32, f_33, (iv_w bx_38 (by decide)), tf_33, g_34, rfl, hP, hD, hS, lv_sub hl [0, 1, 2, 4, 5, 6, 7, 8] rfl⟩
        · refine lv_goto (tgt := 81) hx hb dX10_attempt_70 (by decide) ?_
          obtain ⟨x_39, ex_39⟩ : ∃ z9 : Int32, z9 = u_13 + 1 := ⟨_, rfl⟩
          have bx_39 : iv 1 4 x_39 := by rw [ex_39]; exact iv_add b_27 (iv_c (1 : Int32) (a := 1) (b := 1) (by decide)) (by decide)
          refine lv_iinc (v := x_39) (lv' := [(7, .int x_39), (8, .int r_30), (6, .int u_14), (5, .int u_15), (4, .int r_9), (3, .int r_1), (0, .ref (z 0)), (1, .int a1), (2, .int a2)]) hx hb dX10_attempt_81 hl (k := 1) rfl (by rw [ex_39]; rfl) (by decide) rfl (fun ls hl => ?_)
          refine lv_goto (tgt := 38) hx hb dX10_attempt_84 (by decide) ?_
          have hP := subP (ws' := [(z 36, aI V 10 f_31), (z 37, aI V 4 fz37), (z 15, aI V 900 f_32), (z 16, aI V 6 f_33), (z 0, .inr (10, mo z 0 pz0_5 pz0_6 pz0_7 pz0_8 pz0_9 pz0_10 pz0_11 pz0_12 pz0_13 pz0_14 pz0_18 pz0_19 pz0_22 pz0_23 pz0_29)), (z 1, aI V 3075 fz1), (z 38, aI V 4 fz38), (z 39, aJ V 160 fz39)]) hP [3, 0, 4, 5, 6, 7, 1, 2] rfl
          have hD := hD.sub (ws' := [(z 36, aI V 10 f_31), (z 37, aI V 4 fz37), (z 15, aI V 900 f_32), (z 16, aI V 6 f_33), (z 0, .inr (10, mo z 0 pz0_5 pz0_6 pz0_7 pz0_8 pz0_9 pz0_10 pz0_11 pz0_12 pz0_13 pz0_14 pz0_18 pz0_19 pz0_22 pz0_23 pz0_29)), (z 1, aI V 3075 fz1), (z 38, aI V 4 fz38), (z 39, aJ V 160 fz39)]) [3, 0, 4, 5, 6, 7, 1, 2] rfl rfl
          exact ihn_19 _ _ _ _ (by rw [en_19, ex_39]; exact mu_up b_27 (by decide)) ⟨x_39, u_14, u_15, f_31, f_32, f_33, (iv_w bx_39 (by decide)), tf_33, g_34, rfl, hP, hD, hS, lv_sub hl [0, 2, 3, 4, 5, 6, 7, 8] rfl⟩
  · have b_40 : iv (-6) (-1) r_1 := iv_n1 c_5 br_1 (iv_c (0 : Int32) (a := 0) (b := 0) (by decide)) (by decide)
    refine lv_iload_n hx hb dX10_attempt_17 rfl (lv_at hl 0 rfl) ?_
    have hP := subP (ws' := [(z 0, .inr (10, mo z 0 pz0_5 pz0_6 pz0_7 pz0_8 pz0_9 pz0_10 pz0_11 pz0_12 pz0_13 pz0_14 pz0_18 pz0_19 pz0_22 pz0_23 pz0_29)), (z 1, aI V 3075 fz1), (z 15, aI V 900 fz15), (z 16, aI V 6 fz16), (z 36, aI V 10 fz36), (z 37, aI V 4 fz37), (z 38, aI V 4 fz38), (z 39, aJ V 160 fz39)]) hP [3, 4, 0, 1, 2, 5, 6, 7] rfl
    have hD := hD.sub (ws' := [(z 0, .inr (10, mo z 0 pz0_5 pz0_6 pz0_7 pz0_8 pz0_9 pz0_10 pz0_11 pz0_12 pz0_13 pz0_14 pz0_18 pz0_19 pz0_22 pz0_23 pz0_29)), (z 1, aI V 3075 fz1), (z 15, aI V 900 fz15), (z 16, aI V 6 fz16), (z 36, aI V 10 fz36), (z 37, aI V 4 fz37), (z 38, aI V 4 fz38), (z 39, aJ V 160 fz39)]) [3, 4, 0, 1, 2, 5, 6, 7] rfl rfl
    exact fiI hx hb hr hlk hK hP hD hS dX10_attempt_18 (Nat.le_of_ble_eq_true rfl) (Nat.le_of_ble_eq_true rfl) (⟨0, fz15, fz16, fz36, tfz16, hf0, rfl⟩)
theorem dX10_otherAt_0 : decode cX10_otherAt 0 = .ok (.iconst 0, 1) := by decide +kernel
theorem dX10_otherAt_1 : decode cX10_otherAt 1 = .ok (.istore_n 2, 1) := by decide +kernel
theorem dX10_otherAt_2 : decode cX10_otherAt 2 = .ok (.iconst 0, 1) := by decide +kernel
theorem dX10_otherAt_3 : decode cX10_otherAt 3 = .ok (.istore_n 3, 1) := by decide +kernel
theorem dX10_otherAt_4 : decode cX10_otherAt 4 = .ok (.iload_n 3, 1) := by decide +kernel
theorem dX10_otherAt_5 : decode cX10_otherAt 5 = .ok (.iconst 4, 1) := by decide +kernel
theorem dX10_otherAt_6 : decode cX10_otherAt 6 = .ok (.if_icmp .ge 74, 3) := by decide +kernel
theorem dX10_otherAt_80 : decode cX10_otherAt 80 = .ok (.iload_n 2, 1) := by decide +kernel
theorem dX10_otherAt_81 : decode cX10_otherAt 81 = .ok (.ireturn, 1) := by decide +kernel
theorem dX10_otherAt_9 : decode cX10_otherAt 9 = .ok (.aload_n 0, 1) := by decide +kernel
theorem dX10_otherAt_10 : decode cX10_otherAt 10 = .ok (.getfield 49, 3) := by decide +kernel
theorem dX10_otherAt_13 : decode cX10_otherAt 13 = .ok (.iconst 4, 1) := by decide +kernel
theorem dX10_otherAt_14 : decode cX10_otherAt 14 = .ok (.iload_n 1, 1) := by decide +kernel
theorem dX10_otherAt_15 : decode cX10_otherAt 15 = .ok (.imul, 1) := by decide +kernel
theorem dX10_otherAt_16 : decode cX10_otherAt 16 = .ok (.iload_n 3, 1) := by decide +kernel
theorem dX10_otherAt_17 : decode cX10_otherAt 17 = .ok (.iadd, 1) := by decide +kernel
theorem dX10_otherAt_18 : decode cX10_otherAt 18 = .ok (.iaload, 1) := by decide +kernel
theorem dX10_otherAt_19 : decode cX10_otherAt 19 = .ok (.istore 4, 2) := by decide +kernel
theorem dX10_otherAt_21 : decode cX10_otherAt 21 = .ok (.iload 4, 2) := by decide +kernel
theorem dX10_otherAt_23 : decode cX10_otherAt 23 = .ok (.iconst (-1), 1) := by decide +kernel
theorem dX10_otherAt_24 : decode cX10_otherAt 24 = .ok (.if_icmp .ne 6, 3) := by decide +kernel
theorem dX10_otherAt_30 : decode cX10_otherAt 30 = .ok (.aload_n 0, 1) := by decide +kernel
theorem dX10_otherAt_31 : decode cX10_otherAt 31 = .ok (.getfield 52, 3) := by decide +kernel
theorem dX10_otherAt_34 : decode cX10_otherAt 34 = .ok (.iload 4, 2) := by decide +kernel
theorem dX10_otherAt_36 : decode cX10_otherAt 36 = .ok (.iaload, 1) := by decide +kernel
theorem dX10_otherAt_37 : decode cX10_otherAt 37 = .ok (.ldc_w 361, 3) := by decide +kernel
theorem dX10_otherAt_40 : decode cX10_otherAt 40 = .ok (.if_icmp .ne 7, 3) := by decide +kernel
theorem dX10_otherAt_47 : decode cX10_otherAt 47 = .ok (.aload_n 0, 1) := by decide +kernel
theorem dX10_otherAt_48 : decode cX10_otherAt 48 = .ok (.getfield 52, 3) := by decide +kernel
theorem dX10_otherAt_51 : decode cX10_otherAt 51 = .ok (.iload 4, 2) := by decide +kernel
theorem dX10_otherAt_53 : decode cX10_otherAt 53 = .ok (.iaload, 1) := by decide +kernel
theorem dX10_otherAt_54 : decode cX10_otherAt 54 = .ok (.iconst 1, 1) := by decide +kernel
theorem dX10_otherAt_55 : decode cX10_otherAt 55 = .ok (.iadd, 1) := by decide +kernel
theorem dX10_otherAt_56 : decode cX10_otherAt 56 = .ok (.iload_n 2, 1) := by decide +kernel
theorem dX10_otherAt_57 : decode cX10_otherAt 57 = .ok (.if_icmp .le 15, 3) := by decide +kernel
theorem dX10_otherAt_72 : decode cX10_otherAt 72 = .ok (.iload_n 2, 1) := by decide +kernel
theorem dX10_otherAt_73 : decode cX10_otherAt 73 = .ok (.istore_n 2, 1) := by decide +kernel
theorem dX10_otherAt_74 : decode cX10_otherAt 74 = .ok (.iinc 3 1, 3) := by decide +kernel
theorem dX10_otherAt_77 : decode cX10_otherAt 77 = .ok (.goto (-73), 3) := by decide +kernel
theorem dX10_otherAt_60 : decode cX10_otherAt 60 = .ok (.aload_n 0, 1) := by decide +kernel
theorem dX10_otherAt_61 : decode cX10_otherAt 61 = .ok (.getfield 52, 3) := by decide +kernel
theorem dX10_otherAt_64 : decode cX10_otherAt 64 = .ok (.iload 4, 2) := by decide +kernel
theorem dX10_otherAt_66 : decode cX10_otherAt 66 = .ok (.iaload, 1) := by decide +kernel
theorem dX10_otherAt_67 : decode cX10_otherAt 67 = .ok (.iconst 1, 1) := by decide +kernel
theorem dX10_otherAt_68 : decode cX10_otherAt 68 = .ok (.iadd, 1) := by decide +kernel
theorem dX10_otherAt_69 : decode cX10_otherAt 69 = .ok (.goto 4, 3) := by decide +kernel
theorem dX10_otherAt_43 : decode cX10_otherAt 43 = .ok (.ldc_w 361, 3) := by decide +kernel
theorem dX10_otherAt_46 : decode cX10_otherAt 46 = .ok (.ireturn, 1) := by decide +kernel
theorem dX10_otherAt_27 : decode cX10_otherAt 27 = .ok (.goto 47, 3) := by decide +kernel
set_option maxHeartbeats 4000000 in
set_option maxRecDepth 100000 in
theorem k_X10_otherAt_0 (l : Launch) (V : GV) (z : Nat → Nat) (a1 : Int32) (fz26 : Nat → Int32) (fz25 : Nat → Int32) (pz0_0 : Int32) (pz0_5 : Int32) (pz0_6 : Int32) (pz0_7 : Int32) (pz0_8 : Int32) (pz0_9 : Int32) (pz0_10 : Int32) (pz0_11 : Int32) (pz0_12 : Int32) (pz0_13 : Int32) (pz0_14 : Int32) (pz0_18 : Int32) (pz0_19 : Int32) (pz0_22 : Int32) (pz0_23 : Int32) (pz0_29 : Int32) (ba1 : iv 0 9999 a1) (tfz26 : ∀ j, iv 0 268435456 (fz26 j)) (tfz25 : ∀ j, iv (-1) 9999 (fz25 j)) (bpz0_5 : iv 0 900 pz0_5) (bpz0_6 : iv 0 900 pz0_6) (bpz0_7 : iv 0 900 pz0_7) (bpz0_8 : iv 0 900 pz0_8) (bpz0_10 : iv 0 999 pz0_10) (bpz0_11 : iv 0 4 pz0_11) (bpz0_12 : iv 0 900 pz0_12) (bpz0_13 : iv 0 4 pz0_13) (bpz0_14 : iv (-1) 900 pz0_14) (bpz0_18 : iv 0 2 pz0_18) (bpz0_22 : iv 0 9999 pz0_22) (bpz0_29 : iv 0 10000 pz0_29) : Ct l V yX10_otherAt (.code yX10_otherAt cX10_otherAt 5 (some .int)) 1 [.ref (z 0), .int a1] [(z 26, aI V 10000 fz26), (z 25, aI V 40000 fz25), (z 0, .inr (10, mo z pz0_0 pz0_5 pz0_6 pz0_7 pz0_8 pz0_9 pz0_10 pz0_11 pz0_12 pz0_13 pz0_14 pz0_18 pz0_19 pz0_22 pz0_23 pz0_29))] 0 0 (QI V (fun (r : Int32) (w : va_W) => iv 0 268435456 r ∧ w = [(z 26, aI V 10000 fz26), (z 25, aI V 40000 fz25), (z 0, .inr (10, mo z pz0_0 pz0_5 pz0_6 pz0_7 pz0_8 pz0_9 pz0_10 pz0_11 pz0_12 pz0_13 pz0_14 pz0_18 pz0_19 pz0_22 pz0_23 pz0_29))])) := by
  refine Ct.of (by decide) (Nat.le_of_ble_eq_true rfl) (fun p e s m below meth c A ls hx hb hr hml hown hlk hnm hg hP hK hD hE hA hS hl => ?_)
  have hl : lv_has ls 5 [(0, .ref (z 0)), (1, .int a1)] := hl
  refine lv_iconst (v := 0) hx hb dX10_otherAt_0 (by decide) ?_
  refine lv_istore_n (lv' := [(2, .int 0), (0, .ref (z 0)), (1, .int a1)]) hx hb dX10_otherAt_1 rfl hl (by decide) rfl (fun ls hl => ?_)
  refine lv_iconst (v := 0) hx hb dX10_otherAt_2 (by decide) ?_
  refine lv_istore_n (lv' := [(3, .int 0), (2, .int 0), (0, .ref (z 0)), (1, .int a1)]) hx hb dX10_otherAt_3 rfl hl (by decide) rfl (fun ls hl => ?_)
  refine loopF (X := fun (n_3 : Nat) (H : Heap) (locs : List Loc) (ls : Array Slot) => ∃ (u_1 : Int32) (u_2 : Int32), (iv 0 4 u_1) ∧ (iv 0 268435456 u_2) ∧ n_3 = (2147483647 - (u_1 : Int32).toInt).toNat ∧ va_P V.1 vwCl [(z 26, aI V 10000 fz26), (z 25, aI V 40000 fz25), (z 0, .inr (10, mo z pz0_0 pz0_5 pz0_6 pz0_7 pz0_8 pz0_9 pz0_10 pz0_11 pz0_12 pz0_13 pz0_14 pz0_18 pz0_19 pz0_22 pz0_23 pz0_29))] H ∧ va_D A [(z 26, aI V 10000 fz26), (z 25, aI V 40000 fz25), (z 0, .inr (10, mo z pz0_0 pz0_5 pz0_6 pz0_7 pz0_8 pz0_9 pz0_10 pz0_11 pz0_12 pz0_13 pz0_14 pz0_18 pz0_19 pz0_22 pz0_23 pz0_29))] ∧ va_S A s.heap H locs ∧ lv_has ls 5 [(3, .int u_1), (2, .int u_2), (0, .ref (z 0)), (1, .int a1)]) (g := fun ls => F0 m 4 ls []) (fun n_3 H locs ls hX ihn_3 => ?_) _ ⟨0, 0, (iv_c (0 : Int32) (by decide)), (iv_c (0 : Int32) (by decide)), rfl, hP, hD, hS, lv_sub hl [0, 1, 2, 3] rfl⟩
  obtain ⟨u_1, u_2, bu_1, bu_2, en_3, hP, hD, hS, hl⟩ := hX
  refine lv_iload_n hx hb dX10_otherAt_4 rfl (lv_at hl 0 rfl) ?_
  refine lv_iconst (v := 4) hx hb dX10_otherAt_5 (by decide) ?_
  refine lv_icmp_ge (tgt := 80) hx hb dX10_otherAt_6 (by decide) (fun c_4 => ?_) (fun c_4 => ?_)
  · have b_5 : iv 4 4 u_1 := iv_e2 c_4 (iv_c (4 : Int32) (a := 4) (b := 4) (by decide)) bu_1 (by decide)
    refine lv_iload_n hx hb dX10_otherAt_80 rfl (lv_at hl 1 rfl) ?_
    exact fiI hx hb hr hlk hK hP hD hS dX10_otherAt_81 (Nat.le_of_ble_eq_true rfl) (Nat.le_of_ble_eq_true rfl) (⟨bu_2, rfl⟩)
  · have b_6 : iv 0 3 u_1 := iv_l1 (Int32.not_le.mp c_4) bu_1 (iv_c (4 : Int32) (a := 4) (b := 4) (by decide)) (by decide)
    refine lv_aload_n hx hb dX10_otherAt_9 rfl (lv_at hl 2 rfl) ?_
    refine va_get (ci := 10) (v := .ref (z 25)) (C := RX10) (T := TX10) (N := 40) hx hb hg inX10 hown hK hP 2 rfl rfl 25 (by decide) (hg _ q_6_9) (fun _ h9 => h9) rfl dX10_otherAt_10 ?_
    refine lv_iconst (v := 4) hx hb dX10_otherAt_13 (by decide) ?_
    refine lv_iload_n hx hb dX10_otherAt_14 rfl (lv_at hl 3 rfl) ?_
    refine lv_imul hx hb dX10_otherAt_15 ?_
    refine lv_topi (fun x_7 ex_7 => ?_)
    have bx_7 : iv 0 39996 x_7 := by rw [ex_7]; exact iv_cmul (iv_c (4 : Int32) (a := 4) (b := 4) (by decide)) ba1 (by decide)
    refine lv_iload_n hx hb dX10_otherAt_16 rfl (lv_at hl 0 rfl) ?_
    refine lv_iadd hx hb dX10_otherAt_17 ?_
    refine lv_topi (fun x_8 ex_8 => ?_)
    have bx_8 : iv 0 39999 x_8 := by rw [ex_8]; exact iv_add bx_7 b_6 (by decide)
    refine va_iald hx hb hK hP 1 0 rfl rfl (iv_in bx_8 (by decide)) dX10_otherAt_18 ?_
    refine lv_topi (fun x_9 ex_9 => ?_)
    have bx_9 : iv (-1) 9999 x_9 := by rw [ex_9]; exact tfz25 _
    refine lv_istore (lv' := [(4, .int x_9), (3, .int u_1), (2, .int u_2), (0, .ref (z 0)), (1, .int a1)]) hx hb dX10_otherAt_19 hl (by decide) rfl (fun ls hl => ?_)
    refine lv_iload hx hb dX10_otherAt_21 (lv_at hl 0 rfl) ?_
    refine lv_iconst (v := (-1)) hx hb dX10_otherAt_23 (by decide) ?_
    refine lv_icmp_ne (tgt := 30) hx hb dX10_otherAt_24 (by decide) (fun c_10 => ?_) (fun c_10 => ?_)
    · have b_11 : iv 0 9999 x_9 := iv_n0 c_10 bx_9 (iv_c ((-1) : Int32) (a := (-1)) (b := (-1)) (by decide)) (by decide)
      refine lv_aload_n hx hb dX10_otherAt_30 rfl (lv_at hl 3 rfl) ?_
      refine va_get (ci := 10) (v := .ref (z 26)) (C := RX10) (T := TX10) (N := 40) hx hb hg inX10 hown hK hP 2 rfl rfl 26 (by decide) (hg _ q_6_10) (fun _ h9 => h9) rfl dX10_otherAt_31 ?_
      refine lv_iload hx hb dX10_otherAt_34 (lv_at hl 0 rfl) ?_
      refine va_iald hx hb hK hP 0 0 rfl rfl (iv_in b_11 (by decide)) dX10_otherAt_36 ?_
      refine lv_topi (fun x_12 ex_12 => ?_)
      have bx_12 : iv 0 268435456 x_12 := by rw [ex_12]; exact tfz26 _
      refine lv_ldcw (v := 268435456) hx hb hown (hg _ q_7_202) dX10_otherAt_37 ?_
      refine lv_icmp_ne (tgt := 47) hx hb dX10_otherAt_40 (by decide) (fun c_13 => ?_) (fun c_13 => ?_)
      · have b_14 : iv 0 268435455 x_12 := iv_n1 c_13 bx_12 (iv_c (268435456 : Int32) (a := 268435456) (b := 268435456) (by decide)) (by decide)
        refine lv_aload_n hx hb dX10_otherAt_47 rfl (lv_at hl 3 rfl) ?_
        refine va_get (ci := 10) (v := .ref (z 26)) (C := RX10) (T := TX10) (N := 40) hx hb hg inX10 hown hK hP 2 rfl rfl 26 (by decide) (hg _ q_6_10) (fun _ h9 => h9) rfl dX10_otherAt_48 ?_
        refine lv_iload hx hb dX10_otherAt_51 (lv_at hl 0 rfl) ?_
        refine va_iald hx hb hK hP 0 0 rfl rfl (iv_in b_11 (by decide)) dX10_otherAt_53 ?_
        refine tpi (y := x_12) ex_12.symm ?_
        refine lv_iconst (v := 1) hx hb dX10_otherAt_54 (by decide) ?_
        refine lv_iadd hx hb dX10_otherAt_55 ?_
        refine lv_topi (fun x_15 ex_15 => ?_)
        have bx_15 : iv 1 268435456 x_15 := by rw [ex_15]; exact iv_add b_14 (iv_c (1 : Int32) (a := 1) (b := 1) (by decide)) (by decide)
        refine lv_iload_n hx hb dX10_otherAt_56 rfl (lv_at hl 2 rfl) ?_
        refine lv_icmp_le (tgt := 72) hx hb dX10_otherAt_57 (by decide) (fun c_16 => ?_) (fun c_16 => ?_)
        · have b_17 : iv 1 268435456 u_2 := iv_e2 c_16 bx_15 bu_2 (by decide)
          refine lv_iload_n hx hb dX10_otherAt_72 rfl (lv_at hl 2 rfl) ?_
          refine lv_istore_n (lv' := [(2, .int u_2), (4, .int x_9), (3, .int u_1), (0, .ref (z 0)), (1, .int a1)]) hx hb dX10_otherAt_73 rfl hl (by decide) rfl (fun ls hl => ?_)
          obtain ⟨x_18, ex_18⟩ : ∃ z9 : Int32, z9 = u_1 + 1 := ⟨_, rfl⟩
          have bx_18 : iv 1 4 x_18 := by rw [ex_18]; exact iv_add b_6 (iv_c (1 : Int32) (a := 1) (b := 1) (by decide)) (by decide)
          refine lv_iinc (v := x_18) (lv' := [(3, .int x_18), (2, .int u_2), (4, .int x_9), (0, .ref (z 0)), (1, .int a1)]) hx hb dX10_otherAt_74 hl (k := 2) rfl (by rw [ex_18]; rfl) (by decide) rfl (fun ls hl => ?_)
          refine lv_goto (tgt := 4) hx hb dX10_otherAt_77 (by decide) ?_
          exact ihn_3 _ _ _ _ (by rw [en_3, ex_18]; exact mu_up b_6 (by decide)) ⟨x_18, u_2, (iv_w bx_18 (by decide)), (iv_w b_17 (by decide)), rfl, hP, hD, hS, lv_sub hl [0, 1, 3, 4] rfl⟩
        · have b_19 : iv 0 268435455 u_2 := iv_l1 (Int32.not_le.mp c_16) bu_2 bx_15 (by decide)
          refine lv_aload_n hx hb dX10_otherAt_60 rfl (lv_at hl 3 rfl) ?_
          refine va_get (ci := 10) (v := .ref (z 26)) (C := RX10) (T := TX10) (N := 40) hx hb hg inX10 hown hK hP 2 rfl rfl 26 (by decide) (hg _ q_6_10) (fun _ h9 => h9) rfl dX10_otherAt_61 ?_
          refine lv_iload hx hb dX10_otherAt_64 (lv_at hl 0 rfl) ?_
          refine va_iald hx hb hK hP 0 0 rfl rfl (iv_in b_11 (by decide)) dX10_otherAt_66 ?_
          refine tpi (y := x_12) ex_12.symm ?_
          refine lv_iconst (v := 1) hx hb dX10_otherAt_67 (by decide) ?_
          refine lv_iadd hx hb dX10_otherAt_68 ?_
          refine tpi (y := x_15) ex_15.symm ?_
          refine lv_goto (tgt := 73) hx hb dX10_otherAt_69 (by decide) ?_
          refine lv_istore_n (lv' := [(2, .int x_15), (4, .int x_9), (3, .int u_1), (0, .ref (z 0)), (1, .int a1)]) hx hb dX10_otherAt_73 rfl hl (by decide) rfl (fun ls hl => ?_)
          obtain ⟨x_20, ex_20⟩ : ∃ z9 : Int32, z9 = u_1 + 1 := ⟨_, rfl⟩
          have bx_20 : iv 1 4 x_20 := by rw [ex_20]; exact iv_add b_6 (iv_c (1 : Int32) (a := 1) (b := 1) (by decide)) (by decide)
          refine lv_iinc (v := x_20) (lv' := [(3, .int x_20), (2, .int x_15), (4, .int x_9), (0, .ref (z 0)), (1, .int a1)]) hx hb dX10_otherAt_74 hl (k := 2) rfl (by rw [ex_20]; rfl) (by decide) rfl (fun ls hl => ?_)
          refine lv_goto (tgt := 4) hx hb dX10_otherAt_77 (by decide) ?_
          exact ihn_3 _ _ _ _ (by rw [en_3, ex_20]; exact mu_up b_6 (by decide)) ⟨x_20, x_15, (iv_w bx_20 (by decide)), (iv_w bx_15 (by decide)), rfl, hP, hD, hS, lv_sub hl [0, 1, 3, 4] rfl⟩
      · have b_21 : iv 268435456 268435456 x_12 := iv_q c_13 (iv_c (268435456 : Int32) (a := 268435456) (b := 268435456) (by decide))
        refine lv_ldcw (v := 268435456) hx hb hown (hg _ q_7_202) dX10_otherAt_43 ?_
        exact fiI hx hb hr hlk hK hP hD hS dX10_otherAt_46 (Nat.le_of_ble_eq_true rfl) (Nat.le_of_ble_eq_true rfl) (⟨(iv_c (268435456 : Int32) (by decide)), rfl⟩)
    · have b_22 : iv (-1) (-1) x_9 := iv_q c_10 (iv_c ((-1) : Int32) (a := (-1)) (b := (-1)) (by decide))
      refine lv_goto (tgt := 74) hx hb dX10_otherAt_27 (by decide) ?_
      obtain ⟨x_23, ex_23⟩ : ∃ z9 : Int32, z9 = u_1 + 1 := ⟨_, rfl⟩
      have bx_23 : iv 1 4 x_23 := by rw [ex_23]; exact iv_add b_6 (iv_c (1 : Int32) (a := 1) (b := 1) (by decide)) (by decide)
      refine lv_iinc (v := x_23) (lv' := [(3, .int x_23), (4, .int x_9), (2, .int u_2), (0, .ref (z 0)), (1, .int a1)]) hx hb dX10_otherAt_74 hl (k := 1) rfl (by rw [ex_23]; rfl) (by decide) rfl (fun ls hl => ?_)
      refine lv_goto (tgt := 4) hx hb dX10_otherAt_77 (by decide) ?_
      exact ihn_3 _ _ _ _ (by rw [en_3, ex_23]; exact mu_up b_6 (by decide)) ⟨x_23, u_2, (iv_w bx_23 (by decide)), bu_2, rfl, hP, hD, hS, lv_sub hl [0, 2, 3, 4] rfl⟩
