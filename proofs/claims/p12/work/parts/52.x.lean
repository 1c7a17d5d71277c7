theorem dX10_lies_0 : decode cX10_lies 0 = .ok (.aload_n 0, 1) := by decide +kernel
theorem dX10_lies_1 : decode cX10_lies 1 = .ok (.iconst 0, 1) := by decide +kernel
theorem dX10_lies_2 : decode cX10_lies 2 = .ok (.putfield 1, 3) := by decide +kernel
theorem dX10_lies_5 : decode cX10_lies 5 = .ok (.aload_n 0, 1) := by decide +kernel
theorem dX10_lies_6 : decode cX10_lies 6 = .ok (.iload_n 1, 1) := by decide +kernel
theorem dX10_lies_7 : decode cX10_lies 7 = .ok (.i2l, 1) := by decide +kernel
theorem dX10_lies_8 : decode cX10_lies 8 = .ok (.invokevirtual 262, 3) := by decide +kernel
theorem dX10_lies_11 : decode cX10_lies 11 = .ok (.ifCond .ne 6, 3) := by decide +kernel
theorem dX10_lies_17 : decode cX10_lies 17 = .ok (.iload_n 2, 1) := by decide +kernel
theorem dX10_lies_18 : decode cX10_lies 18 = .ok (.i2l, 1) := by decide +kernel
theorem dX10_lies_19 : decode cX10_lies 19 = .ok (.lconst 0, 1) := by decide +kernel
theorem q_7_157 : Cond.constantLong "BeaconDelayModel" 347 (99999 : Int64) ∈ gw := gw_7 (i := 157) (by decide +kernel) rfl
theorem dX10_lies_20 : decode cX10_lies 20 = .ok (.ldc2_w 347, 3) := by decide +kernel
theorem dX10_lies_23 : decode cX10_lies 23 = .ok (.invokestatic 159, 3) := by decide +kernel
theorem dX10_lies_26 : decode cX10_lies 26 = .ok (.ifCond .ne 6, 3) := by decide +kernel
theorem dX10_lies_32 : decode cX10_lies 32 = .ok (.aload_n 0, 1) := by decide +kernel
theorem q_7_161 : Cond.code yX10_laysLine prog_12_method_76_code 3 none ∈ gw := gw_7 (i := 161) (rfl) rfl
theorem q_7_160 : Cond.instanceMethod yX10_laysLine ∈ gw := gw_7 (i := 160) (by decide +kernel) rfl
theorem q_s_101 : Cond.selects "BeaconDelayModel" yX10_laysLine yX10_laysLine ∈ gw := gw_s (i := 101) (by decide +kernel) rfl
theorem mt_X10_laysLine : MtV yX10_laysLine cX10_laysLine 3 none 0 := ⟨⟨q_7_161, q_1_9, by decide +kernel, by decide +kernel, by decide +kernel⟩, q_7_160, q_s_101⟩
theorem q_7_158 : Cond.methodLink "BeaconDelayModel" 349 yX10_laysLine ∈ gw := gw_7 (i := 158) (by decide +kernel) rfl
theorem dX10_lies_33 : decode cX10_lies 33 = .ok (.invokevirtual 349, 3) := by decide +kernel
theorem dX10_lies_36 : decode cX10_lies 36 = .ok (.aload_n 0, 1) := by decide +kernel
theorem dX10_lies_37 : decode cX10_lies 37 = .ok (.iload_n 2, 1) := by decide +kernel
theorem q_7_165 : Cond.code yX10_standAt prog_12_method_77_code 2 (some FieldType.int) ∈ gw := gw_7 (i := 165) (rfl) rfl
theorem q_7_164 : Cond.instanceMethod yX10_standAt ∈ gw := gw_7 (i := 164) (by decide +kernel) rfl
theorem q_s_102 : Cond.selects "BeaconDelayModel" yX10_standAt yX10_standAt ∈ gw := gw_s (i := 102) (by decide +kernel) rfl
theorem mt_X10_standAt : MtV yX10_standAt cX10_standAt 2 (some .int) 1 := ⟨⟨q_7_165, q_1_9, by decide +kernel, by decide +kernel, by decide +kernel⟩, q_7_164, q_s_102⟩
theorem q_7_162 : Cond.methodLink "BeaconDelayModel" 352 yX10_standAt ∈ gw := gw_7 (i := 162) (by decide +kernel) rfl
theorem dX10_lies_38 : decode cX10_lies 38 = .ok (.invokevirtual 352, 3) := by decide +kernel
theorem dX10_lies_41 : decode cX10_lies 41 = .ok (.iload_n 1, 1) := by decide +kernel
theorem dX10_lies_42 : decode cX10_lies 42 = .ok (.invokestatic 231, 3) := by decide +kernel
theorem dX10_lies_45 : decode cX10_lies 45 = .ok (.ireturn, 1) := by decide +kernel
theorem dX10_lies_29 : decode cX10_lies 29 = .ok (.bipush (-3), 2) := by decide +kernel
theorem dX10_lies_31 : decode cX10_lies 31 = .ok (.ireturn, 1) := by decide +kernel
theorem dX10_lies_14 : decode cX10_lies 14 = .ok (.bipush (-2), 2) := by decide +kernel
theorem dX10_lies_16 : decode cX10_lies 16 = .ok (.ireturn, 1) := by decide +kernel
set_option maxHeartbeats 4000000 in
set_option maxRecDepth 100000 in
theorem k_X10_lies_0 (l : Launch) (V : GV) (z : Nat → Nat) (a1 : Int32) (a2 : Int32) (pz0_0 : Int32) (pz0_5 : Int32) (pz0_6 : Int32) (pz0_7 : Int32) (pz0_8 : Int32) (pz0_9 : Int32) (pz0_10 : Int32) (pz0_11 : Int32) (pz0_12 : Int32) (pz0_13 : Int32) (pz0_14 : Int32) (pz0_18 : Int32) (pz0_19 : Int32) (pz0_22 : Int32) (pz0_23 : Int32) (pz0_29 : Int32) (fz1 : Nat → Int32) (fz15 : Nat → Int32) (fz16 : Nat → Int32) (fz20 : Nat → Int32) (fz21 : Nat → Int32) (bpz0_5 : iv 0 900 pz0_5) (bpz0_6 : iv 0 900 pz0_6) (bpz0_7 : iv 0 900 pz0_7) (bpz0_8 : iv 0 900 pz0_8) (bpz0_10 : iv 0 999 pz0_10) (bpz0_11 : iv 0 4 pz0_11) (bpz0_12 : iv 0 900 pz0_12) (bpz0_13 : iv 0 4 pz0_13) (bpz0_14 : iv (-1) 900 pz0_14) (bpz0_18 : iv 0 2 pz0_18) (bpz0_22 : iv 0 9999 pz0_22) (bpz0_29 : iv 0 10000 pz0_29) (tfz1 : ivT tA fz1) (tfz16 : ivT tW fz16) (tfz20 : ∀ j, iv 0 9999 (fz20 j)) (tfz21 : ∀ j, iv (-1) 9999 (fz21 j)) (hf0 : RW fz1) : Ct l V yX10_lies (.code yX10_lies cX10_lies 3 (some .int)) 6 [.ref (z 0), .int a1, .int a2] [(z 0, .inr (10, mo z pz0_0 pz0_5 pz0_6 pz0_7 pz0_8 pz0_9 pz0_10 pz0_11 pz0_12 pz0_13 pz0_14 pz0_18 pz0_19 pz0_22 pz0_23 pz0_29)), (z 1, aI V 3075 fz1), (z 15, aI V 900 fz15), (z 16, aI V 6 fz16), (z 20, aI V 10001 fz20), (z 21, aI V 10000 fz21)] 0 0 (QI V (fun (r : Int32) (w : va_W) => ∃ (v0 : Int32) (v1 : Int32) (v2 : Int32) (g3 : Nat → Int32) (g4 : Nat → Int32) (g5 : Nat → Int32) (g6 : Nat → Int32), iv 0 9999 v1 ∧ (ivT tW g4) ∧ (∀ j, iv 0 9999 (g5 j)) ∧ (∀ j, iv (-1) 9999 (g6 j)) ∧ iv (-3) 4 r ∧ (RW fz1) ∧ w = [(z 0, .inr (10, mo z v0 pz0_5 pz0_6 pz0_7 pz0_8 pz0_9 pz0_10 pz0_11 pz0_12 pz0_13 pz0_14 pz0_18 pz0_19 v1 v2 pz0_29)), (z 1, aI V 3075 fz1), (z 15, aI V 900 g3), (z 16, aI V 6 g4), (z 20, aI V 10001 g5), (z 21, aI V 10000 g6)])) := by
  refine Ct.of (by decide) (Nat.le_of_ble_eq_true rfl) (fun p e s m below meth c A ls hx hb hr hml hown hlk hnm hg hP hK hD hE hA hS hl => ?_)
  have hl : lv_has ls 3 [(0, .ref (z 0)), (1, .int a1), (2, .int a2)] := hl
  refine lv_aload_n hx hb dX10_lies_0 rfl (lv_at hl 0 rfl) ?_
  refine lv_iconst (v := 0) hx hb dX10_lies_1 (by decide) ?_
  refine va_put (ci := 10) (v := .int 0) (ty := .int) (C := RX10) (T := TX10) (N := 40) hx hb hg inX10 tyX10 tyX10_ok nmX10 hown hK hP hD hS 0 rfl rfl 0 (by decide) (hg _ q_5_224) (fun _ h9 => h9) rfl (by decide +kernel) rfl rfl (Nat.le_of_ble_eq_true rfl) dX10_lies_2 (fun H locs hP hD hS => ?_)
  have hP : va_P V.1 vwCl [(z 0, .inr (10, mo z 0 pz0_5 pz0_6 pz0_7 pz0_8 pz0_9 pz0_10 pz0_11 pz0_12 pz0_13 pz0_14 pz0_18 pz0_19 pz0_22 pz0_23 pz0_29)), (z 1, aI V 3075 fz1), (z 15, aI V 900 fz15), (z 16, aI V 6 fz16), (z 20, aI V 10001 fz20), (z 21, aI V 10000 fz21)] H := hP
  have hD := cpD hP hD
  refine lv_aload_n hx hb dX10_lies_5 rfl (lv_at hl 0 rfl) ?_
  refine lv_iload_n hx hb dX10_lies_6 rfl (lv_at hl 1 rfl) ?_
  refine lv_i2l hx hb dX10_lies_7 rfl ?_
  refine lv_topl (fun j_1 ej_1 => ?_)
  refine jnI (wr := [(z 15, aI V 900 fz15), (z 16, aI V 6 fz16), (z 20, aI V 10001 fz20), (z 21, aI V 10000 fz21)]) (rnV (rest := []) ⟨hx, hb, hml, hown, hg⟩ (k_X10_isHill_0 l V z j_1 0 pz0_5 pz0_6 pz0_7 pz0_8 pz0_9 pz0_10 pz0_11 pz0_12 pz0_13 pz0_14 pz0_18 pz0_19 pz0_22 pz0_23 pz0_29 fz1 bpz0_5 bpz0_6 bpz0_7 bpz0_8 bpz0_10 bpz0_11 bpz0_12 bpz0_13 bpz0_14 bpz0_18 bpz0_22 bpz0_29 tfz1) mt_X10_isHill q_6_235 ⟨Nat.le_of_ble_eq_true rfl, Nat.le_of_ble_eq_true rfl⟩ hK hP hD hS hA hE [0, 1] rfl rfl 0 rfl rfl rfl rfl hl.1 rfl (Nat.le_of_ble_eq_true rfl) dX10_lies_8 ⟨Nat.le_of_ble_eq_true rfl, Nat.le_of_ble_eq_true rfl⟩) hP hD hS hA [0, 1] [2, 3, 4, 5] rfl rfl rfl (by decide) (fun r_2 w H locs hw hP hD hS => ?_)
  obtain ⟨br_2, g_3, et_4, rfl⟩ := hw
  have hP : va_P V.1 vwCl [(z 15, aI V 900 fz15), (z 16, aI V 6 fz16), (z 20, aI V 10001 fz20), (z 21, aI V 10000 fz21), (z 0, .inr (10, mo z 0 pz0_5 pz0_6 pz0_7 pz0_8 pz0_9 pz0_10 pz0_11 pz0_12 pz0_13 pz0_14 pz0_18 pz0_19 pz0_22 pz0_23 pz0_29)), (z 1, aI V 3075 fz1)] H := hP
  have hD := cpD hP hD
  refine lv_if_ne (tgt := 17) hx hb dX10_lies_11 (by decide) (fun c_5 => ?_) (fun c_5 => ?_)
  · have b_6 : iv 1 1 r_2 := iv_n0 c_5 br_2 (iv_c (0 : Int32) (a := 0) (b := 0) (by decide)) (by decide)
    have b_7 : ivL 0 3 j_1 := ivL_cap (g_3 (iv_eqp b_6 (iv_c (1 : Int32) (by decide)))) (ivL_top j_1) (by decide)
    have b_8 : iv 0 3 a1 := iv_cap (ivL_i ej_1 b_7) (iv_top a1) (by decide)
    refine lv_iload_n hx hb dX10_lies_17 rfl (lv_at hl 2 rfl) ?_
    refine lv_i2l hx hb dX10_lies_18 rfl ?_
    refine lv_topl (fun j_9 ej_9 => ?_)
    refine lv_lconst (v := 0) hx hb dX10_lies_19 (by decide) ?_
    refine lv_ldc2 (v := 99999) hx hb hown (hg _ q_7_157) dX10_lies_20 ?_
    refine jnI (wr := [(z 15, aI V 900 fz15), (z 16, aI V 6 fz16), (z 20, aI V 10001 fz20), (z 21, aI V 10000 fz21), (z 0, .inr (10, mo z 0 pz0_5 pz0_6 pz0_7 pz0_8 pz0_9 pz0_10 pz0_11 pz0_12 pz0_13 pz0_14 pz0_18 pz0_19 pz0_22 pz0_23 pz0_29)), (z 1, aI V 3075 fz1)]) (rnS (rest := []) ⟨hx, hb, hml, hown, hg⟩ (k_X10_within_0 l V j_9 0 99999) mt_X10_within q_6_114 ⟨Nat.le_of_ble_eq_true rfl, Nat.le_of_ble_eq_true rfl⟩ hK hP hD hS hA hE [] rfl rfl rfl hl.1 rfl (Nat.le_of_ble_eq_true rfl) dX10_lies_23 ⟨Nat.le_of_ble_eq_true rfl, Nat.le_of_ble_eq_true rfl⟩) hP hD hS hA [] [0, 1, 2, 3, 4, 5] rfl rfl rfl (by decide) (fun r_10 w H locs hw hP hD hS => ?_)
    obtain ⟨br_10, g_11, g_12, g_13, et_14, rfl⟩ := hw
    have hP : va_P V.1 vwCl [(z 15, aI V 900 fz15), (z 16, aI V 6 fz16), (z 20, aI V 10001 fz20), (z 21, aI V 10000 fz21), (z 0, .inr (10, mo z 0 pz0_5 pz0_6 pz0_7 pz0_8 pz0_9 pz0_10 pz0_11 pz0_12 pz0_13 pz0_14 pz0_18 pz0_19 pz0_22 pz0_23 pz0_29)), (z 1, aI V 3075 fz1)] H := hP
    have hD := cpD hP hD
    refine lv_if_ne (tgt := 32) hx hb dX10_lies_26 (by decide) (fun c_15 => ?_) (fun c_15 => ?_)
    · have b_16 : iv 1 1 r_10 := iv_n0 c_15 br_10 (iv_c (0 : Int32) (a := 0) (b := 0) (by decide)) (by decide)
      have c_17 : (0 : Int64) ≤ j_9 := (g_12 (iv_eqp b_16 (iv_c (1 : Int32) (by decide))))
      have b_18 : ivL 0 9223372036854775807 j_9 := ivL_e2 c_17 (ivL_c (0 : Int64) (a := 0) (b := 0) (by decide)) (ivL_top j_9) (by decide)
      have b_19 : iv 0 2147483647 a2 := iv_cap (ivL_i ej_9 b_18) (iv_top a2) (by decide)
      have c_20 : j_9 ≤ 99999 := (g_13 (iv_eqp b_16 (iv_c (1 : Int32) (by decide))))
      have b_21 : ivL 0 99999 j_9 := ivL_e1 c_20 b_18 (ivL_c (99999 : Int64) (a := 99999) (b := 99999) (by decide)) (by decide)
      have b_22 : iv 0 99999 a2 := iv_cap (ivL_i ej_9 b_21) b_19 (by decide)
      refine lv_aload_n hx hb dX10_lies_32 rfl (lv_at hl 0 rfl) ?_
      refine jnV (wr := []) (rnV (rest := []) ⟨hx, hb, hml, hown, hg⟩ (k_X10_laysLine_0 l V z fz15 fz16 fz20 fz21 0 pz0_5 pz0_6 pz0_7 pz0_8 pz0_9 pz0_10 pz0_11 pz0_12 pz0_13 pz0_14 pz0_18 pz0_19 pz0_22 pz0_23 pz0_29 fz1 tfz16 tfz20 tfz21 bpz0_5 bpz0_6 bpz0_7 bpz0_8 bpz0_10 bpz0_11 bpz0_12 bpz0_13 bpz0_14 bpz0_18 bpz0_22 bpz0_29 tfz1 hf0) mt_X10_laysLine q_7_158 ⟨Nat.le_of_ble_eq_true rfl, Nat.le_of_ble_eq_true rfl⟩ hK hP hD hS hA hE [0, 1, 2, 3, 4, 5] rfl rfl 4 rfl rfl rfl rfl hl.1 rfl (Nat.le_of_ble_eq_true rfl) dX10_lies_33 ⟨Nat.le_of_ble_eq_true rfl, Nat.le_of_ble_eq_true rfl⟩) hP hD hS hA [0, 1, 2, 3, 4, 5] [] rfl rfl rfl (by decide) (fun  w H locs hw hP hD hS => ?_)
      obtain ⟨f_23, f_24, f_25, f_26, v_27, v_28, tf_24, tf_25, tf_26, bv_27, g_29, g_30, rfl⟩ := hw
      have hP : va_P V.1 vwCl [(z 15, aI V 900 f_23), (z 16, aI V 6 f_24), (z 20, aI V 10001 f_25), (z 21, aI V 10000 f_26), (z 0, .inr (10, mo z 0 pz0_5 pz0_6 pz0_7 pz0_8 pz0_9 pz0_10 pz0_11 pz0_12 pz0_13 pz0_14 pz0_18 pz0_19 v_27 v_28 pz0_29)), (z 1, aI V 3075 fz1)] H := hP
      have hD := cpD hP hD
      refine lv_aload_n hx hb dX10_lies_36 rfl (lv_at hl 0 rfl) ?_
      refine lv_iload_n hx hb dX10_lies_37 rfl (lv_at hl 2 rfl) ?_
      refine jnI (wr := [(z 15, aI V 900 f_23), (z 16, aI V 6 f_24), (z 21, aI V 10000 f_26), (z 1, aI V 3075 fz1)]) (rnV (rest := []) ⟨hx, hb, hml, hown, hg⟩ (k_X10_standAt_0 l V z a2 f_25 0 pz0_5 pz0_6 pz0_7 pz0_8 pz0_9 pz0_10 pz0_11 pz0_12 pz0_13 pz0_14 pz0_18 pz0_19 v_27 v_28 pz0_29 b_22 tf_25 bpz0_5 bpz0_6 bpz0_7 bpz0_8 bpz0_10 bpz0_11 bpz0_12 bpz0_13 bpz0_14 bpz0_18 bv_27 bpz0_29 g_30) mt_X10_standAt q_7_162 ⟨Nat.le_of_ble_eq_true rfl, Nat.le_of_ble_eq_true rfl⟩ hK hP hD hS hA hE [2, 4] rfl rfl 4 rfl rfl rfl rfl hl.1 rfl (Nat.le_of_ble_eq_true rfl) dX10_lies_38 ⟨Nat.le_of_ble_eq_true rfl, Nat.le_of_ble_eq_true rfl⟩) hP hD hS hA [2, 4] [0, 1, 3, 5] rfl rfl rfl (by decide) (fun r_31 w H locs hw hP hD hS => ?_)
      obtain ⟨br_31, rfl⟩ := hw
      have hP : va_P V.1 vwCl [(z 15, aI V 900 f_23), (z 16, aI V 6 f_24), (z 21, aI V 10000 f_26), (z 1, aI V 3075 fz1), (z 20, aI V 10001 f_25), (z 0, .inr (10, mo z 0 pz0_5 pz0_6 pz0_7 pz0_8 pz0_9 pz0_10 pz0_11 pz0_12 pz0_13 pz0_14 pz0_18 pz0_19 v_27 v_28 pz0_29))] H := hP
      have hD := cpD hP hD
      refine lv_iload_n hx hb dX10_lies_41 rfl (lv_at hl 1 rfl) ?_
      refine jnI (wr := [(z 15, aI V 900 f_23), (z 16, aI V 6 f_24), (z 21, aI V 10000 f_26), (z 1, aI V 3075 fz1), (z 20, aI V 10001 f_25), (z 0, .inr (10, mo z 0 pz0_5 pz0_6 pz0_7 pz0_8 pz0_9 pz0_10 pz0_11 pz0_12 pz0_13 pz0_14 pz0_18 pz0_19 v_27 v_28 pz0_29))]) (rnS (rest := []) ⟨hx, hb, hml, hown, hg⟩ (k_X10_stackIn_0 l V r_31 a1 br_31 b_8) mt_X10_stackIn q_7_26 ⟨Nat.le_of_ble_eq_true rfl, Nat.le_of_ble_eq_true rfl⟩ hK hP hD hS hA hE [] rfl rfl rfl hl.1 rfl (Nat.le_of_ble_eq_true rfl) dX10_lies_42 ⟨Nat.le_of_ble_eq_true rfl, Nat.le_of_ble_eq_true rfl⟩) hP hD hS hA [] [0, 1, 2, 3, 4, 5] rfl rfl rfl (by decide) (fun r_32 w H locs hw hP hD hS => ?_)
      obtain ⟨br_32, er_32, et_33, rfl⟩ := hw
      have hP : va_P V.1 vwCl [(z 15, aI V 900 f_23), (z 16, aI V 6 f_24), (z 21, aI V 10000 f_26), (z 1, aI V 3075 fz1), (z 20, aI V 10001 f_25), (z 0, .inr (10, mo z 0 pz0_5 pz0_6 pz0_7 pz0_8 pz0_9 pz0_10 pz0_11 pz0_12 pz0_13 pz0_14 pz0_18 pz0_19 v_27 v_28 pz0_29))] H := hP
      have hD := cpD hP hD
      have hP := subP (ws' := [(z 0, .inr (10, mo z 0 pz0_5 pz0_6 pz0_7 pz0_8 pz0_9 pz0_10 pz0_11 pz0_12 pz0_13 pz0_14 pz0_18 pz0_19 v_27 v_28 pz0_29)), (z 1, aI V 3075 fz1), (z 15, aI V 900 f_23), (z 16, aI V 6 f_24), (z 20, aI V 10001 f_25), (z 21, aI V 10000 f_26)]) hP [5, 3, 0, 1, 4, 2] rfl
      have hD := subD hP hD [5, 3, 0, 1, 4, 2] rfl rfl
      exact fiI hx hb hr hlk hK hP hD hS dX10_lies_45 (Nat.le_of_ble_eq_true rfl) (Nat.le_of_ble_eq_true rfl) (⟨0, v_27, v_28, f_23, f_24, f_25, f_26, bv_27, tf_24, tf_25, tf_26, (iv_w br_32 (by decide)), g_29, rfl⟩)
    · have b_34 : iv 0 0 r_10 := iv_q c_15 (iv_c (0 : Int32) (a := 0) (b := 0) (by decide))
      refine lv_bipush (v := (-3)) hx hb dX10_lies_29 (by decide) ?_
      have hP := subP (ws' := [(z 0, .inr (10, mo z 0 pz0_5 pz0_6 pz0_7 pz0_8 pz0_9 pz0_10 pz0_11 pz0_12 pz0_13 pz0_14 pz0_18 pz0_19 pz0_22 pz0_23 pz0_29)), (z 1, aI V 3075 fz1), (z 15, aI V 900 fz15), (z 16, aI V 6 fz16), (z 20, aI V 10001 fz20), (z 21, aI V 10000 fz21)]) hP [4, 5, 0, 1, 2, 3] rfl
      have hD := subD hP hD [4, 5, 0, 1, 2, 3] rfl rfl
      exact fiI hx hb hr hlk hK hP hD hS dX10_lies_31 (Nat.le_of_ble_eq_true rfl) (Nat.le_of_ble_eq_true rfl) (⟨0, pz0_22, pz0_23, fz15, fz16, fz20, fz21, bpz0_22, tfz16, tfz20, tfz21, (iv_c ((-3) : Int32) (by decide)), hf0, rfl⟩)
  · have b_35 : iv 0 0 r_2 := iv_q c_5 (iv_c (0 : Int32) (a := 0) (b := 0) (by decide))
    refine lv_bipush (v := (-2)) hx hb dX10_lies_14 (by decide) ?_
    have hP := subP (ws' := [(z 0, .inr (10, mo z 0 pz0_5 pz0_6 pz0_7 pz0_8 pz0_9 pz0_10 pz0_11 pz0_12 pz0_13 pz0_14 pz0_18 pz0_19 pz0_22 pz0_23 pz0_29)), (z 1, aI V 3075 fz1), (z 15, aI V 900 fz15), (z 16, aI V 6 fz16), (z 20, aI V 10001 fz20), (z 21, aI V 10000 fz21)]) hP [4, 5, 0, 1, 2, 3] rfl
    have hD := subD hP hD [4, 5, 0, 1, 2, 3] rfl rfl
    exact fiI hx hb hr hlk hK hP hD hS dX10_lies_16 (Nat.le_of_ble_eq_true rfl) (Nat.le_of_ble_eq_true rfl) (⟨0, pz0_22, pz0_23, fz15, fz16, fz20, fz21, bpz0_22, tfz16, tfz20, tfz21, (iv_c ((-2) : Int32) (by decide)), hf0, rfl⟩)
theorem dX10_round_0 : decode cX10_round 0 = .ok (.aload_n 0, 1) := by decide +kernel
theorem dX10_round_1 : decode cX10_round 1 = .ok (.iconst 0, 1) := by decide +kernel
theorem dX10_round_2 : decode cX10_round 2 = .ok (.putfield 1, 3) := by decide +kernel
theorem dX10_round_5 : decode cX10_round 5 = .ok (.iload_n 1, 1) := by decide +kernel
theorem dX10_round_6 : decode cX10_round 6 = .ok (.i2l, 1) := by decide +kernel
theorem dX10_round_7 : decode cX10_round 7 = .ok (.lconst 0, 1) := by decide +kernel
theorem dX10_round_8 : decode cX10_round 8 = .ok (.lconst 1, 1) := by decide +kernel
theorem dX10_round_9 : decode cX10_round 9 = .ok (.invokestatic 159, 3) := by decide +kernel
theorem dX10_round_12 : decode cX10_round 12 = .ok (.ifCond .ne 6, 3) := by decide +kernel
theorem dX10_round_18 : decode cX10_round 18 = .ok (.aload_n 0, 1) := by decide +kernel
theorem dX10_round_19 : decode cX10_round 19 = .ok (.invokevirtual 349, 3) := by decide +kernel
theorem dX10_round_22 : decode cX10_round 22 = .ok (.iload_n 1, 1) := by decide +kernel
theorem dX10_round_23 : decode cX10_round 23 = .ok (.ifCond .ne 10, 3) := by decide +kernel
theorem dX10_round_33 : decode cX10_round 33 = .ok (.aload_n 0, 1) := by decide +kernel
theorem dX10_round_34 : decode cX10_round 34 = .ok (.getfield 344, 3) := by decide +kernel
theorem dX10_round_37 : decode cX10_round 37 = .ok (.ireturn, 1) := by decide +kernel
theorem dX10_round_26 : decode cX10_round 26 = .ok (.aload_n 0, 1) := by decide +kernel
theorem dX10_round_27 : decode cX10_round 27 = .ok (.getfield 341, 3) := by decide +kernel
theorem dX10_round_30 : decode cX10_round 30 = .ok (.goto 7, 3) := by decide +kernel
theorem dX10_round_15 : decode cX10_round 15 = .ok (.bipush (-2), 2) := by decide +kernel
theorem dX10_round_17 : decode cX10_round 17 = .ok (.ireturn, 1) := by decide +kernel
set_option maxHeartbeats 4000000 in
set_option maxRecDepth 100000 in
theorem k_X10_round_0 (l : Launch) (V : GV) (z : Nat → Nat) (a1 : Int32) (pz0_0 : Int32) (pz0_5 : Int32) (pz0_6 : Int32) (pz0_7 : Int32) (pz0_8 : Int32) (pz0_9 : Int32) (pz0_10 : Int32) (pz0_11 : Int32) (pz0_12 : Int32) (pz0_13 : Int32) (pz0_14 : Int32) (pz0_18 : Int32) (pz0_19 : Int32) (pz0_22 : Int32) (pz0_23 : Int32) (pz0_29 : Int32) (fz1 : Nat → Int32) (fz15 : Nat → Int32) (fz16 : Nat → Int32) (fz20 : Nat → Int32) (fz21 : Nat → Int32) (bpz0_5 : iv 0 900 pz0_5) (bpz0_6 : iv 0 900 pz0_6) (bpz0_7 : iv 0 900 pz0_7) (bpz0_8 : iv 0 900 pz0_8) (bpz0_10 : iv 0 999 pz0_10) (bpz0_11 : iv 0 4 pz0_11) (bpz0_12 : iv 0 900 pz0_12) (bpz0_13 : iv 0 4 pz0_13) (bpz0_14 : iv (-1) 900 pz0_14) (bpz0_18 : iv 0 2 pz0_18) (bpz0_22 : iv 0 9999 pz0_22) (bpz0_29 : iv 0 10000 pz0_29) (tfz1 : ivT tA fz1) (tfz16 : ivT tW fz16) (tfz20 : ∀ j, iv 0 9999 (fz20 j)) (tfz21 : ∀ j, iv (-1) 9999 (fz21 j)) (hf0 : RW fz1) : Ct l V yX10_round (.code yX10_round cX10_round 2 (some .int)) 6 [.ref (z 0), .int a1] [(z 0, .inr (10, mo z pz0_0 pz0_5 pz0_6 pz0_7 pz0_8 pz0_9 pz0_10 pz0_11 pz0_12 pz0_13 pz0_14 pz0_18 pz0_19 pz0_22 pz0_23 pz0_29)), (z 1, aI V 3075 fz1), (z 15, aI V 900 fz15), (z 16, aI V 6 fz16), (z 20, aI V 10001 fz20), (z 21, aI V 10000 fz21)] 0 0 (QI V (fun (r : Int32) (w : va_W) => ∃ (v0 : Int32) (v1 : Int32) (v2 : Int32) (g3 : Nat → Int32) (g4 : Nat → Int32) (g5 : Nat → Int32) (g6 : Nat → Int32), iv 0 9999 v1 ∧ (ivT tW g4) ∧ (∀ j, iv 0 9999 (g5 j)) ∧ (∀ j, iv (-1) 9999 (g6 j)) ∧ (RW fz1) ∧ w = [(z 0, .inr (10, mo z v0 pz0_5 pz0_6 pz0_7 pz0_8 pz0_9 pz0_10 pz0_11 pz0_12 pz0_13 pz0_14 pz0_18 pz0_19 v1 v2 pz0_29)), (z 1, aI V 3075 fz1), (z 15, aI V 900 g3), (z 16, aI V 6 g4), (z 20, aI V 10001 g5), (z 21, aI V 10000 g6)])) := by
  refine Ct.of (by decide) (Nat.le_of_ble_eq_true rfl) (fun p e s m below meth c A ls hx hb hr hml hown hlk hnm hg hP hK hD hE hA hS hl => ?_)
  have hl : lv_has ls 2 [(0, .ref (z 0)), (1, .int a1)] := hl
  refine lv_aload_n hx hb dX10_round_0 rfl (lv_at hl 0 rfl) ?_
  refine lv_iconst (v := 0) hx hb dX10_round_1 (by decide) ?_
  refine va_put (ci := 10) (v := .int 0) (ty := .int) (C := RX10) (T := TX10) (N := 40) hx hb hg inX10 tyX10 tyX10_ok nmX10 hown hK hP hD hS 0 rfl rfl 0 (by decide) (hg _ q_5_224) (fun _ h9 => h9) rfl (by decide +kernel) rfl rfl (Nat.le_of_ble_eq_true rfl) dX10_round_2 (fun H locs hP hD hS => ?_)
  have hP : va_P V.1 vwCl [(z 0, .inr (10, mo z 0 pz0_5 pz0_6 pz0_7 pz0_8 pz0_9 pz0_10 pz0_11 pz0_12 pz0_13 pz0_14 pz0_18 pz0_19 pz0_22 pz0_23 pz0_29)), (z 1, aI V 3075 fz1), (z 15, aI V 900 fz15), (z 16, aI V 6 fz16), (z 20, aI V 10001 fz20), (z 21, aI V 10000 fz21)] H := hP
  have hD := cpD hP hD
  refine lv_iload_n hx hb dX10_round_5 rfl (lv_at hl 1 rfl) ?_
  refine lv_i2l hx hb dX10_round_6 rfl ?_
  refine lv_topl (fun j_1 ej_1 => ?_)
  refine lv_lconst (v := 0) hx hb dX10_round_7 (by decide) ?_
  refine lv_lconst (v := 1) hx hb dX10_round_8 (by decide) ?_
  refine jnI (wr := [(z 0, .inr (10, mo z 0 pz0_5 pz0_6 pz0_7 pz0_8 pz0_9 pz0_10 pz0_11 pz0_12 pz0_13 pz0_14 pz0_18 pz0_19 pz0_22 pz0_23 pz0_29)), (z 1, aI V 3075 fz1), (z 15, aI V 900 fz15), (z 16, aI V 6 fz16), (z 20, aI V 10001 fz20), (z 21, aI V 10000 fz21)]) (rnS (rest := []) ⟨hx, hb, hml, hown, hg⟩ (k_X10_within_0 l V j_1 0 1) mt_X10_within q_6_114 ⟨Nat.le_of_ble_eq_true rfl, Nat.le_of_ble_eq_true rfl⟩ hK hP hD hS hA hE [] rfl rfl rfl hl.1 rfl (Nat.le_of_ble_eq_true rfl) dX10_round_9 ⟨Nat.le_of_ble_eq_true rfl, Nat.le_of_ble_eq_true rfl⟩) hP hD hS hA [] [0, 1, 2, 3, 4, 5] rfl rfl rfl (by decide) (fun r_2 w H locs hw hP hD hS => ?_)
  obtain ⟨br_2, g_3, g_4, g_5, et_6, rfl⟩ := hw
  have hP : va_P V.1 vwCl [(z 0, .inr (10, mo z 0 pz0_5 pz0_6 pz0_7 pz0_8 pz0_9 pz0_10 pz0_11 pz0_12 pz0_13 pz0_14 pz0_18 pz0_19 pz0_22 pz0_23 pz0_29)), (z 1, aI V 3075 fz1), (z 15, aI V 900 fz15), (z 16, aI V 6 fz16), (z 20, aI V 10001 fz20), (z 21, aI V 10000 fz21)] H := hP
  have hD := cpD hP hD
  refine lv_if_ne (tgt := 18) hx hb dX10_round_12 (by decide) (fun c_7 => ?_) (fun c_7 => ?_)
  · have b_8 : iv 1 1 r_2 := iv_n0 c_7 br_2 (iv_c (0 : Int32) (a := 0) (b := 0) (by decide)) (by decide)
    have c_9 : (0 : Int64) ≤ j_1 := (g_4 (iv_eqp b_8 (iv_c (1 : Int32) (by decide))))
    have b_10 : ivL 0 9223372036854775807 j_1 := ivL_e2 c_9 (ivL_c (0 : Int64) (a := 0) (b := 0) (by decide)) (ivL_top j_1) (by decide)
    have b_11 : iv 0 2147483647 a1 := iv_cap (ivL_i ej_1 b_10) (iv_top a1) (by decide)
    have c_12 : j_1 ≤ 1 := (g_5 (iv_eqp b_8 (iv_c (1 : Int32) (by decide))))
    have b_13 : ivL 0 1 j_1 := ivL_e1 c_12 b_10 (ivL_c (1 : Int64) (a := 1) (b := 1) (by decide)) (by decide)
    have b_14 : iv 0 1 a1 := iv_cap (ivL_i ej_1 b_13) b_11 (by decide)
    refine lv_aload_n hx hb dX10_round_18 rfl (lv_at hl 0 rfl) ?_
    refine jnV (wr := []) (rnV (rest := []) ⟨hx, hb, hml, hown, hg⟩ (k_X10_laysLine_0 l V z fz15 fz16 fz20 fz21 0 pz0_5 pz0_6 pz0_7 pz0_8 pz0_9 pz0_10 pz0_11 pz0_12 pz0_13 pz0_14 pz0_18 pz0_19 pz0_22 pz0_23 pz0_29 fz1 tfz16 tfz20 tfz21 bpz0_5 bpz0_6 bpz0_7 bpz0_8 bpz0_10 bpz0_11 bpz0_12 bpz0_13 bpz0_14 bpz0_18 bpz0_22 bpz0_29 tfz1 hf0) mt_X10_laysLine q_7_158 ⟨Nat.le_of_ble_eq_true rfl, Nat.le_of_ble_eq_true rfl⟩ hK hP hD hS hA hE [2, 3, 4, 5, 0, 1] rfl rfl 0 rfl rfl rfl rfl hl.1 rfl (Nat.le_of_ble_eq_true rfl) dX10_round_19 ⟨Nat.le_of_ble_eq_true rfl, Nat.le_of_ble_eq_true rfl⟩) hP hD hS hA [2, 3, 4, 5, 0, 1] [] rfl rfl rfl (by decide) (fun  w H locs hw hP hD hS => ?_)
    obtain ⟨f_15, f_16, f_17, f_18, v_19, v_20, tf_16, tf_17, tf_18, bv_19, g_21, g_22, rfl⟩ := hw
    have hP : va_P V.1 vwCl [(z 15, aI V 900 f_15), (z 16, aI V 6 f_16), (z 20, aI V 10001 f_17), (z 21, aI V 10000 f_18), (z 0, .inr (10, mo z 0 pz0_5 pz0_6 pz0_7 pz0_8 pz0_9 pz0_10 pz0_11 pz0_12 pz0_13 pz0_14 pz0_18 pz0_19 v_19 v_20 pz0_29)), (z 1, aI V 3075 fz1)] H := hP
    have hD := cpD hP hD
    refine lv_iload_n hx hb dX10_round_22 rfl (lv_at hl 1 rfl) ?_
    refine lv_if_ne (tgt := 33) hx hb dX10_round_23 (by decide) (fun c_23 => ?_) (fun c_23 => ?_)
    · have b_24 : iv 1 1 a1 := iv_n0 c_23 b_14 (iv_c (0 : Int32) (a := 0) (b := 0) (by decide)) (by decide)
      refine lv_aload_n hx hb dX10_round_33 rfl (lv_at hl 0 rfl) ?_
      refine va_get (ci := 10) (v := .int v_20) (C := RX10) (T := TX10) (N := 40) hx hb hg inX10 hown hK hP 4 rfl rfl 23 (by decide) (hg _ q_6_7) (fun _ h9 => h9) rfl dX10_round_34 ?_
      have hP := subP (ws' := [(z 0, .inr (10, mo z 0 pz0_5 pz0_6 pz0_7 pz0_8 pz0_9 pz0_10 pz0_11 pz0_12 pz0_13 pz0_14 pz0_18 pz0_19 v_19 v_20 pz0_29)), (z 1, aI V 3075 fz1), (z 15, aI V 900 f_15), (z 16, aI V 6 f_16), (z 20, aI V 10001 f_17), (z 21, aI V 10000 f_18)]) hP [4, 5, 0, 1, 2, 3] rfl
      have hD := subD hP hD [4, 5, 0, 1, 2, 3] rfl rfl
      exact fiI hx hb hr hlk hK hP hD hS dX10_round_37 (Nat.le_of_ble_eq_true rfl) (Nat.le_of_ble_eq_true rfl) (⟨0, v_19, v_20, f_15, f_16, f_17, f_18, bv_19, tf_16, tf_17, tf_18, g_21, rfl⟩)
    · have b_25 : iv 0 0 a1 := iv_q c_23 (iv_c (0 : Int32) (a := 0) (b := 0) (by decide))
      refine lv_aload_n hx hb dX10_round_26 rfl (lv_at hl 0 rfl) ?_
      refine va_get (ci := 10) (v := .int v_19) (C := RX10) (T := TX10) (N := 40) hx hb hg inX10 hown hK hP 4 rfl rfl 22 (by decide) (hg _ q_6_6) (fun _ h9 => h9) rfl dX10_round_27 ?_
      refine lv_goto (tgt := 37) hx hb dX10_round_30 (by decide) ?_
      have hP := subP (ws' := [(z 0, .inr (10, mo z 0 pz0_5 pz0_6 pz0_7 pz0_8 pz0_9 pz0_10 pz0_11 pz0_12 pz0_13 pz0_14 pz0_18 pz0_19 v_19 v_20 pz0_29)), (z 1, aI V 3075 fz1), (z 15, aI V 900 f_15), (z 16, aI V 6 f_16), (z 20, aI V 10001 f_17), (z 21, aI V 10000 f_18)]) hP [4, 5, 0, 1, 2, 3] rfl
      have hD := subD hP hD [4, 5, 0, 1, 2, 3] rfl rfl
      exact fiI hx hb hr hlk hK hP hD hS dX10_round_37 (Nat.le_of_ble_eq_true rfl) (Nat.le_of_ble_eq_true rfl) (⟨0, v_19, v_20, f_15, f_16, f_17, f_18, bv_19, tf_16, tf_17, tf_18, g_21, rfl⟩)
  · have b_26 : iv 0 0 r_2 := iv_q c_7 (iv_c (0 : Int32) (a := 0) (b := 0) (by decide))
    refine lv_bipush (v := (-2)) hx hb dX10_round_15 (by decide) ?_
    exact fiI hx hb hr hlk hK hP hD hS dX10_round_17 (Nat.le_of_ble_eq_true rfl) (Nat.le_of_ble_eq_true rfl) (⟨0, pz0_22, pz0_23, fz15, fz16, fz20, fz21, bpz0_22, tfz16, tfz20, tfz21, hf0, rfl⟩)
theorem dX10_bare_0 : decode cX10_bare 0 = .ok (.aload_n 0, 1) := by decide +kernel
theorem dX10_bare_1 : decode cX10_bare 1 = .ok (.iconst 0, 1) := by decide +kernel
theorem dX10_bare_2 : decode cX10_bare 2 = .ok (.putfield 1, 3) := by decide +kernel
theorem dX10_bare_5 : decode cX10_bare 5 = .ok (.aload_n 0, 1) := by decide +kernel
theorem dX10_bare_6 : decode cX10_bare 6 = .ok (.invokevirtual 349, 3) := by decide +kernel
theorem dX10_bare_9 : decode cX10_bare 9 = .ok (.iconst 0, 1) := by decide +kernel
theorem dX10_bare_10 : decode cX10_bare 10 = .ok (.istore_n 1, 1) := by decide +kernel
theorem dX10_bare_11 : decode cX10_bare 11 = .ok (.iload_n 1, 1) := by decide +kernel
theorem dX10_bare_12 : decode cX10_bare 12 = .ok (.aload_n 0, 1) := by decide +kernel
theorem dX10_bare_13 : decode cX10_bare 13 = .ok (.getfield 341, 3) := by decide +kernel
theorem dX10_bare_16 : decode cX10_bare 16 = .ok (.aload_n 0, 1) := by decide +kernel
theorem dX10_bare_17 : decode cX10_bare 17 = .ok (.getfield 344, 3) := by decide +kernel
theorem dX10_bare_20 : decode cX10_bare 20 = .ok (.iadd, 1) := by decide +kernel
theorem dX10_bare_21 : decode cX10_bare 21 = .ok (.if_icmp .ge 24, 3) := by decide +kernel
theorem dX10_bare_45 : decode cX10_bare 45 = .ok (.iconst (-1), 1) := by decide +kernel
theorem dX10_bare_46 : decode cX10_bare 46 = .ok (.ireturn, 1) := by decide +kernel
theorem dX10_bare_24 : decode cX10_bare 24 = .ok (.aload_n 0, 1) := by decide +kernel
theorem dX10_bare_25 : decode cX10_bare 25 = .ok (.getfield 39, 3) := by decide +kernel
theorem dX10_bare_28 : decode cX10_bare 28 = .ok (.iload_n 1, 1) := by decide +kernel
theorem dX10_bare_29 : decode cX10_bare 29 = .ok (.iaload, 1) := by decide +kernel
theorem dX10_bare_30 : decode cX10_bare 30 = .ok (.sipush 625, 3) := by decide +kernel
theorem dX10_bare_33 : decode cX10_bare 33 = .ok (.irem, 1) := by decide +kernel
theorem dX10_bare_34 : decode cX10_bare 34 = .ok (.ifCond .ne 5, 3) := by decide +kernel
theorem dX10_bare_39 : decode cX10_bare 39 = .ok (.iinc 1 1, 3) := by decide +kernel
theorem dX10_bare_42 : decode cX10_bare 42 = .ok (.goto (-31), 3) := by decide +kernel
theorem dX10_bare_37 : decode cX10_bare 37 = .ok (.iload_n 1, 1) := by decide +kernel
theorem dX10_bare_38 : decode cX10_bare 38 = .ok (.ireturn, 1) := by decide +kernel
set_option maxHeartbeats 4000000 in
set_option maxRecDepth 100000 in
theorem k_X10_bare_0 (l : Launch) (V : GV) (z : Nat → Nat) (pz0_0 : Int32) (pz0_5 : Int32) (pz0_6 : Int32) (pz0_7 : Int32) (pz0_8 : Int32) (pz0_9 : Int32) (pz0_10 : Int32) (pz0_11 : Int32) (pz0_12 : Int32) (pz0_13 : Int32) (pz0_14 : Int32) (pz0_18 : Int32) (pz0_19 : Int32) (pz0_22 : Int32) (pz0_23 : Int32) (pz0_29 : Int32) (fz1 : Nat → Int32) (fz15 : Nat → Int32) (fz16 : Nat → Int32) (fz20 : Nat → Int32) (fz21 : Nat → Int32) (bpz0_5 : iv 0 900 pz0_5) (bpz0_6 : iv 0 900 pz0_6) (bpz0_7 : iv 0 900 pz0_7) (bpz0_8 : iv 0 900 pz0_8) (bpz0_10 : iv 0 999 pz0_10) (bpz0_11 : iv 0 4 pz0_11) (bpz0_12 : iv 0 900 pz0_12) (bpz0_13 : iv 0 4 pz0_13) (bpz0_14 : iv (-1) 900 pz0_14) (bpz0_18 : iv 0 2 pz0_18) (bpz0_22 : iv 0 9999 pz0_22) (bpz0_29 : iv 0 10000 pz0_29) (tfz1 : ivT tA fz1) (tfz16 : ivT tW fz16) (tfz20 : ∀ j, iv 0 9999 (fz20 j)) (tfz21 : ∀ j, iv (-1) 9999 (fz21 j)) (hf0 : RW fz1) : Ct l V yX10_bare (.code yX10_bare cX10_bare 2 (some .int)) 6 [.ref (z 0)] [(z 0, .inr (10, mo z pz0_0 pz0_5 pz0_6 pz0_7 pz0_8 pz0_9 pz0_10 pz0_11 pz0_12 pz0_13 pz0_14 pz0_18 pz0_19 pz0_22 pz0_23 pz0_29)), (z 1, aI V 3075 fz1), (z 15, aI V 900 fz15), (z 16, aI V 6 fz16), (z 20, aI V 10001 fz20), (z 21, aI V 10000 fz21)] 0 0 (QI V (fun (r : Int32) (w : va_W) => ∃ (v0 : Int32) (v1 : Int32) (v2 : Int32) (g3 : Nat → Int32) (g4 : Nat → Int32) (g5 : Nat → Int32) (g6 : Nat → Int32), iv 0 9999 v1 ∧ (ivT tW g4) ∧ (∀ j, iv 0 9999 (g5 j)) ∧ (∀ j, iv (-1) 9999 (g6 j)) ∧ iv (-1) 9999 r ∧ (RW fz1) ∧ w = [(z 0, .inr (10, mo z v0 pz0_5 pz0_6 pz0_7 pz0_8 pz0_9 pz0_10 pz0_11 pz0_12 pz0_13 pz0_14 pz0_18 pz0_19 v1 v2 pz0_29)), (z 1, aI V 3075 fz1), (z 15, aI V 900 g3), (z 16, aI V 6 g4), (z 20, aI V 10001 g5), (z 21, aI V 10000 g6)])) := by
  refine Ct.of (by decide) (Nat.le_of_ble_eq_true rfl) (fun p e s m below meth c A ls hx hb hr hml hown hlk hnm hg hP hK hD hE hA hS hl => ?_)
  have hl : lv_has ls 2 [(0, .ref (z 0))] := hl
  refine lv_aload_n hx hb dX10_bare_0 rfl (lv_at hl 0 rfl) ?_
  refine lv_iconst (v := 0) hx hb dX10_bare_1 (by decide) ?_
  refine va_put (ci := 10) (v := .int 0) (ty := .int) (C := RX10) (T := TX10) (N := 40) hx hb hg inX10 tyX10 tyX10_ok nmX10 hown hK hP hD hS 0 rfl rfl 0 (by decide) (hg _ q_5_224) (fun _ h9 => h9) rfl (by decide +kernel) rfl rfl (Nat.le_of_ble_eq_true rfl) dX10_bare_2 (fun H locs hP hD hS => ?_)
  have hP : va_P V.1 vwCl [(z 0, .inr (10, mo z 0 pz0_5 pz0_6 pz0_7 pz0_8 pz0_9 pz0_10 pz0_11 pz0_12 pz0_13 pz0_14 pz0_18 pz0_19 pz0_22 pz0_23 pz0_29)), (z 1, aI V 3075 fz1), (z 15, aI V 900 fz15), (z 16, aI V 6 fz16), (z 20, aI V 10001 fz20), (z 21, aI V 10000 fz21)] H := hP
  have hD := cpD hP hD
  refine lv_aload_n hx hb dX10_bare_5 rfl (lv_at hl 0 rfl) ?_
  refine jnV (wr := []) (rnV (rest := []) ⟨hx, hb, hml, hown, hg⟩ (k_X10_laysLine_0 l V z fz15 fz16 fz20 fz21 0 pz0_5 pz0_6 pz0_7 pz0_8 pz0_9 pz0_10 pz0_11 pz0_12 pz0_13 pz0_14 pz0_18 pz0_19 pz0_22 pz0_23 pz0_29 fz1 tfz16 tfz20 tfz21 bpz0_5 bpz0_6 bpz0_7 bpz0_8 bpz0_10 bpz0_11 bpz0_12 bpz0_13 bpz0_14 bpz0_18 bpz0_22 bpz0_29 tfz1 hf0) mt_X10_laysLine q_7_158 ⟨Nat.le_of_ble_eq_true rfl, Nat.le_of_ble_eq_true rfl⟩ hK hP hD hS hA hE [2, 3, 4, 5, 0, 1] rfl rfl 0 rfl rfl rfl rfl hl.1 rfl (Nat.le_of_ble_eq_true rfl) dX10_bare_6 ⟨Nat.le_of_ble_eq_true rfl, Nat.le_of_ble_eq_true rfl⟩) hP hD hS hA [2, 3, 4, 5, 0, 1] [] rfl rfl rfl (by decide) (fun  w H locs hw hP hD hS => ?_)
  obtain ⟨f_1, f_2, f_3, f_4, v_5, v_6, tf_2, tf_3, tf_4, bv_5, g_7, g_8, rfl⟩ := hw
  have hP : va_P V.1 vwCl [(z 15, aI V 900 f_1), (z 16, aI V 6 f_2), (z 20, aI V 10001 f_3), (z 21, aI V 10000 f_4), (z 0, .inr (10, mo z 0 pz0_5 pz0_6 pz0_7 pz0_8 pz0_9 pz0_10 pz0_11 pz0_12 pz0_13 pz0_14 pz0_18 pz0_19 v_5 v_6 pz0_29)), (z 1, aI V 3075 fz1)] H := hP
  have hD := cpD hP hD
  refine lv_iconst (v := 0) hx hb dX10_bare_9 (by decide) ?_
  refine lv_istore_n (lv' := [(1, .int 0), (0, .ref (z 0))]) hx hb dX10_bare_10 rfl hl (by decide) rfl (fun ls hl => ?_)
  refine loopF (X := fun (n_10 : Nat) (H : Heap) (locs : List Loc) (ls : Array Slot) => ∃ (u_9 : Int32), (iv 0 2147483647 u_9) ∧ n_10 = (2147483647 - (u_9 : Int32).toInt).toNat ∧ va_P V.1 vwCl [(z 15, aI V 900 f_1), (z 16, aI V 6 f_2), (z 20, aI V 10001 f_3), (z 21, aI V 10000 f_4), (z 0, .inr (10, mo z 0 pz0_5 pz0_6 pz0_7 pz0_8 pz0_9 pz0_10 pz0_11 pz0_12 pz0_13 pz0_14 pz0_18 pz0_19 v_5 v_6 pz0_29)), (z 1, aI V 3075 fz1)] H ∧ va_D A [(z 15, aI V 900 f_1), (z 16, aI V 6 f_2), (z 20, aI V 10001 f_3), (z 21, aI V 10000 f_4), (z 0, .inr (10, mo z 0 pz0_5 pz0_6 pz0_7 pz0_8 pz0_9 pz0_10 pz0_11 pz0_12 pz0_13 pz0_14 pz0_18 pz0_19 v_5 v_6 pz0_29)), (z 1, aI V 3075 fz1)] ∧ va_S A s.heap H locs ∧ lv_has ls 2 [(1, .int u_9), (0, .ref (z 0))]) (g := fun ls => F0 m 11 ls []) (fun n_10 H locs ls hX ihn_10 => ?_) _ ⟨0, (iv_c (0 : Int32) (by decide)), rfl, hP, hD, hS, lv_sub hl [0, 1] rfl⟩
  obtain ⟨u_9, bu_9, en_10, hP, hD, hS, hl⟩ := hX
  refine lv_iload_n hx hb dX10_bare_11 rfl (lv_at hl 0 rfl) ?_
  refine lv_aload_n hx hb dX10_bare_12 rfl (lv_at hl 1 rfl) ?_
  refine va_get (ci := 10) (v := .int v_5) (C := RX10) (T := TX10) (N := 40) hx hb hg inX10 hown hK hP 4 rfl rfl 22 (by decide) (hg _ q_6_6) (fun _ h9 => h9) rfl dX10_bare_13 ?_
  refine lv_aload_n hx hb dX10_bare_16 rfl (lv_at hl 1 rfl) ?_
  refine va_get (ci := 10) (v := .int v_6) (C := RX10) (T := TX10) (N := 40) hx hb hg inX10 hown hK hP 4 rfl rfl 23 (by decide) (hg _ q_6_7) (fun _ h9 => h9) rfl dX10_bare_17 ?_
  refine lv_iadd hx hb dX10_bare_20 ?_
  refine lv_topi (fun x_11 ex_11 => ?_)
  have b_12 : iv 1 10000 x_11 := by have q9 := g_8; have q8 := toInt_add ex_11 (a := 0) (b := 10000) ⟨by omega, by omega⟩ (c := 0) (d := 10000) ⟨by omega, by omega⟩ (by decide); unfold iv; omega
  refine lv_icmp_ge (tgt := 45) hx hb dX10_bare_21 (by decide) (fun c_13 => ?_) (fun c_13 => ?_)
  · have b_14 : iv 1 2147483647 u_9 := iv_e2 c_13 b_12 bu_9 (by decide)
    refine lv_iconst (v := (-1)) hx hb dX10_bare_45 (by decide) ?_
    have hP := subP (ws' := [(z 0, .inr (10, mo z 0 pz0_5 pz0_6 pz0_7 pz0_8 pz0_9 pz0_10 pz0_11 pz0_12 pz0_13 pz0_14 pz0_18 pz0_19 v_5 v_6 pz0_29)), (z 1, aI V 3075 fz1), (z 15, aI V 900 f_1), (z 16, aI V 6 f_2), (z 20, aI V 10001 f_3), (z 21, aI V 10000 f_4)]) hP [4, 5, 0, 1, 2, 3] rfl
    have hD := subD hP hD [4, 5, 0, 1, 2, 3] rfl rfl
    exact fiI hx hb hr hlk hK hP hD hS dX10_bare_46 (Nat.le_of_ble_eq_true rfl) (Nat.le_of_ble_eq_true rfl) (⟨0, v_5, v_6, f_1, f_2, f_3, f_4, bv_5, tf_2, tf_3, tf_4, (iv_c ((-1) : Int32) (by decide)), g_7, rfl⟩)
  · have b_15 : iv 0 9999 u_9 := iv_l1 (Int32.not_le.mp c_13) bu_9 b_12 (by decide)
    refine lv_aload_n hx hb dX10_bare_24 rfl (lv_at hl 1 rfl) ?_
    refine va_get (ci := 10) (v := .ref (z 20)) (C := RX10) (T := TX10) (N := 40) hx hb hg inX10 hown hK hP 4 rfl rfl 20 (by decide) (hg _ q_6_4) (fun _ h9 => h9) rfl dX10_bare_25 ?_
    refine lv_iload_n hx hb dX10_bare_28 rfl (lv_at hl 0 rfl) ?_
    refine va_iald hx hb hK hP 2 0 rfl rfl (iv_in b_15 (by decide)) dX10_bare_29 ?_
    refine lv_topi (fun x_16 ex_16 => ?_)
    have bx_16 : iv 0 9999 x_16 := by rw [ex_16]; exact tf_3 _
    refine lv_sipush (v := 625) hx hb dX10_bare_30 (by decide) ?_
    refine lv_irem hx hb dX10_bare_33 (by decide) ?_
    refine lv_topi (fun x_17 ex_17 => ?_)
    have bx_17 : iv 0 624 x_17 := by rw [ex_17]; exact iv_remp bx_16 (k := 625) (by decide) (by decide)
    refine lv_if_ne (tgt := 39) hx hb dX10_bare_34 (by decide) (fun c_18 => ?_) (fun c_18 => ?_)
    · have b_19 : iv 1 624 x_17 := iv_n0 c_18 bx_17 (iv_c (0 : Int32) (a := 0) (b := 0) (by decide)) (by decide)
      obtain ⟨x_20, ex_20⟩ : ∃ z9 : Int32, z9 = u_9 + 1 := ⟨_, rfl⟩
      have bx_20 : iv 1 10000 x_20 := by rw [ex_20]; exact iv_add b_15 (iv_c (1 : Int32) (a := 1) (b := 1) (by decide)) (by decide)
      refine lv_iinc (v := x_20) (lv' := [(1, .int x_20), (0, .ref (z 0))]) hx hb dX10_bare_39 hl (k := 0) rfl (by rw [ex_20]; rfl) (by decide) rfl (fun ls hl => ?_)
      refine lv_goto (tgt := 11) hx hb dX10_bare_42 (by decide) ?_
      exact ihn_10 _ _ _ _ (by rw [en_10, ex_20]; exact mu_up b_15 (by decide)) ⟨x_20, (iv_w bx_20 (by decide)), rfl, hP, hD, hS, lv_sub hl [0, 1] rfl⟩
    · have b_21 : iv 0 0 x_17 := iv_q c_18 (iv_c (0 : Int32) (a := 0) (b := 0) (by decide))
      refine lv_iload_n hx hb dX10_bare_37 rfl (lv_at hl 0 rfl) ?_
      have hP := subP (ws' := [(z 0, .inr (10, mo z 0 pz0_5 pz0_6 pz0_7 pz0_8 pz0_9 pz0_10 pz0_11 pz0_12 pz0_13 pz0_14 pz0_18 pz0_19 v_5 v_6 pz0_29)), (z 1, aI V 3075 fz1), (z 15, aI V 900 f_1), (z 16, aI V 6 f_2), (z 20, aI V 10001 f_3), (z 21, aI V 10000 f_4)]) hP [4, 5, 0, 1, 2, 3] rfl
      have hD := subD hP hD [4, 5, 0, 1, 2, 3] rfl rfl
      exact fiI hx hb hr hlk hK hP hD hS dX10_bare_38 (Nat.le_of_ble_eq_true rfl) (Nat.le_of_ble_eq_true rfl) (⟨0, v_5, v_6, f_1, f_2, f_3, f_4, bv_5, tf_2, tf_3, tf_4, (iv_w b_15 (by decide)), g_7, rfl⟩)
theorem dX10_rests_0 : decode cX10_rests 0 = .ok (.aload_n 0, 1) := by decide +kernel
theorem dX10_rests_1 : decode cX10_rests 1 = .ok (.iconst 0, 1) := by decide +kernel
theorem dX10_rests_2 : decode cX10_rests 2 = .ok (.putfield 1, 3) := by decide +kernel
theorem dX10_rests_5 : decode cX10_rests 5 = .ok (.iconst 1, 1) := by decide +kernel
theorem dX10_rests_6 : decode cX10_rests 6 = .ok (.istore_n 1, 1) := by decide +kernel
theorem dX10_rests_7 : decode cX10_rests 7 = .ok (.iconst 0, 1) := by decide +kernel
theorem dX10_rests_8 : decode cX10_rests 8 = .ok (.istore_n 2, 1) := by decide +kernel
theorem dX10_rests_9 : decode cX10_rests 9 = .ok (.iload_n 2, 1) := by decide +kernel
theorem dX10_rests_10 : decode cX10_rests 10 = .ok (.aload_n 0, 1) := by decide +kernel
theorem dX10_rests_11 : decode cX10_rests 11 = .ok (.getfield 13, 3) := by decide +kernel
theorem dX10_rests_14 : decode cX10_rests 14 = .ok (.iconst 1, 1) := by decide +kernel
theorem dX10_rests_15 : decode cX10_rests 15 = .ok (.iaload, 1) := by decide +kernel
theorem dX10_rests_16 : decode cX10_rests 16 = .ok (.if_icmp .ge 13, 3) := by decide +kernel
theorem dX10_rests_29 : decode cX10_rests 29 = .ok (.iconst 0, 1) := by decide +kernel
theorem dX10_rests_30 : decode cX10_rests 30 = .ok (.istore_n 2, 1) := by decide +kernel
theorem dX10_rests_31 : decode cX10_rests 31 = .ok (.iconst 0, 1) := by decide +kernel
theorem dX10_rests_32 : decode cX10_rests 32 = .ok (.istore_n 3, 1) := by decide +kernel
theorem dX10_rests_33 : decode cX10_rests 33 = .ok (.iload_n 3, 1) := by decide +kernel
theorem dX10_rests_34 : decode cX10_rests 34 = .ok (.iconst 1, 1) := by decide +kernel
theorem dX10_rests_35 : decode cX10_rests 35 = .ok (.aload_n 0, 1) := by decide +kernel
theorem dX10_rests_36 : decode cX10_rests 36 = .ok (.getfield 13, 3) := by decide +kernel
theorem dX10_rests_39 : decode cX10_rests 39 = .ok (.iconst 1, 1) := by decide +kernel
theorem dX10_rests_40 : decode cX10_rests 40 = .ok (.iaload, 1) := by decide +kernel
theorem dX10_rests_41 : decode cX10_rests 41 = .ok (.ishl, 1) := by decide +kernel
theorem dX10_rests_42 : decode cX10_rests 42 = .ok (.if_icmp .ge 63, 3) := by decide +kernel
theorem dX10_rests_105 : decode cX10_rests 105 = .ok (.iload_n 2, 1) := by decide +kernel
theorem dX10_rests_106 : decode cX10_rests 106 = .ok (.ireturn, 1) := by decide +kernel
theorem dX10_rests_45 : decode cX10_rests 45 = .ok (.iconst 0, 1) := by decide +kernel
theorem dX10_rests_46 : decode cX10_rests 46 = .ok (.istore 4, 2) := by decide +kernel
theorem dX10_rests_48 : decode cX10_rests 48 = .ok (.iload 4, 2) := by decide +kernel
theorem dX10_rests_50 : decode cX10_rests 50 = .ok (.iload_n 1, 1) := by decide +kernel
theorem dX10_rests_51 : decode cX10_rests 51 = .ok (.if_icmp .ge 48, 3) := by decide +kernel
theorem dX10_rests_99 : decode cX10_rests 99 = .ok (.iinc 3 1, 3) := by decide +kernel
theorem dX10_rests_102 : decode cX10_rests 102 = .ok (.goto (-69), 3) := by decide +kernel
theorem dX10_rests_54 : decode cX10_rests 54 = .ok (.iload_n 2, 1) := by decide +kernel
theorem dX10_rests_55 : decode cX10_rests 55 = .ok (.aload_n 0, 1) := by decide +kernel
theorem dX10_rests_56 : decode cX10_rests 56 = .ok (.sipush 625, 3) := by decide +kernel
theorem dX10_rests_59 : decode cX10_rests 59 = .ok (.iload_n 3, 1) := by decide +kernel
theorem dX10_rests_60 : decode cX10_rests 60 = .ok (.imul, 1) := by decide +kernel
theorem dX10_rests_61 : decode cX10_rests 61 = .ok (.iload 4, 2) := by decide +kernel
theorem dX10_rests_63 : decode cX10_rests 63 = .ok (.iadd, 1) := by decide +kernel
theorem dX10_rests_64 : decode cX10_rests 64 = .ok (.iconst 0, 1) := by decide +kernel
theorem dX10_rests_65 : decode cX10_rests 65 = .ok (.aload_n 0, 1) := by decide +kernel
theorem dX10_rests_66 : decode cX10_rests 66 = .ok (.getfield 13, 3) := by decide +kernel
theorem dX10_rests_69 : decode cX10_rests 69 = .ok (.bipush 51, 2) := by decide +kernel
theorem dX10_rests_71 : decode cX10_rests 71 = .ok (.iaload, 1) := by decide +kernel
theorem dX10_rests_72 : decode cX10_rests 72 = .ok (.invokevirtual 272, 3) := by decide +kernel
theorem dX10_rests_75 : decode cX10_rests 75 = .ok (.sipush 625, 3) := by decide +kernel
theorem dX10_rests_78 : decode cX10_rests 78 = .ok (.iload_n 3, 1) := by decide +kernel
theorem dX10_rests_79 : decode cX10_rests 79 = .ok (.imul, 1) := by decide +kernel
theorem dX10_rests_80 : decode cX10_rests 80 = .ok (.iload 4, 2) := by decide +kernel
theorem dX10_rests_82 : decode cX10_rests 82 = .ok (.iadd, 1) := by decide +kernel
theorem dX10_rests_83 : decode cX10_rests 83 = .ok (.if_icmp .ne 7, 3) := by decide +kernel
theorem dX10_rests_90 : decode cX10_rests 90 = .ok (.iconst 0, 1) := by decide +kernel
theorem dX10_rests_91 : decode cX10_rests 91 = .ok (.iadd, 1) := by decide +kernel
theorem dX10_rests_92 : decode cX10_rests 92 = .ok (.istore_n 2, 1) := by decide +kernel
theorem dX10_rests_93 : decode cX10_rests 93 = .ok (.iinc 4 1, 3) := by decide +kernel
theorem dX10_rests_96 : decode cX10_rests 96 = .ok (.goto (-48), 3) := by decide +kernel
theorem dX10_rests_86 : decode cX10_rests 86 = .ok (.iconst 1, 1) := by decide +kernel
theorem dX10_rests_87 : decode cX10_rests 87 = .ok (.goto 4, 3) := by decide +kernel
theorem dX10_rests_19 : decode cX10_rests 19 = .ok (.iload_n 1, 1) := by decide +kernel
theorem dX10_rests_20 : decode cX10_rests 20 = .ok (.iconst 5, 1) := by decide +kernel
theorem dX10_rests_21 : decode cX10_rests 21 = .ok (.imul, 1) := by decide +kernel
theorem dX10_rests_22 : decode cX10_rests 22 = .ok (.istore_n 1, 1) := by decide +kernel
theorem dX10_rests_23 : decode cX10_rests 23 = .ok (.iinc 2 1, 3) := by decide +kernel
theorem dX10_rests_26 : decode cX10_rests 26 = .ok (.goto (-17), 3) := by decide +kernel
set_option maxHeartbeats 4000000 in
set_option maxRecDepth 100000 in
theorem k_X10_rests_0 (l : Launch) (V : GV) (z : Nat → Nat) (pz0_0 : Int32) (pz0_5 : Int32) (pz0_6 : Int32) (pz0_7 : Int32) (pz0_8 : Int32) (pz0_9 : Int32) (pz0_10 : Int32) (pz0_11 : Int32) (pz0_12 : Int32) (pz0_13 : Int32) (pz0_14 : Int32) (pz0_18 : Int32) (pz0_19 : Int32) (pz0_22 : Int32) (pz0_23 : Int32) (pz0_29 : Int32) (fz1 : Nat → Int32) (fz15 : Nat → Int32) (fz16 : Nat → Int32) (bpz0_5 : iv 0 900 pz0_5) (bpz0_6 : iv 0 900 pz0_6) (bpz0_7 : iv 0 900 pz0_7) (bpz0_8 : iv 0 900 pz0_8) (bpz0_10 : iv 0 999 pz0_10) (bpz0_11 : iv 0 4 pz0_11) (bpz0_12 : iv 0 900 pz0_12) (bpz0_13 : iv 0 4 pz0_13) (bpz0_14 : iv (-1) 900 pz0_14) (bpz0_18 : iv 0 2 pz0_18) (bpz0_22 : iv 0 9999 pz0_22) (bpz0_29 : iv 0 10000 pz0_29) (tfz1 : ivT tA fz1) (tfz16 : ivT tW fz16) (hf0 : RW fz1) : Ct l V yX10_rests (.code yX10_rests cX10_rests 5 (some .int)) 5 [.ref (z 0)] [(z 0, .inr (10, mo z pz0_0 pz0_5 pz0_6 pz0_7 pz0_8 pz0_9 pz0_10 pz0_11 pz0_12 pz0_13 pz0_14 pz0_18 pz0_19 pz0_22 pz0_23 pz0_29)), (z 1, aI V 3075 fz1), (z 15, aI V 900 fz15), (z 16, aI V 6 fz16)] 0 0 (QI V (fun (r : Int32) (w : va_W) => ∃ (v0 : Int32) (g1 : Nat → Int32) (g2 : Nat → Int32), (ivT tW g2) ∧ (RW fz1) ∧ w = [(z 0, .inr (10, mo z v0 pz0_5 pz0_6 pz0_7 pz0_8 pz0_9 pz0_10 pz0_11 pz0_12 pz0_13 pz0_14 pz0_18 pz0_19 pz0_22 pz0_23 pz0_29)), (z 1, aI V 3075 fz1), (z 15, aI V 900 g1), (z 16, aI V 6 g2)])) := by
  refine Ct.of (by decide) (Nat.le_of_ble_eq_true rfl) (fun p e s m below meth c A ls hx hb hr hml hown hlk hnm hg hP hK hD hE hA hS hl => ?_)
  have hl : lv_has ls 5 [(0, .ref (z 0))] := hl
  refine lv_aload_n hx hb dX10_rests_0 rfl (lv_at hl 0 rfl) ?_
  refine lv_iconst (v := 0) hx hb dX10_rests_1 (by decide) ?_
  refine va_put (ci := 10) (v := .int 0) (ty := .int) (C := RX10) (T := TX10) (N := 40) hx hb hg inX10 tyX10 tyX10_ok nmX10 hown hK hP hD hS 0 rfl rfl 0 (by decide) (hg _ q_5_224) (fun _ h9 => h9) rfl (by decide +kernel) rfl rfl (Nat.le_of_ble_eq_true rfl) dX10_rests_2 (fun H locs hP hD hS => ?_)
  have hP : va_P V.1 vwCl [(z 0, .inr (10, mo z 0 pz0_5 pz0_6 pz0_7 pz0_8 pz0_9 pz0_10 pz0_11 pz0_12 pz0_13 pz0_14 pz0_18 pz0_19 pz0_22 pz0_23 pz0_29)), (z 1, aI V 3075 fz1), (z 15, aI V 900 fz15), (z 16, aI V 6 fz16)] H := hP
  have hD := cpD hP hD
  refine lv_iconst (v := 1) hx hb dX10_rests_5 (by decide) ?_
  refine lv_istore_n (lv' := [(1, .int 1), (0, .ref (z 0))]) hx hb dX10_rests_6 rfl hl (by decide) rfl (fun ls hl => ?_)
  refine lv_iconst (v := 0) hx hb dX10_rests_7 (by decide) ?_
  refine lv_istore_n (lv' := [(2, .int 0), (1, .int 1), (0, .ref (z 0))]) hx hb dX10_rests_8 rfl hl (by decide) rfl (fun ls hl => ?_)
  refine lv_iload_n hx hb dX10_rests_9 rfl (lv_at hl 0 rfl) ?_
  refine lv_aload_n hx hb dX10_rests_10 rfl (lv_at hl 2 rfl) ?_
  refine va_get (ci := 10) (v := .ref (z 1)) (C := RX10) (T := TX10) (N := 40) hx hb hg inX10 hown hK hP 0 rfl rfl 1 (by decide) (hg _ q_5_225) (fun _ h9 => h9) rfl dX10_rests_11 ?_
  refine lv_iconst (v := 1) hx hb dX10_rests_14 (by decide) ?_
  refine va_iald hx hb hK hP 1 0 rfl rfl (vin (by decide +kernel)) dX10_rests_15 ?_
  refine lv_topi (fun x_1 ex_1 => ?_)
  have bx_1 : iv 0 4 x_1 := by rw [ex_1]; exact rdT (a := 1) (n := 1) tfz1 (iv_c (1 : Int32) (a := 1) (b := 1) (by decide)) (by decide) (by decide +kernel)
  refine lv_icmp_ge (tgt := 29) hx hb dX10_rests_16 (by decide) (fun c_2 => ?_) (fun c_2 => ?_)
  · have b_3 : iv 0 0 x_1 := iv_e1 c_2 bx_1 (iv_c (0 : Int32) (a := 0) (b := 0) (by decide)) (by decide)
    refine lv_iconst (v := 0) hx hb dX10_rests_29 (by decide) ?_
    refine lv_istore_n (lv' := [(2, .int 0), (1, .int 1), (0, .ref (z 0))]) hx hb dX10_rests_30 rfl hl (by decide) rfl (fun ls hl => ?_)
    refine lv_iconst (v := 0) hx hb dX10_rests_31 (by decide) ?_
    refine lv_istore_n (lv' := [(3, .int 0), (2, .int 0), (1, .int 1), (0, .ref (z 0))]) hx hb dX10_rests_32 rfl hl (by decide) rfl (fun ls hl => ?_)
    refine loopF (X := fun (n_8 : Nat) (H : Heap) (locs : List Loc) (ls : Array Slot) => ∃ (u_4 : Int32) (u_5 : Int32) (f_6 : Nat → Int32) (f_7 : Nat → Int32), (iv 0 2147483647 u_4) ∧ (ivT tW f_7) ∧ (RW fz1) ∧ n_8 = (2147483647 - (u_4 : Int32).toInt).toNat ∧ va_P V.1 vwCl [(z 0, .inr (10, mo z 0 pz0_5 pz0_6 pz0_7 pz0_8 pz0_9 pz0_10 pz0_11 pz0_12 pz0_13 pz0_14 pz0_18 pz0_19 pz0_22 pz0_23 pz0_29)), (z 1, aI V 3075 fz1), (z 15, aI V 900 f_6), (z 16, aI V 6 f_7)] H ∧ va_D A [(z 0, .inr (10, mo z 0 pz0_5 pz0_6 pz0_7 pz0_8 pz0_9 pz0_10 pz0_11 pz0_12 pz0_13 pz0_14 pz0_18 pz0_19 pz0_22 pz0_23 pz0_29)), (z 1, aI V 3075 fz1), (z 15, aI V 900 f_6), (z 16, aI V 6 f_7)] ∧ va_S A s.heap H locs ∧ lv_has ls 5 [(3, .int u_4), (2, .int u_5), (1, .int 1), (0, .ref (z 0))]) (g := fun ls => F0 m 33 ls []) (fun n_8 H locs ls hX ihn_8 => ?_) _ ⟨0, 0, fz15, fz16, (iv_c (0 : Int32) (by decide)), tfz16, hf0, rfl, hP, hD, hS, lv_sub hl [0, 1, 2, 3] rfl⟩
    obtain ⟨u_4, u_5, f_6, f_7, bu_4, tf_7, inn_8_0, en_8, hP, hD, hS, hl⟩ := hX
    refine lv_iload_n hx hb dX10_rests_33 rfl (lv_at hl 0 rfl) ?_
    refine lv_iconst (v := 1) hx hb dX10_rests_34 (by decide) ?_
    refine lv_aload_n hx hb dX10_rests_35 rfl (lv_at hl 3 rfl) ?_
    refine va_get (ci := 10) (v := .ref (z 1)) (C := RX10) (T := TX10) (N := 40) hx hb hg inX10 hown hK hP 0 rfl rfl 1 (by decide) (hg _ q_5_225) (fun _ h9 => h9) rfl dX10_rests_36 ?_
    refine lv_iconst (v := 1) hx hb dX10_rests_39 (by decide) ?_
    refine va_iald hx hb hK hP 1 0 rfl rfl (vin (by decide +kernel)) dX10_rests_40 ?_
    refine tpi (y := x_1) ex_1.symm ?_
    refine tpi (y := 0) (iv_eqp b_3 (iv_c (0 : Int32) (by decide))) ?_
    refine lv_ishl hx hb dX10_rests_41 ?_
    refine tpi (y := 1) (by decide +kernel) ?_
    refine lv_icmp_ge (tgt := 105) hx hb dX10_rests_42 (by decide) (fun c_9 => ?_) (fun c_9 => ?_)
    · have b_10 : iv 1 2147483647 u_4 := iv_e2 c_9 (iv_c (1 : Int32) (a := 1) (b := 1) (by decide)) bu_4 (by decide)
      refine lv_iload_n hx hb dX10_rests_105 rfl (lv_at hl 1 rfl) ?_
      exact fiI hx hb hr hlk hK hP hD hS dX10_rests_106 (Nat.le_of_ble_eq_true rfl) (Nat.le_of_ble_eq_true rfl) (⟨0, f_6, f_7, tf_7, inn_8_0, rfl⟩)
    · have b_11 : iv 0 0 u_4 := iv_l1 (Int32.not_le.mp c_9) bu_4 (iv_c (1 : Int32) (a := 1) (b := 1) (by decide)) (by decide)
      refine lv_iconst (v := 0) hx hb dX10_rests_45 (by decide) ?_
      refine lv_istore (lv' := [(4, .int 0), (3, .int u_4), (2, .int u_5), (1, .int 1), (0, .ref (z 0))]) hx hb dX10_rests_46 hl (by decide) rfl (fun ls hl => ?_)
      refine loopF (X := fun (n_16 : Nat) (H : Heap) (locs : List Loc) (ls : Array Slot) => ∃ (u_12 : Int32) (u_13 : Int32) (f_14 : Nat → Int32) (f_15 : Nat → Int32), (iv 0 2147483647 u_12) ∧ (ivT tW f_15) ∧ (RW fz1) ∧ n_16 = (2147483647 - (u_12 : Int32).toInt).toNat ∧ va_P V.1 vwCl [(z 0, .inr (10, mo z 0 pz0_5 pz0_6 pz0_7 pz0_8 pz0_9 pz0_10 pz0_11 pz0_12 pz0_13 pz0_14 pz0_18 pz0_19 pz0_22 pz0_23 pz0_29)), (z 1, aI V 3075 fz1), (z 15, aI V 900 f_14), (z 16, aI V 6 f_15)] H ∧ va_D A [(z 0, .inr (10, mo z 0 pz0_5 pz0_6 pz0_7 pz0_8 pz0_9 pz0_10 pz0_11 pz0_12 pz0_13 pz0_14 pz0_18 pz0_19 pz0_22 pz0_23 pz0_29)), (z 1, aI V 3075 fz1), (z 15, aI V 900 f_14), (z 16, aI V 6 f_15)] ∧ va_S A s.heap H locs ∧ lv_has ls 5 [(4, .int u_12), (3, .int u_4), (2, .int u_13), (1, .int 1), (0, .ref (z 0))]) (g := fun ls => F0 m 48 ls []) (fun n_16 H locs ls hX ihn_16 => ?_) _ ⟨0, u_5, f_6, f_7, (iv_c (0 : Int32) (by decide)), tf_7, inn_8_0, rfl, hP, hD, hS, lv_sub hl [0, 1, 2, 3, 4] rfl⟩
      obtain ⟨u_12, u_13, f_14, f_15, bu_12, tf_15, inn_16_0, en_16, hP, hD, hS, hl⟩ := hX
      refine lv_iload hx hb dX10_rests_48 (lv_at hl 0 rfl) ?_
      refine lv_iload_n hx hb dX10_rests_50 rfl (lv_at hl 3 rfl) ?_
      refine lv_icmp_ge (tgt := 99) hx hb dX10_rests_51 (by decide) (fun c_17 => ?_) (fun c_17 => ?_)
      · have b_18 : iv 1 2147483647 u_12 := iv_e2 c_17 (iv_c (1 : Int32) (a := 1) (b := 1) (by decide)) bu_12 (by decide)
        obtain ⟨x_19, ex_19⟩ : ∃ z9 : Int32, z9 = u_4 + 1 := ⟨_, rfl⟩
        have bx_19 : iv 1 1 x_19 := by rw [ex_19]; exact iv_add b_11 (iv_c (1 : Int32) (a := 1) (b := 1) (by decide)) (by decide)
        refine lv_iinc (v := x_19) (lv' := [(3, .int x_19), (4, .int u_12), (2, .int u_13), (1, .int 1), (0, .ref (z 0))]) hx hb dX10_rests_99 hl (k := 1) rfl (by rw [ex_19]; rfl) (by decide) rfl (fun ls hl => ?_)
        refine lv_goto (tgt := 33) hx hb dX10_rests_102 (by decide) ?_
        exact ihn_8 _ _ _ _ (by rw [en_8, ex_19]; exact mu_up b_11 (by decide)) ⟨x_19, u_13, f_14, f_15, (iv_w bx_19 (by decide)), tf_15, inn_16_0, rfl, hP, hD, hS, lv_sub hl [0, 2, 3, 4] rfl⟩
      · have b_20 : iv 0 0 u_12 := iv_l1 (Int32.not_le.mp c_17) bu_12 (iv_c (1 : Int32) (a := 1) (b := 1) (by decide)) (by decide)
        refine lv_iload_n hx hb dX10_rests_54 rfl (lv_at hl 2 rfl) ?_
        refine lv_aload_n hx hb dX10_rests_55 rfl (lv_at hl 4 rfl) ?_
        refine lv_sipush (v := 625) hx hb dX10_rests_56 (by decide) ?_
        refine lv_iload_n hx hb dX10_rests_59 rfl (lv_at hl 1 rfl) ?_
        refine lv_imul hx hb dX10_rests_60 ?_
        refine lv_topi (fun x_21 ex_21 => ?_)
        have bx_21 : iv 0 0 x_21 := by rw [ex_21]; exact iv_cmul (iv_c (625 : Int32) (a := 625) (b := 625) (by decide)) b_11 (by decide)
        refine lv_iload hx hb dX10_rests_61 (lv_at hl 0 rfl) ?_
        refine lv_iadd hx hb dX10_rests_63 ?_
        refine lv_topi (fun x_22 ex_22 => ?_)
        have bx_22 : iv 0 0 x_22 := by rw [ex_22]; exact iv_add bx_21 b_20 (by decide)
        refine lv_iconst (v := 0) hx hb dX10_rests_64 (by decide) ?_
        refine lv_aload_n hx hb dX10_rests_65 rfl (lv_at hl 4 rfl) ?_
        refine va_get (ci := 10) (v := .ref (z 1)) (C := RX10) (T := TX10) (N := 40) hx hb hg inX10 hown hK hP 0 rfl rfl 1 (by decide) (hg _ q_5_225) (fun _ h9 => h9) rfl dX10_rests_66 ?_
        refine lv_bipush (v := 51) hx hb dX10_rests_69 (by decide) ?_
        refine va_iald hx hb hK hP 1 0 rfl rfl (vin (by decide +kernel)) dX10_rests_71 ?_
        refine lv_topi (fun x_23 ex_23 => ?_)
        have bx_23 : iv 0 9 x_23 := by rw [ex_23]; exact rdT (a := 51) (n := 1) tfz1 (iv_c (51 : Int32) (a := 51) (b := 51) (by decide)) (by decide) (by decide +kernel)
        refine jnI (wr := []) (rnV (rest := [.int u_13]) ⟨hx, hb, hml, hown, hg⟩ (k_X10_nightTo_0 l V z x_22 0 x_23 f_14 f_15 0 pz0_5 pz0_6 pz0_7 pz0_8 pz0_9 pz0_10 pz0_11 pz0_12 pz0_13 pz0_14 pz0_18 pz0_19 pz0_22 pz0_23 pz0_29 fz1 (iv_w bx_22 (by decide)) tf_15 bpz0_5 bpz0_6 bpz0_7 bpz0_8 bpz0_10 bpz0_11 bpz0_12 bpz0_13 bpz0_14 bpz0_18 bpz0_22 bpz0_29 tfz1 inn_16_0) mt_X10_nightTo q_7_18 ⟨Nat.le_of_ble_eq_true rfl, Nat.le_of_ble_eq_true rfl⟩ hK hP hD hS hA hE [2, 3, 0, 1] rfl rfl 0 rfl rfl rfl rfl hl.1 rfl (Nat.le_of_ble_eq_true rfl) dX10_rests_72 ⟨Nat.le_of_ble_eq_true rfl, Nat.le_of_ble_eq_true rfl⟩) hP hD hS hA [2, 3, 0, 1] [] rfl rfl rfl (by decide) (fun r_24 w H locs hw hP hD hS => ?_)
        obtain ⟨f_25, f_26, tf_26, br_24, g_27, et_28, et_29, et_30, rfl⟩ := hw
        have hP : va_P V.1 vwCl [(z 15, aI V 900 f_25), (z 16, aI V 6 f_26), (z 0, .inr (10, mo z 0 pz0_5 pz0_6 pz0_7 pz0_8 pz0_9 pz0_10 pz0_11 pz0_12 pz0_13 pz0_14 pz0_18 pz0_19 pz0_22 pz0_23 pz0_29)), (z 1, aI V 3075 fz1)] H := hP
        have hD := cpD hP hD
        refine lv_sipush (v := 625) hx hb dX10_rests_75 (by decide) ?_
        refine lv_iload_n hx hb dX10_rests_78 rfl (lv_at hl 1 rfl) ?_
        refine lv_imul hx hb dX10_rests_79 ?_
        refine tpi (y := x_21) ex_21.symm ?_
        refine lv_iload hx hb dX10_rests_80 (lv_at hl 0 rfl) ?_
        refine lv_iadd hx hb dX10_rests_82 ?_
        refine tpi (y := x_22) ex_22.symm ?_
        refine lv_icmp_ne (tgt := 90) hx hb dX10_rests_83 (by decide) (fun c_31 => ?_) (fun c_31 => ?_)
        · have b_32 : iv 1 9843 r_24 := iv_n0 c_31 br_24 bx_22 (by decide)
          refine lv_iconst (v := 0) hx hb dX10_rests_90 (by decide) ?_
          refine lv_iadd hx hb dX10_rests_91 ?_
          refine lv_topi (fun x_33 ex_33 => ?_)
          refine lv_istore_n (lv' := [(2, .int x_33), (4, .int u_12), (3, .int u_4), (1, .int 1), (0, .ref (z 0))]) hx hb dX10_rests_92 rfl hl (by decide) rfl (fun ls hl => ?_)
          obtain ⟨x_34, ex_34⟩ : ∃ z9 : Int32, z9 = u_12 + 1 := ⟨_, rfl⟩
          have bx_34 : iv 1 1 x_34 := by rw [ex_34]; exact iv_add b_20 (iv_c (1 : Int32) (a := 1) (b := 1) (by decide)) (by decide)
          refine lv_iinc (v := x_34) (lv' := [(4, .int x_34), (2, .int x_33), (3, .int u_4), (1, .int 1), (0, .ref (z 0))]) hx hb dX10_rests_93 hl (k := 1) rfl (by rw [ex_34]; rfl) (by decide) rfl (fun ls hl => ?_)
          refine lv_goto (tgt := 48) hx hb dX10_rests_96 (by decide) ?_
          have hP := subP (ws' := [(z 0, .inr (10, mo z 0 pz0_5 pz0_6 pz0_7 pz0_8 pz0_9 pz0_10 pz0_11 pz0_12 pz0_13 pz0_14 pz0_18 pz0_19 pz0_22 pz0_23 pz0_29)), (z 1, aI V 3075 fz1), (z 15, aI V 900 f_25), (z 16, aI V 6 f_26)]) hP [2, 3, 0, 1] rfl
          have hD := subD hP hD [2, 3, 0, 1] rfl rfl
          exact ihn_16 _ _ _ _ (by rw [en_16, ex_34]; exact mu_up b_20 (by decide)) ⟨x_34, x_33, f_25, f_26, (iv_w bx_34 (by decide)), tf_26, g_27, rfl, hP, hD, hS, lv_sub hl [0, 2, 1, 3, 4] rfl⟩
        · have b_35 : iv 0 0 r_24 := iv_q c_31 bx_22
          refine lv_iconst (v := 1) hx hb dX10_rests_86 (by decide) ?_
          refine lv_goto (tgt := 91) hx hb dX10_rests_87 (by decide) ?_
          refine lv_iadd hx hb dX10_rests_91 ?_
          refine lv_topi (fun x_36 ex_36 => ?_)
          refine lv_istore_n (lv' := [(2, .int x_36), (4, .int u_12), (3, .int u_4), (1, .int 1), (0, .ref (z 0))]) hx hb dX10_rests_92 rfl hl (by decide) rfl (fun ls hl => ?_)
          obtain ⟨x_37, ex_37⟩ : ∃ z9 : Int32, z9 = u_12 + 1 := ⟨_, rfl⟩
          have bx_37 : iv 1 1 x_37 := by rw [ex_37]; exact iv_add b_20 (iv_c (1 : Int32) (a := 1) (b := 1) (by decide)) (by decide)
          refine lv_iinc (v := x_37) (lv' := [(4, .int x_37), (2, .int x_36), (3, .int u_4), (1, .int 1), (0, .ref (z 0))]) hx hb dX10_rests_93 hl (k := 1) rfl (by rw [ex_37]; rfl) (by decide) rfl (fun ls hl => ?_)
          refine lv_goto (tgt := 48) hx hb dX10_rests_96 (by decide) ?_
          have hP := subP (ws' := [(z 0, .inr (10, mo z 0 pz0_5 pz0_6 pz0_7 pz0_8 pz0_9 pz0_10 pz0_11 pz0_12 pz0_13 pz0_14 pz0_18 pz0_19 pz0_22 pz0_23 pz0_29)), (z 1, aI V 3075 fz1), (z 15, aI V 900 f_25), (z 16, aI V 6 f_26)]) hP [2, 3, 0, 1] rfl
          have hD := subD hP hD [2, 3, 0, 1] rfl rfl
          exact ihn_16 _ _ _ _ (by rw [en_16, ex_37]; exact mu_up b_20 (by decide)) ⟨x_37, x_36, f_25, f_26, (iv_w bx_37 (by decide)), tf_26, g_27, rfl, hP, hD, hS, lv_sub hl [0, 2, 1, 3, 4] rfl⟩
  · have b_38 : iv 1 4 x_1 := iv_l2 (Int32.not_le.mp c_2) (iv_c (0 : Int32) (a := 0) (b := 0) (by decide)) bx_1 (by decide)
    refine lv_iload_n hx hb dX10_rests_19 rfl (lv_at hl 1 rfl) ?_
    refine lv_iconst (v := 5) hx hb dX10_rests_20 (by decide) ?_
    refine lv_imul hx hb dX10_rests_21 ?_
    refine tpi (y := 5) (by decide +kernel) ?_
    refine lv_istore_n (lv' := [(1, .int 5), (2, .int 0), (0, .ref (z 0))]) hx hb dX10_rests_22 rfl hl (by decide) rfl (fun ls hl => ?_)
    refine lv_iinc (v := 1) (lv' := [(2, .int 1), (1, .int 5), (0, .ref (z 0))]) hx hb dX10_rests_23 hl (k := 1) rfl (by decide +kernel) (by decide) rfl (fun ls hl => ?_)
    refine lv_goto (tgt := 9) hx hb dX10_rests_26 (by decide) ?_
    refine lv_iload_n hx hb dX10_rests_9 rfl (lv_at hl 0 rfl) ?_
    refine lv_aload_n hx hb dX10_rests_10 rfl (lv_at hl 2 rfl) ?_
    refine va_get (ci := 10) (v := .ref (z 1)) (C := RX10) (T := TX10) (N := 40) hx hb hg inX10 hown hK hP 0 rfl rfl 1 (by decide) (hg _ q_5_225) (fun _ h9 => h9) rfl dX10_rests_11 ?_
    refine lv_iconst (v := 1) hx hb dX10_rests_14 (by decide) ?_
    refine va_iald hx hb hK hP 1 0 rfl rfl (vin (by decide +kernel)) dX10_rests_15 ?_
    refine tpi (y := x_1) ex_1.symm ?_
    refine lv_icmp_ge (tgt := 29) hx hb dX10_rests_16 (by decide) (fun c_39 => ?_) (fun c_39 => ?_)
    · have b_40 : iv 1 1 x_1 := iv_e1 c_39 b_38 (iv_c (1 : Int32) (a := 1) (b := 1) (by decide)) (by decide)
      refine lv_iconst (v := 0) hx hb dX10_rests_29 (by decide) ?_
      refine lv_istore_n (lv' := [(2, .int 0), (1, .int 5), (0, .ref (z 0))]) hx hb dX10_rests_30 rfl hl (by decide) rfl (fun ls hl => ?_)
      refine lv_iconst (v := 0) hx hb dX10_rests_31 (by decide) ?_
      refine lv_istore_n (lv' := [(3, .int 0), (2, .int 0), (1, .int 5), (0, .ref (z 0))]) hx hb dX10_rests_32 rfl hl (by decide) rfl (fun ls hl => ?_)
      refine loopF (X := fun (n_45 : Nat) (H : Heap) (locs : List Loc) (ls : Array Slot) => ∃ (u_41 : Int32) (u_42 : Int32) (f_43 : Nat → Int32) (f_44 : Nat → Int32), (iv 0 2147483647 u_41) ∧ (ivT tW f_44) ∧ (RW fz1) ∧ n_45 = (2147483647 - (u_41 : Int32).toInt).toNat ∧ va_P V.1 vwCl [(z 0, .inr (10, mo z 0 pz0_5 pz0_6 pz0_7 pz0_8 pz0_9 pz0_10 pz0_11 pz0_12 pz0_13 pz0_14 pz0_18 pz0_19 pz0_22 pz0_23 pz0_29)), (z 1, aI V 3075 fz1), (z 15, aI V 900 f_43), (z 16, aI V 6 f_44)] H ∧ va_D A [(z 0, .inr (10, mo z 0 pz0_5 pz0_6 pz0_7 pz0_8 pz0_9 pz0_10 pz0_11 pz0_12 pz0_13 pz0_14 pz0_18 pz0_19 pz0_22 pz0_23 pz0_29)), (z 1, aI V 3075 fz1), (z 15, aI V 900 f_43), (z 16, aI V 6 f_44)] ∧ va_S A s.heap H locs ∧ lv_has ls 5 [(3, .int u_41), (2, .int u_42), (1, .int 5), (0, .ref (z 0))]) (g := fun ls => F0 m 33 ls []) (fun n_45 H locs ls hX ihn_45 => ?_) _ ⟨0, 0, fz15, fz16, (iv_c (0 : Int32) (by decide)), tfz16, hf0, rfl, hP, hD, hS, lv_sub hl [0, 1, 2, 3] rfl⟩
      obtain ⟨u_41, u_42, f_43, f_44, bu_41, tf_44, inn_45_0, en_45, hP, hD, hS, hl⟩ := hX
      refine lv_iload_n hx hb dX10_rests_33 rfl (lv_at hl 0 rfl) ?_
      refine lv_iconst (v := 1) hx hb dX10_rests_34 (by decide) ?_
      refine lv_aload_n hx hb dX10_rests_35 rfl (lv_at hl 3 rfl) ?_
      refine va_get (ci := 10) (v := .ref (z 1)) (C := RX10) (T := TX10) (N := 40) hx hb hg inX10 hown hK hP 0 rfl rfl 1 (by decide) (hg _ q_5_225) (fun _ h9 => h9) rfl dX10_rests_36 ?_
      refine lv_iconst (v := 1) hx hb dX10_rests_39 (by decide) ?_
      refine va_iald hx hb hK hP 1 0 rfl rfl (vin (by decide +kernel)) dX10_rests_40 ?_
      refine tpi (y := x_1) ex_1.symm ?_
      refine tpi (y := 1) (iv_eqp b_40 (iv_c (1 : Int32) (by decide))) ?_
      refine lv_ishl hx hb dX10_rests_41 ?_
      refine tpi (y := 2) (by decide +kernel) ?_
      refine lv_icmp_ge (tgt := 105) hx hb dX10_rests_42 (by decide) (fun c_46 => ?_) (fun c_46 => ?_)
      · have b_47 : iv 2 2147483647 u_41 := iv_e2 c_46 (iv_c (2 : Int32) (a := 2) (b := 2) (by decide)) bu_41 (by decide)
        refine lv_iload_n hx hb dX10_rests_105 rfl (lv_at hl 1 rfl) ?_
        exact fiI hx hb hr hlk hK hP hD hS dX10_rests_106 (Nat.le_of_ble_eq_true rfl) (Nat.le_of_ble_eq_true rfl) (⟨0, f_43, f_44, tf_44, inn_45_0, rfl⟩)
      · have b_48 : iv 0 1 u_41 := iv_l1 (Int32.not_le.mp c_46) bu_41 (iv_c (2 : Int32) (a := 2) (b := 2) (by decide)) (by decide)
        refine lv_iconst (v := 0) hx hb dX10_rests_45 (by decide) ?_
        refine lv_istore (lv' := [(4, .int 0), (3, .int u_41), (2, .int u_42), (1, .int 5), (0, .ref (z 0))]) hx hb dX10_rests_46 hl (by decide) rfl (fun ls hl => ?_)
        refine loopF (X := fun (n_53 : Nat) (H : Heap) (locs : List Loc) (ls : Array Slot) => ∃ (u_49 : Int32) (u_50 : Int32) (f_51 : Nat → Int32) (f_52 : Nat → Int32), (iv 0 2147483647 u_49) ∧ (ivT tW f_52) ∧ (RW fz1) ∧ n_53 = (2147483647 - (u_49 : Int32).toInt).toNat ∧ va_P V.1 vwCl [(z 0, .inr (10, mo z 0 pz0_5 pz0_6 pz0_7 pz0_8 pz0_9 pz0_10 pz0_11 pz0_12 pz0_13 pz0_14 pz0_18 pz0_19 pz0_22 pz0_23 pz0_29)), (z 1, aI V 3075 fz1), (z 15, aI V 900 f_51), (z 16, aI V 6 f_52)] H ∧ va_D A [(z 0, .inr (10, mo z 0 pz0_5 pz0_6 pz0_7 pz0_8 pz0_9 pz0_10 pz0_11 pz0_12 pz0_13 pz0_14 pz0_18 pz0_19 pz0_22 pz0_23 pz0_29)), (z 1, aI V 3075 fz1), (z 15, aI V 900 f_51), (z 16, aI V 6 f_52)] ∧ va_S A s.heap H locs ∧ lv_has ls 5 [(4, .int u_49), (3, .int u_41), (2, .int u_50), (1, .int 5), (0, .ref (z 0))]) (g := fun ls => F0 m 48 ls []) (fun n_53 H locs ls hX ihn_53 => ?_) _ ⟨0, u_42, f_43, f_44, (iv_c (0 : Int32) (by decide)), tf_44, inn_45_0, rfl, hP, hD, hS, lv_sub hl [0, 1, 2, 3, 4] rfl⟩
        obtain ⟨u_49, u_50, f_51, f_52, bu_49, tf_52, inn_53_0, en_53, hP, hD, hS, hl⟩ := hX
        refine lv_iload hx hb dX10_rests_48 (lv_at hl 0 rfl) ?_
        refine lv_iload_n hx hb dX10_rests_50 rfl (lv_at hl 3 rfl) ?_
        refine lv_icmp_ge (tgt := 99) hx hb dX10_rests_51 (by decide) (fun c_54 => ?_) (fun c_54 => ?_)
        · have b_55 : iv 5 2147483647 u_49 := iv_e2 c_54 (iv_c (5 : Int32) (a := 5) (b := 5) (by decide)) bu_49 (by decide)
          obtain ⟨x_56, ex_56⟩ : ∃ z9 : Int32, z9 = u_41 + 1 := ⟨_, rfl⟩
          have bx_56 : iv 1 2 x_56 := by rw [ex_56]; exact iv_add b_48 (iv_c (1 : Int32) (a := 1) (b := 1) (by decide)) (by decide)
          refine lv_iinc (v := x_56) (lv' := [(3, .int x_56), (4, .int u_49), (2, .int u_50), (1, .int 5), (0, .ref (z 0))]) hx hb dX10_rests_99 hl (k := 1) rfl (by rw [ex_56]; rfl) (by decide) rfl (fun ls hl => ?_)
          refine lv_goto (tgt := 33) hx hb dX10_rests_102 (by decide) ?_
          exact ihn_45 _ _ _ _ (by rw [en_45, ex_56]; exact mu_up b_48 (by decide)) ⟨x_56, u_50, f_51, f_52, (iv_w bx_56 (by decide)), tf_52, inn_53_0, rfl, hP, hD, hS, lv_sub hl [0, 2, 3, 4] rfl⟩
        · have b_57 : iv 0 4 u_49 := iv_l1 (Int32.not_le.mp c_54) bu_49 (iv_c (5 : Int32) (a := 5) (b := 5) (by decide)) (by decide)
          refine lv_iload_n hx hb dX10_rests_54 rfl (lv_at hl 2 rfl) ?_
          refine lv_aload_n hx hb dX10_rests_55 rfl (lv_at hl 4 rfl) ?_
          refine lv_sipush (v := 625) hx hb dX10_rests_56 (by decide) ?_
          refine lv_iload_n hx hb dX10_rests_59 rfl (lv_at hl 1 rfl) ?_
          refine lv_imul hx hb dX10_rests_60 ?_
          refine lv_topi (fun x_58 ex_58 => ?_)
          have bx_58 : iv 0 625 x_58 := by rw [ex_58]; exact iv_cmul (iv_c (625 : Int32) (a := 625) (b := 625) (by decide)) b_48 (by decide)
          refine lv_iload hx hb dX10_rests_61 (lv_at hl 0 rfl) ?_
          refine lv_iadd hx hb dX10_rests_63 ?_
          refine lv_topi (fun x_59 ex_59 => ?_)
          have bx_59 : iv 0 629 x_59 := by rw [ex_59]; exact iv_add bx_58 b_57 (by decide)
          refine lv_iconst (v := 0) hx hb dX10_rests_64 (by decide) ?_
          refine lv_aload_n hx hb dX10_rests_65 rfl (lv_at hl 4 rfl) ?_
          refine va_get (ci := 10) (v := .ref (z 1)) (C := RX10) (T := TX10) (N := 40) hx hb hg inX10 hown hK hP 0 rfl rfl 1 (by decide) (hg _ q_5_225) (fun _ h9 => h9) rfl dX10_rests_66 ?_
          refine lv_bipush (v := 51) hx hb dX10_rests_69 (by decide) ?_
          refine va_iald hx hb hK hP 1 0 rfl rfl (vin (by decide +kernel)) dX10_rests_71 ?_
          refine lv_topi (fun x_60 ex_60 => ?_)
          have bx_60 : iv 0 9 x_60 := by rw [ex_60]; exact rdT (a := 51) (n := 1) tfz1 (iv_c (51 : Int32) (a := 51) (b := 51) (by decide)) (by decide) (by decide +kernel)
          refine jnI (wr := []) (rnV (rest := [.int u_50]) ⟨hx, hb, hml, hown, hg⟩ (k_X10_nightTo_0 l V z x_59 0 x_60 f_51 f_52 0 pz0_5 pz0_6 pz0_7 pz0_8 pz0_9 pz0_10 pz0_11 pz0_12 pz0_13 pz0_14 pz0_18 pz0_19 pz0_22 pz0_23 pz0_29 fz1 (iv_w bx_59 (by decide)) tf_52 bpz0_5 bpz0_6 bpz0_7 bpz0_8 bpz0_10 bpz0_11 bpz0_12 bpz0_13 bpz0_14 bpz0_18 bpz0_22 bpz0_29 tfz1 inn_53_0) mt_X10_nightTo q_7_18 ⟨Nat.le_of_ble_eq_true rfl, Nat.le_of_ble_eq_true rfl⟩ hK hP hD hS hA hE [2, 3, 0, 1] rfl rfl 0 rfl rfl rfl rfl hl.1 rfl (Nat.le_of_ble_eq_true rfl) dX10_rests_72 ⟨Nat.le_of_ble_eq_true rfl, Nat.le_of_ble_eq_true rfl⟩) hP hD hS hA [2, 3, 0, 1] [] rfl rfl rfl (by decide) (fun r_61 w H locs hw hP hD hS => ?_)
          obtain ⟨f_62, f_63, tf_63, br_61, g_64, et_65, et_66, et_67, rfl⟩ := hw
          have hP : va_P V.1 vwCl [(z 15, aI V 900 f_62), (z 16, aI V 6 f_63), (z 0, .inr (10, mo z 0 pz0_5 pz0_6 pz0_7 pz0_8 pz0_9 pz0_10 pz0_11 pz0_12 pz0_13 pz0_14 pz0_18 pz0_19 pz0_22 pz0_23 pz0_29)), (z 1, aI V 3075 fz1)] H := hP
          have hD := cpD hP hD
          refine lv_sipush (v := 625) hx hb dX10_rests_75 (by decide) ?_
          refine lv_iload_n hx hb dX10_rests_78 rfl (lv_at hl 1 rfl) ?_
          refine lv_imul hx hb dX10_rests_79 ?_
          refine tpi (y := x_58) ex_58.symm ?_
          refine lv_iload hx hb dX10_rests_80 (lv_at hl 0 rfl) ?_
          refine lv_iadd hx hb dX10_rests_82 ?_
          refine tpi (y := x_59) ex_59.symm ?_
          refine lv_icmp_ne (tgt := 90) hx hb dX10_rests_83 (by decide) (fun c_68 => ?_) (fun c_68 => ?_)
          · refine lv_iconst (v := 0) hx hb dX10_rests_90 (by decide) ?_
            refine lv_iadd hx hb dX10_rests_91 ?_
            refine lv_topi (fun x_69 ex_69 => ?_)
            refine lv_istore_n (lv' := [(2, .int x_69), (4, .int u_49), (3, .int u_41), (1, .int 5), (0, .ref (z 0))]) hx hb dX10_rests_92 rfl hl (by decide) rfl (fun ls hl => ?_)
            obtain ⟨x_70, ex_70⟩ : ∃ z9 : Int32, z9 = u_49 + 1 := ⟨_, rfl⟩
            have bx_70 : iv 1 5 x_70 := by rw [ex_70]; exact iv_add b_57 (iv_c (1 : Int32) (a := 1) (b := 1) (by decide)) (by decide)
            refine lv_iinc (v := x_70) (lv' := [(4, .int x_70), (2, .int x_69), (3, .int u_41), (1, .int 5), (0, .ref (z 0))]) hx hb dX10_rests_93 hl (k := 1) rfl (by rw [ex_70]; rfl) (by decide) rfl (fun ls hl => ?_)
            refine lv_goto (tgt := 48) hx hb dX10_rests_96 (by decide) ?_
            have hP := subP (ws' := [(z 0, .inr (10, mo z 0 pz0_5 pz0_6 pz0_7 pz0_8 pz0_9 pz0_10 pz0_11 pz0_12 pz0_13 pz0_14 pz0_18 pz0_19 pz0_22 pz0_23 pz0_29)), (z 1, aI V 3075 fz1), (z 15, aI V 900 f_62), (z 16, aI V 6 f_63)]) hP [2, 3, 0, 1] rfl
            have hD := subD hP hD [2, 3, 0, 1] rfl rfl
            exact ihn_53 _ _ _ _ (by rw [en_53, ex_70]; exact mu_up b_57 (by decide)) ⟨x_70, x_69, f_62, f_63, (iv_w bx_70 (by decide)), tf_63, g_64, rfl, hP, hD, hS, lv_sub hl [0, 2, 1, 3, 4] rfl⟩
          · have b_71 : iv 0 629 r_61 := iv_q c_68 bx_59
            refine lv_iconst (v := 1) hx hb dX10_rests_86 (by decide) ?_
            refine lv_goto (tgt := 91) hx hb dX10_rests_87 (by decide) ?_
            refine lv_iadd hx hb dX10_rests_91 ?_
            refine lv_topi (fun x_72 ex_72 => ?_)
            refine lv_istore_n (lv' := [(2, .int x_72), (4, .int u_49), (3, .int u_41), (1, .int 5), (0, .ref (z 0))]) hx hb dX10_rests_92 rfl hl (by decide) rfl (fun ls hl => ?_)
            obtain ⟨x_73, ex_73⟩ : ∃ z9 : Int32, z9 = u_49 + 1 := ⟨_, rfl⟩
            have bx_73 : iv 1 5 x_73 := by rw [ex_73]; exact iv_add b_57 (iv_c (1 : Int32) (a := 1) (b := 1) (by decide)) (by decide)
            refine lv_iinc (v := x_73) (lv' := [(4, .int x_73), (2, .int x_72), (3, .int u_41), (1, .int 5), (0, .ref (z 0))]) hx hb dX10_rests_93 hl (k := 1) rfl (by rw [ex_73]; rfl) (by decide) rfl (fun ls hl => ?_)
            refine lv_goto (tgt := 48) hx hb dX10_rests_96 (by decide) ?_
            have hP := subP (ws' := [(z 0, .inr (10, mo z 0 pz0_5 pz0_6 pz0_7 pz0_8 pz0_9 pz0_10 pz0_11 pz0_12 pz0_13 pz0_14 pz0_18 pz0_19 pz0_22 pz0_23 pz0_29)), (z 1, aI V 3075 fz1), (z 15, aI V 900 f_62), (z 16, aI V 6 f_63)]) hP [2, 3, 0, 1] rfl
            have hD := subD hP hD [2, 3, 0, 1] rfl rfl
            exact ihn_53 _ _ _ _ (by rw [en_53, ex_73]; exact mu_up b_57 (by decide)) ⟨x_73, x_72, f_62, f_63, (iv_w bx_73 (by decide)), tf_63, g_64, rfl, hP, hD, hS, lv_sub hl [0, 2, 1, 3, 4] rfl⟩
    · have b_74 : iv 2 4 x_1 := iv_l2 (Int32.not_le.mp c_39) (iv_c (1 : Int32) (a := 1) (b := 1) (by decide)) b_38 (by decide)
      refine lv_iload_n hx hb dX10_rests_19 rfl (lv_at hl 1 rfl) ?_
      refine lv_iconst (v := 5) hx hb dX10_rests_20 (by decide) ?_
      refine lv_imul hx hb dX10_rests_21 ?_
      refine tpi (y := 25) (by decide +kernel) ?_
      refine lv_istore_n (lv' := [(1, .int 25), (2, .int 1), (0, .ref (z 0))]) hx hb dX10_rests_22 rfl hl (by decide) rfl (fun ls hl => ?_)
      refine lv_iinc (v := 2) (lv' := [(2, .int 2), (1, .int 25), (0, .ref (z 0))]) hx hb dX10_rests_23 hl (k := 1) rfl (by decide +kernel) (by decide) rfl (fun ls hl => ?_)
      refine lv_goto (tgt := 9) hx hb dX10_rests_26 (by decide) ?_
      refine lv_iload_n hx hb dX10_rests_9 rfl (lv_at hl 0 rfl) ?_
      refine lv_aload_n hx hb dX10_rests_10 rfl (lv_at hl 2 rfl) ?_
      refine va_get (ci := 10) (v := .ref (z 1)) (C := RX10) (T := TX10) (N := 40) hx hb hg inX10 hown hK hP 0 rfl rfl 1 (by decide) (hg _ q_5_225) (fun _ h9 => h9) rfl dX10_rests_11 ?_
      refine lv_iconst (v := 1) hx hb dX10_rests_14 (by decide) ?_
      refine va_iald hx hb hK hP 1 0 rfl rfl (vin (by decide +kernel)) dX10_rests_15 ?_
      refine tpi (y := x_1) ex_1.symm ?_
      refine lv_icmp_ge (tgt := 29) hx hb dX10_rests_16 (by decide) (fun c_75 => ?_) (fun c_75 => ?_)
      · have b_76 : iv 2 2 x_1 := iv_e1 c_75 b_74 (iv_c (2 : Int32) (a := 2) (b := 2) (by decide)) (by decide)
        refine lv_iconst (v := 0) hx hb dX10_rests_29 (by decide) ?_
        refine lv_istore_n (lv' := [(2, .int 0), (1, .int 25), (0, .ref (z 0))]) hx hb dX10_rests_30 rfl hl (by decide) rfl (fun ls hl => ?_)
        refine lv_iconst (v := 0) hx hb dX10_rests_31 (by decide) ?_
        refine lv_istore_n (lv' := [(3, .int 0), (2, .int 0), (1, .int 25), (0, .ref (z 0))]) hx hb dX10_rests_32 rfl hl (by decide) rfl (fun ls hl => ?_)
        refine loopF (X := fun (n_81 : Nat) (H : Heap) (locs : List Loc) (ls : Array Slot) => ∃ (u_77 : Int32) (u_78 : Int32) (f_79 : Nat → Int32) (f_80 : Nat → Int32), (iv 0 2147483647 u_77) ∧ (ivT tW f_80) ∧ (RW fz1) ∧ n_81 = (2147483647 - (u_77 : Int32).toInt).toNat ∧ va_P V.1 vwCl [(z 0, .inr (10, mo z 0 pz0_5 pz0_6 pz0_7 pz0_8 pz0_9 pz0_10 pz0_11 pz0_12 pz0_13 pz0_14 pz0_18 pz0_19 pz0_22 pz0_23 pz0_29)), (z 1, aI V 3075 fz1), (z 15, aI V 900 f_79), (z 16, aI V 6 f_80)] H ∧ va_D A [(z 0, .inr (10, mo z 0 pz0_5 pz0_6 pz0_7 pz0_8 pz0_9 pz0_10 pz0_11 pz0_12 pz0_13 pz0_14 pz0_18 pz0_19 pz0_22 pz0_23 pz0_29)), (z 1, aI V 3075 fz1), (z 15, aI V 900 f_79), (z 16, aI V 6 f_80)] ∧ va_S A s.heap H locs ∧ lv_has ls 5 [(3, .int u_77), (2, .int u_78), (1, .int 25), (0, .ref (z 0))]) (g := fun ls => F0 m 33 ls []) (fun n_81 H locs ls hX ihn_81 => ?_) _ ⟨0, 0, fz15, fz16, (iv_c (0 : Int32) (by decide)), tfz16, hf0, rfl, hP, hD, hS, lv_sub hl [0, 1, 2, 3] rfl⟩
        obtain ⟨u_77, u_78, f_79, f_80, bu_77, tf_80, inn_81_0, en_81, hP, hD, hS, hl⟩ := hX
        refine lv_iload_n hx hb dX10_rests_33 rfl (lv_at hl 0 rfl) ?_
        refine lv_iconst (v := 1) hx hb dX10_rests_34 (by decide) ?_
        refine lv_aload_n hx hb dX10_rests_35 rfl (lv_at hl 3 rfl) ?_
        refine va_get (ci := 10) (v := .ref (z 1)) (C := RX10) (T := TX10) (N := 40) hx hb hg inX10 hown hK hP 0 rfl rfl 1 (by decide) (hg _ q_5_225) (fun _ h9 => h9) rfl dX10_rests_36 ?_
        refine lv_iconst (v := 1) hx hb dX10_rests_39 (by decide) ?_
        refine va_iald hx hb hK hP 1 0 rfl rfl (vin (by decide +kernel)) dX10_rests_40 ?_
        refine tpi (y := x_1) ex_1.symm ?_
        refine tpi (y := 2) (iv_eqp b_76 (iv_c (2 : Int32) (by decide))) ?_
        refine lv_ishl hx hb dX10_rests_41 ?_
        refine tpi (y := 4) (by decide +kernel) ?_
        refine lv_icmp_ge (tgt := 105) hx hb dX10_rests_42 (by decide) (fun c_82 => ?_) (fun c_82 => ?_)
        · have b_83 : iv 4 2147483647 u_77 := iv_e2 c_82 (iv_c (4 : Int32) (a := 4) (b := 4) (by decide)) bu_77 (by decide)
          refine lv_iload_n hx hb dX10_rests_105 rfl (lv_at hl 1 rfl) ?_
          exact fiI hx hb hr hlk hK hP hD hS dX10_rests_106 (Nat.le_of_ble_eq_true rfl) (Nat.le_of_ble_eq_true rfl) (⟨0, f_79, f_80, tf_80, inn_81_0, rfl⟩)
        · have b_84 : iv 0 3 u_77 := iv_l1 (Int32.not_le.mp c_82) bu_77 (iv_c (4 : Int32) (a := 4) (b := 4) (by decide)) (by decide)
          refine lv_iconst (v := 0) hx hb dX10_rests_45 (by decide) ?_
          refine lv_istore (lv' := [(4, .int 0), (3, .int u_77), (2, .int u_78), (1, .int 25), (0, .ref (z 0))]) hx hb dX10_rests_46 hl (by decide) rfl (fun ls hl => ?_)
          refine loopF (X := fun (n_89 : Nat) (H : Heap) (locs : List Loc) (ls : Array Slot) => ∃ (u_85 : Int32) (u_86 : Int32) (f_87 : Nat → Int32) (f_88 : Nat → Int32), (iv 0 2147483647 u_85) ∧ (ivT tW f_88) ∧ (RW fz1) ∧ n_89 = (2147483647 - (u_85 : Int32).toInt).toNat ∧ va_P V.1 vwCl [(z 0, .inr (10, mo z 0 pz0_5 pz0_6 pz0_7 pz0_8 pz0_9 pz0_10 pz0_11 pz0_12 pz0_13 pz0_14 pz0_18 pz0_19 pz0_22 pz0_23 pz0_29)), (z 1, aI V 3075 fz1), (z 15, aI V 900 f_87), (z 16, aI V 6 f_88)] H ∧ va_D A [(z 0, .inr (10, mo z 0 pz0_5 pz0_6 pz0_7 pz0_8 pz0_9 pz0_10 pz0_11 pz0_12 pz0_13 pz0_14 pz0_18 pz0_19 pz0_22 pz0_23 pz0_29)), (z 1, aI V 3075 fz1), (z 15, aI V 900 f_87), (z 16, aI V 6 f_88)] ∧ va_S A s.heap H locs ∧ lv_has ls 5 [(4, .int u_85), (3, .int u_77), (2, .int u_86), (1, .int 25), (0, .ref (z 0))]) (g := fun ls => F0 m 48 ls []) (fun n_89 H locs ls hX ihn_89 => ?_) _ ⟨0, u_78, f_79, f_80, (iv_c (0 : Int32) (by decide)), tf_80, inn_81_0, rfl, hP, hD, hS, lv_sub hl [0, 1, 2, 3, 4] rfl⟩
          obtain ⟨u_85, u_86, f_87, f_88, bu_85, tf_88, inn_89_0, en_89, hP, hD, hS, hl⟩ := hX
          refine lv_iload hx hb dX10_rests_48 (lv_at hl 0 rfl) ?_
          refine lv_iload_n hx hb dX10_rests_50 rfl (lv_at hl 3 rfl) ?_
          refine lv_icmp_ge (tgt := 99) hx hb dX10_rests_51 (by decide) (fun c_90 => ?_) (fun c_90 => ?_)
          · have b_91 : iv 25 2147483647 u_85 := iv_e2 c_90 (iv_c (25 : Int32) (a := 25) (b := 25) (by decide)) bu_85 (by decide)
            obtain ⟨x_92, ex_92⟩ : ∃ z9 : Int32, z9 = u_77 + 1 := ⟨_, rfl⟩
            have bx_92 : iv 1 4 x_92 := by rw [ex_92]; exact iv_add b_84 (iv_c (1 : Int32) (a := 1) (b := 1) (by decide)) (by decide)
            refine lv_iinc (v := x_92) (lv' := [(3, .int x_92), (4, .int u_85), (2, .int u_86), (1, .int 25), (0, .ref (z 0))]) hx hb dX10_rests_99 hl (k := 1) rfl (by rw [ex_92]; rfl) (by decide) rfl (fun ls hl => ?_)
            refine lv_goto (tgt := 33) hx hb dX10_rests_102 (by decide) ?_
            exact ihn_81 _ _ _ _ (by rw [en_81, ex_92]; exact mu_up b_84 (by decide)) ⟨x_92, u_86, f_87, f_88, (iv_w bx_92 (by decide)), tf_88, inn_89_0, rfl, hP, hD, hS, lv_sub hl [0, 2, 3, 4] rfl⟩
          · have b_93 : iv 0 24 u_85 := iv_l1 (Int32.not_le.mp c_90) bu_85 (iv_c (25 : Int32) (a := 25) (b := 25) (by decide)) (by decide)
            refine lv_iload_n hx hb dX10_rests_54 rfl (lv_at hl 2 rfl) ?_
            refine lv_aload_n hx hb dX10_rests_55 rfl (lv_at hl 4 rfl) ?_
            refine lv_sipush (v := 625) hx hb dX10_rests_56 (by decide) ?_
            refine lv_iload_n hx hb dX10_rests_59 rfl (lv_at hl 1 rfl) ?_
            refine lv_imul hx hb dX10_rests_60 ?_
            refine lv_topi (fun x_94 ex_94 => ?_)
            have bx_94 : iv 0 1875 x_94 := by rw [ex_94]; exact iv_cmul (iv_c (625 : Int32) (a := 625) (b := 625) (by decide)) b_84 (by decide)
            refine lv_iload hx hb dX10_rests_61 (lv_at hl 0 rfl) ?_
            refine lv_iadd hx hb dX10_rests_63 ?_
            refine lv_topi (fun x_95 ex_95 => ?_)
            have bx_95 : iv 0 1899 x_95 := by rw [ex_95]; exact iv_add bx_94 b_93 (by decide)
            refine lv_iconst (v := 0) hx hb dX10_rests_64 (by decide) ?_
            refine lv_aload_n hx hb dX10_rests_65 rfl (lv_at hl 4 rfl) ?_
            refine va_get (ci := 10) (v := .ref (z 1)) (C := RX10) (T := TX10) (N := 40) hx hb hg inX10 hown hK hP 0 rfl rfl 1 (by decide) (hg _ q_5_225) (fun _ h9 => h9) rfl dX10_rests_66 ?_
            refine lv_bipush (v := 51) hx hb dX10_rests_69 (by decide) ?_
            refine va_iald hx hb hK hP 1 0 rfl rfl (vin (by decide +kernel)) dX10_rests_71 ?_
            refine lv_topi (fun x_96 ex_96 => ?_)
            have bx_96 : iv 0 9 x_96 := by rw [ex_96]; exact rdT (a := 51) (n := 1) tfz1 (iv_c (51 : Int32) (a := 51) (b := 51) (by decide)) (by decide) (by decide +kernel)
            refine jnI (wr := []) (rnV (rest := [.int u_86]) ⟨hx, hb, hml, hown, hg⟩ (k_X10_nightTo_0 l V z x_95 0 x_96 f_87 f_88 0 pz0_5 pz0_6 pz0_7 pz0_8 pz0_9 pz0_10 pz0_11 pz0_12 pz0_13 pz0_14 pz0_18 pz0_19 pz0_22 pz0_23 pz0_29 fz1 (iv_w bx_95 (by decide)) tf_88 bpz0_5 bpz0_6 bpz0_7 bpz0_8 bpz0_10 bpz0_11 bpz0_12 bpz0_13 bpz0_14 bpz0_18 bpz0_22 bpz0_29 tfz1 inn_89_0) mt_X10_nightTo q_7_18 ⟨Nat.le_of_ble_eq_true rfl, Nat.le_of_ble_eq_true rfl⟩ hK hP hD hS hA hE [2, 3, 0, 1] rfl rfl 0 rfl rfl rfl rfl hl.1 rfl (Nat.le_of_ble_eq_true rfl) dX10_rests_72 ⟨Nat.le_of_ble_eq_true rfl, Nat.le_of_ble_eq_true rfl⟩) hP hD hS hA [2, 3, 0, 1] [] rfl rfl rfl (by decide) (fun r_97 w H locs hw hP hD hS => ?_)
            obtain ⟨f_98, f_99, tf_99, br_97, g_100, et_101, et_102, et_103, rfl⟩ := hw
            have hP : va_P V.1 vwCl [(z 15, aI V 900 f_98), (z 16, aI V 6 f_99), (z 0, .inr (10, mo z 0 pz0_5 pz0_6 pz0_7 pz0_8 pz0_9 pz0_10 pz0_11 pz0_12 pz0_13 pz0_14 pz0_18 pz0_19 pz0_22 pz0_23 pz0_29)), (z 1, aI V 3075 fz1)] H := hP
            have hD := cpD hP hD
            refine lv_sipush (v := 625) hx hb dX10_rests_75 (by decide) ?_
            refine lv_iload_n hx hb dX10_rests_78 rfl (lv_at hl 1 rfl) ?_
            refine lv_imul hx hb dX10_rests_79 ?_
            refine tpi (y := x_94) ex_94.symm ?_
            refine lv_iload hx hb dX10_rests_80 (lv_at hl 0 rfl) ?_
            refine lv_iadd hx hb dX10_rests_82 ?_
            refine tpi (y := x_95) ex_95.symm ?_
            refine lv_icmp_ne (tgt := 90) hx hb dX10_rests_83 (by decide) (fun c_104 => ?_) (fun c_104 => ?_)
            · refine lv_iconst (v := 0) hx hb dX10_rests_90 (by decide) ?_
              refine lv_iadd hx hb dX10_rests_91 ?_
              refine lv_topi (fun x_105 ex_105 => ?_)
              refine lv_istore_n (lv' := [(2, .int x_105), (4, .int u_85), (3, .int u_77), (1, .int 25), (0, .ref (z 0))]) hx hb dX10_rests_92 rfl hl (by decide) rfl (fun ls hl => ?_)
              obtain ⟨x_106, ex_106⟩ : ∃ z9 : Int32, z9 = u_85 + 1 := ⟨_, rfl⟩
              have bx_106 : iv 1 25 x_106 := by rw [ex_106]; exact iv_add b_93 (iv_c (1 : Int32) (a := 1) (b := 1) (by decide)) (by decide)
              refine lv_iinc (v := x_106) (lv' := [(4, .int x_106), (2, .int x_105), (3, .int u_77), (1, .int 25), (0, .ref (z 0))]) hx hb dX10_rests_93 hl (k := 1) rfl (by rw [ex_106]; rfl) (by decide) rfl (fun ls hl => ?_)
              refine lv_goto (tgt := 48) hx hb dX10_rests_96 (by decide) ?_
              have hP := subP (ws' := [(z 0, .inr (10, mo z 0 pz0_5 pz0_6 pz0_7 pz0_8 pz0_9 pz0_10 pz0_11 pz0_12 pz0_13 pz0_14 pz0_18 pz0_19 pz0_22 pz0_23 pz0_29)), (z 1, aI V 3075 fz1), (z 15, aI V 900 f_98), (z 16, aI V 6 f_99)]) hP [2, 3, 0, 1] rfl
              have hD := subD hP hD [2, 3, 0, 1] rfl rfl
              exact ihn_89 _ _ _ _ (by rw [en_89, ex_106]; exact mu_up b_93 (by decide)) ⟨x_106, x_105, f_98, f_99, (iv_w bx_106 (by decide)), tf_99, g_100, rfl, hP, hD, hS, lv_sub hl [0, 2, 1, 3, 4] rfl⟩
            · have b_107 : iv 0 1899 r_97 := iv_q c_104 bx_95
              refine lv_iconst (v := 1) hx hb dX10_rests_86 (by decide) ?_
              refine lv_goto (tgt := 91) hx hb dX10_rests_87 (by decide) ?_
              refine lv_iadd hx hb dX10_rests_91 ?_
              refine lv_topi (fun x_108 ex_108 => ?_)
              refine lv_istore_n (lv' := [(2, .int x_108), (4, .int u_85), (3, .int u_77), (1, .int 25), (0, .ref (z 0))]) hx hb dX10_rests_92 rfl hl (by decide) rfl (fun ls hl => ?_)
              obtain ⟨x_109, ex_109⟩ : ∃ z9 : Int32, z9 = u_85 + 1 := ⟨_, rfl⟩
              have bx_109 : iv 1 25 x_109 := by rw [ex_109]; exact iv_add b_93 (iv_c (1 : Int32) (a := 1) (b := 1) (by decide)) (by decide)
              refine lv_iinc (v := x_109) (lv' := [(4, .int x_109), (2, .int x_108), (3, .int u_77), (1, .int 25), (0, .ref (z 0))]) hx hb dX10_rests_93 hl (k := 1) rfl (by rw [ex_109]; rfl) (by decide) rfl (fun ls hl => ?_)
              refine lv_goto (tgt := 48) hx hb dX10_rests_96 (by decide) ?_
              have hP := subP (ws' := [(z 0, .inr (10, mo z 0 pz0_5 pz0_6 pz0_7 pz0_8 pz0_9 pz0_10 pz0_11 pz0_12 pz0_13 pz0_14 pz0_18 pz0_19 pz0_22 pz0_23 pz0_29)), (z 1, aI V 3075 fz1), (z 15, aI V 900 f_98), (z 16, aI V 6 f_99)]) hP [2, 3, 0, 1] rfl
              have hD := subD hP hD [2, 3, 0, 1] rfl rfl
              exact ihn_89 _ _ _ _ (by rw [en_89, ex_109]; exact mu_up b_93 (by decide)) ⟨x_109, x_108, f_98, f_99, (iv_w bx_109 (by decide)), tf_99, g_100, rfl, hP, hD, hS, lv_sub hl [0, 2, 1, 3, 4] rfl⟩
      · have b_110 : iv 3 4 x_1 := iv_l2 (Int32.not_le.mp c_75) (iv_c (2 : Int32) (a := 2) (b := 2) (by decide)) b_74 (by decide)
        refine lv_iload_n hx hb dX10_rests_19 rfl (lv_at hl 1 rfl) ?_
        refine lv_iconst (v := 5) hx hb dX10_rests_20 (by decide) ?_
        refine lv_imul hx hb dX10_rests_21 ?_
        refine tpi (y := 125) (by decide +kernel) ?_
        refine lv_istore_n (lv' := [(1, .int 125), (2, .int 2), (0, .ref (z 0))]) hx hb dX10_rests_22 rfl hl (by decide) rfl (fun ls hl => ?_)
        refine lv_iinc (v := 3) (lv' := [(2, .int 3), (1, .int 125), (0, .ref (z 0))]) hx hb dX10_rests_23 hl (k := 1) rfl (by decide +kernel) (by decide) rfl (fun ls hl => ?_)
        refine lv_goto (tgt := 9) hx hb dX10_rests_26 (by decide) ?_
        refine lv_iload_n hx hb dX10_rests_9 rfl (lv_at hl 0 rfl) ?_
        refine lv_aload_n hx hb dX10_rests_10 rfl (lv_at hl 2 rfl) ?_
        refine va_get (ci := 10) (v := .ref (z 1)) (C := RX10) (T := TX10) (N := 40) hx hb hg inX10 hown hK hP 0 rfl rfl 1 (by decide) (hg _ q_5_225) (fun _ h9 => h9) rfl dX10_rests_11 ?_
        refine lv_iconst (v := 1) hx hb dX10_rests_14 (by decide) ?_
        refine va_iald hx hb hK hP 1 0 rfl rfl (vin (by decide +kernel)) dX10_rests_15 ?_
        refine tpi (y := x_1) ex_1.symm ?_
        refine lv_icmp_ge (tgt := 29) hx hb dX10_rests_16 (by decide) (fun c_111 => ?_) (fun c_111 => ?_)
        · have b_112 : iv 3 3 x_1 := iv_e1 c_111 b_110 (iv_c (3 : Int32) (a := 3) (b := 3) (by decide)) (by decide)
          refine lv_iconst (v := 0) hx hb dX10_rests_29 (by decide) ?_
          refine lv_istore_n (lv' := [(2, .int 0), (1, .int 125), (0, .ref (z 0))]) hx hb dX10_rests_30 rfl hl (by decide) rfl (fun ls hl => ?_)
          refine lv_iconst (v := 0) hx hb dX10_rests_31 (by decide) ?_
          refine lv_istore_n (lv' := [(3, .int 0), (2, .int 0), (1, .int 125), (0, .ref (z 0))]) hx hb dX10_rests_32 rfl hl (by decide) rfl (fun ls hl => ?_)
          refine loopF (X := fun (n_117 : Nat) (H : Heap) (locs : List Loc) (ls : Array Slot) => ∃ (u_113 : Int32) (u_114 : Int32) (f_115 : Nat → Int32) (f_116 : Nat → Int32), (iv 0 2147483647 u_113) ∧ (ivT tW f_116) ∧ (RW fz1) ∧ n_117 = (2147483647 - (u_113 : Int32).toInt).toNat ∧ va_P V.1 vwCl [(z 0, .inr (10, mo z 0 pz0_5 pz0_6 pz0_7 pz0_8 pz0_9 pz0_10 pz0_11 pz0_12 pz0_13 pz0_14 pz0_18 pz0_19 pz0_22 pz0_23 pz0_29)), (z 1, aI V 3075 fz1), (z 15, aI V 900 f_115), (z 16, aI V 6 f_116)] H ∧ va_D A [(z 0, .inr (10, mo z 0 pz0_5 pz0_6 pz0_7 pz0_8 pz0_9 pz0_10 pz0_11 pz0_12 pz0_13 pz0_14 pz0_18 pz0_19 pz0_22 pz0_23 pz0_29)), (z 1, aI V 3075 fz1), (z 15, aI V 900 f_115), (z 16, aI V 6 f_116)] ∧ va_S A s.heap H locs ∧ lv_has ls 5 [(3, .int u_113), (2, .int u_114), (1, .int 125), (0, .ref (z 0))]) (g := fun ls => F0 m 33 ls []) (fun n_117 H locs ls hX ihn_117 => ?_) _ ⟨0, 0, fz15, fz16, (iv_c (0 : Int32) (by decide)), tfz16, hf0, rfl, hP, hD, hS, lv_sub hl [0, 1, 2, 3] rfl⟩
          obtain ⟨u_113, u_114, f_115, f_116, bu_113, tf_116, inn_117_0, en_117, hP, hD, hS, hl⟩ := hX
          refine lv_iload_n hx hb dX10_rests_33 rfl (lv_at hl 0 rfl) ?_
          refine lv_iconst (v := 1) hx hb dX10_rests_34 (by decide) ?_
          refine lv_aload_n hx hb dX10_rests_35 rfl (lv_at hl 3 rfl) ?_
          refine va_get (ci := 10) (v := .ref (z 1)) (C := RX10) (T := TX10) (N := 40) hx hb hg inX10 hown hK hP 0 rfl rfl 1 (by decide) (hg _ q_5_225) (fun _ h9 => h9) rfl dX10_rests_36 ?_
          refine lv_iconst (v := 1) hx hb dX10_rests_39 (by decide) ?_
          refine va_iald hx hb hK hP 1 0 rfl rfl (vin (by decide +kernel)) dX10_rests_40 ?_
          refine tpi (y := x_1) ex_1.symm ?_
          refine tpi (y := 3) (iv_eqp b_112 (iv_c (3 : Int32) (by decide))) ?_
          refine lv_ishl hx hb dX10_rests_41 ?_
          refine tpi (y := 8) (by decide +kernel) ?_
          refine lv_icmp_ge (tgt := 105) hx hb dX10_rests_42 (by decide) (fun c_118 => ?_) (fun c_118 => ?_)
          · have b_119 : iv 8 2147483647 u_113 := iv_e2 c_118 (iv_c (8 : Int32) (a := 8) (b := 8) (by decide)) bu_113 (by decide)
            refine lv_iload_n hx hb dX10_rests_105 rfl (lv_at hl 1 rfl) ?_
            exact fiI hx hb hr hlk hK hP hD hS dX10_rests_106 (Nat.le_of_ble_eq_true rfl) (Nat.le_of_ble_eq_true rfl) (⟨0, f_115, f_116, tf_116, inn_117_0, rfl⟩)
          · have b_120 : iv 0 7 u_113 := iv_l1 (Int32.not_le.mp c_118) bu_113 (iv_c (8 : Int32) (a := 8) (b := 8) (by decide)) (by decide)
            refine lv_iconst (v := 0) hx hb dX10_rests_45 (by decide) ?_
            refine lv_istore (lv' := [(4, .int 0), (3, .int u_113), (2, .int u_114), (1, .int 125), (0, .ref (z 0))]) hx hb dX10_rests_46 hl (by decide) rfl (fun ls hl => ?_)
            refine loopF (X := fun (n_125 : Nat) (H : Heap) (locs : List Loc) (ls : Array Slot) => ∃ (u_121 : Int32) (u_122 : Int32) (f_123 : Nat → Int32) (f_124 : Nat → Int32), (iv 0 2147483647 u_121) ∧ (ivT tW f_124) ∧ (RW fz1) ∧ n_125 = (2147483647 - (u_121 : Int32).toInt).toNat ∧ va_P V.1 vwCl [(z 0, .inr (10, mo z 0 pz0_5 pz0_6 pz0_7 pz0_8 pz0_9 pz0_10 pz0_11 pz0_12 pz0_13 pz0_14 pz0_18 pz0_19 pz0_22 pz0_23 pz0_29)), (z 1, aI V 3075 fz1), (z 15, aI V 900 f_123), (z 16, aI V 6 f_124)] H ∧ va_D A [(z 0, .inr (10, mo z 0 pz0_5 pz0_6 pz0_7 pz0_8 pz0_9 pz0_10 pz0_11 pz0_12 pz0_13 pz0_14 pz0_18 pz0_19 pz0_22 pz0_23 pz0_29)), (z 1, aI V 3075 fz1), (z 15, aI V 900 f_123), (z 16, aI V 6 f_124)] ∧ va_S A s.heap H locs ∧ lv_has ls 5 [(4, .int u_121), (3, .int u_113), (2, .int u_122), (1, .int 125), (0, .ref (z 0))]) (g := fun ls => F0 m 48 ls []) (fun n_125 H locs ls hX ihn_125 => ?_) _ ⟨0, u_114, f_115, f_116, (iv_c (0 : Int32) (by decide)), tf_116, inn_117_0, rfl, hP, hD, hS, lv_sub hl [0, 1, 2, 3, 4] rfl⟩
            obtain ⟨u_121, u_122, f_123, f_124, bu_121, tf_124, inn_125_0, en_125, hP, hD, hS, hl⟩ := hX
            refine lv_iload hx hb dX10_rests_48 (lv_at hl 0 rfl) ?_
            refine lv_iload_n hx hb dX10_rests_50 rfl (lv_at hl 3 rfl) ?_
            refine lv_icmp_ge (tgt := 99) hx hb dX10_rests_51 (by decide) (fun c_126 => ?_) (fun c_126 => ?_)
            · have b_127 : iv 125 2147483647 u_121 := iv_e2 c_126 (iv_c (125 : Int32) (a := 125) (b := 125) (by decide)) bu_121 (by decide)
              obtain ⟨x_128, ex_128⟩ : ∃ z9 : Int32, z9 = u_113 + 1 := ⟨_, rfl⟩
              have bx_128 : iv 1 8 x_128 := by rw [ex_128]; exact iv_add b_120 (iv_c (1 : Int32) (a := 1) (b := 1) (by decide)) (by decide)
              refine lv_iinc (v := x_128) (lv' := [(3, .int x_128), (4, .int u_121), (2, .int u_122), (1, .int 125), (0, .ref (z 0))]) hx hb dX10_rests_99 hl (k := 1) rfl (by rw [ex_128]; rfl) (by decide) rfl (fun ls hl => ?_)
              refine lv_goto (tgt := 33) hx hb dX10_rests_102 (by decide) ?_
              exact ihn_117 _ _ _ _ (by rw [en_117, ex_128]; exact mu_up b_120 (by decide)) ⟨x_128, u_122, f_123, f_124, (iv_w bx_128 (by decide)), tf_124, inn_125_0, rfl, hP, hD, hS, lv_sub hl [0, 2, 3, 4] rfl⟩
            · have b_129 : iv 0 124 u_121 := iv_l1 (Int32.not_le.mp c_126) bu_121 (iv_c (125 : Int32) (a := 125) (b := 125) (by decide)) (by decide)
              refine lv_iload_n hx hb dX10_rests_54 rfl (lv_at hl 2 rfl) ?_
              refine lv_aload_n hx hb dX10_rests_55 rfl (lv_at hl 4 rfl) ?_
              refine lv_sipush (v := 625) hx hb dX10_rests_56 (by decide) ?_
              refine lv_iload_n hx hb dX10_rests_59 rfl (lv_at hl 1 rfl) ?_
              refine lv_imul hx hb dX10_rests_60 ?_
              refine lv_topi (fun x_130 ex_130 => ?_)
              have bx_130 : iv 0 4375 x_130 := by rw [ex_130]; exact iv_cmul (iv_c (625 : Int32) (a := 625) (b := 625) (by decide)) b_120 (by decide)
              refine lv_iload hx hb dX10_rests_61 (lv_at hl 0 rfl) ?_
              refine lv_iadd hx hb dX10_rests_63 ?_
              refine lv_topi (fun x_131 ex_131 => ?_)
              have bx_131 : iv 0 4499 x_131 := by rw [ex_131]; exact iv_add bx_130 b_129 (by decide)
              refine lv_iconst (v := 0) hx hb dX10_rests_64 (by decide) ?_
              refine lv_aload_n hx hb dX10_rests_65 rfl (lv_at hl 4 rfl) ?_
              refine va_get (ci := 10) (v := .ref (z 1)) (C := RX10) (T := TX10) (N := 40) hx hb hg inX10 hown hK hP 0 rfl rfl 1 (by decide) (hg _ q_5_225) (fun _ h9 => h9) rfl dX10_rests_66 ?_
              refine lv_bipush (v := 51) hx hb dX10_rests_69 (by decide) ?_
              refine va_iald hx hb hK hP 1 0 rfl rfl (vin (by decide +kernel)) dX10_rests_71 ?_
              refine lv_topi (fun x_132 ex_132 => ?_)
              have bx_132 : iv 0 9 x_132 := by rw [ex_132]; exact rdT (a := 51) (n := 1) tfz1 (iv_c (51 : Int32) (a := 51) (b := 51) (by decide)) (by decide) (by decide +kernel)
              refine jnI (wr := []) (rnV (rest := [.int u_122]) ⟨hx, hb, hml, hown, hg⟩ (k_X10_nightTo_0 l V z x_131 0 x_132 f_123 f_124 0 pz0_5 pz0_6 pz0_7 pz0_8 pz0_9 pz0_10 pz0_11 pz0_12 pz0_13 pz0_14 pz0_18 pz0_19 pz0_22 pz0_23 pz0_29 fz1 (iv_w bx_131 (by decide)) tf_124 bpz0_5 bpz0_6 bpz0_7 bpz0_8 bpz0_10 bpz0_11 bpz0_12 bpz0_13 bpz0_14 bpz0_18 bpz0_22 bpz0_29 tfz1 inn_125_0) mt_X10_nightTo q_7_18 ⟨Nat.le_of_ble_eq_true rfl, Nat.le_of_ble_eq_true rfl⟩ hK hP hD hS hA hE [2, 3, 0, 1] rfl rfl 0 rfl rfl rfl rfl hl.1 rfl (Nat.le_of_ble_eq_true rfl) dX10_rests_72 ⟨Nat.le_of_ble_eq_true rfl, Nat.le_of_ble_eq_true rfl⟩) hP hD hS hA [2, 3, 0, 1] [] rfl rfl rfl (by decide) (fun r_133 w H locs hw hP hD hS => ?_)
              obtain ⟨f_134, f_135, tf_135, br_133, g_136, et_137, et_138, et_139, rfl⟩ := hw
              have hP : va_P V.1 vwCl [(z 15, aI V 900 f_134), (z 16, aI V 6 f_135), (z 0, .inr (10, mo z 0 pz0_5 pz0_6 pz0_7 pz0_8 pz0_9 pz0_10 pz0_11 pz0_12 pz0_13 pz0_14 pz0_18 pz0_19 pz0_22 pz0_23 pz0_29)), (z 1, aI V 3075 fz1)] H := hP
              have hD := cpD hP hD
              refine lv_sipush (v := 625) hx hb dX10_rests_75 (by decide) ?_
              refine lv_iload_n hx hb dX10_rests_78 rfl (lv_at hl 1 rfl) ?_
              refine lv_imul hx hb dX10_rests_79 ?_
              refine tpi (y := x_130) ex_130.symm ?_
              refine lv_iload hx hb dX10_rests_80 (lv_at hl 0 rfl) ?_
              refine lv_iadd hx hb dX10_rests_82 ?_
              refine tpi (y := x_131) ex_131.symm ?_
              refine lv_icmp_ne (tgt := 90) hx hb dX10_rests_83 (by decide) (fun c_140 => ?_) (fun c_140 => ?_)
              · refine lv_iconst (v := 0) hx hb dX10_rests_90 (by decide) ?_
                refine lv_iadd hx hb dX10_rests_91 ?_
                refine lv_topi (fun x_141 ex_141 => ?_)
                refine lv_istore_n (lv' := [(2, .int x_141), (4, .int u_121), (3, .int u_113), (1, .int 125), (0, .ref (z 0))]) hx hb dX10_rests_92 rfl hl (by decide) rfl (fun ls hl => ?_)
                obtain ⟨x_142, ex_142⟩ : ∃ z9 : Int32, z9 = u_121 + 1 := ⟨_, rfl⟩
                have bx_142 : iv 1 125 x_142 := by rw [ex_142]; exact iv_add b_129 (iv_c (1 : Int32) (a := 1) (b := 1) (by decide)) (by decide)
                refine lv_iinc (v := x_142) (lv' := [(4, .int x_142), (2, .int x_141), (3, .int u_113), (1, .int 125), (0, .ref (z 0))]) hx hb dX10_rests_93 hl (k := 1) rfl (by rw [ex_142]; rfl) (by decide) rfl (fun ls hl => ?_)
                refine lv_goto (tgt := 48) hx hb dX10_rests_96 (by decide) ?_
                have hP := subP (ws' := [(z 0, .inr (10, mo z 0 pz0_5 pz0_6 pz0_7 pz0_8 pz0_9 pz0_10 pz0_11 pz0_12 pz0_13 pz0_14 pz0_18 pz0_19 pz0_22 pz0_23 pz0_29)), (z 1, aI V 3075 fz1), (z 15, aI V 900 f_134), (z 16, aI V 6 f_135)]) hP [2, 3, 0, 1] rfl
                have hD := subD hP hD [2, 3, 0, 1] rfl rfl
                exact ihn_125 _ _ _ _ (by rw [en_125, ex_142]; exact mu_up b_129 (by decide)) ⟨x_142, x_141, f_134, f_135, (iv_w bx_142 (by decide)), tf_135, g_136, rfl, hP, hD, hS, lv_sub hl [0, 2, 1, 3, 4] rfl⟩
              · have b_143 : iv 0 4499 r_133 := iv_q c_140 bx_131
                refine lv_iconst (v := 1) hx hb dX10_rests_86 (by decide) ?_
                refine lv_goto (tgt := 91) hx hb dX10_rests_87 (by decide) ?_
                refine lv_iadd hx hb dX10_rests_91 ?_
                refine lv_topi (fun x_144 ex_144 => ?_)
                refine lv_istore_n (lv' := [(2, .int x_144), (4, .int u_121), (3, .int u_113), (1, .int 125), (0, .ref (z 0))]) hx hb dX10_rests_92 rfl hl (by decide) rfl (fun ls hl => ?_)
                obtain ⟨x_145, ex_145⟩ : ∃ z9 : Int32, z9 = u_121 + 1 := ⟨_, rfl⟩
                have bx_145 : iv 1 125 x_145 := by rw [ex_145]; exact iv_add b_129 (iv_c (1 : Int32) (a := 1) (b := 1) (by decide)) (by decide)
                refine lv_iinc (v := x_145) (lv' := [(4, .int x_145), (2, .int x_144), (3, .int u_113), (1, .int 125), (0, .ref (z 0))]) hx hb dX10_rests_93 hl (k := 1) rfl (by rw [ex_145]; rfl) (by decide) rfl (fun ls hl => ?_)
                refine lv_goto (tgt := 48) hx hb dX10_rests_96 (by decide) ?_
                have hP := subP (ws' := [(z 0, .inr (10, mo z 0 pz0_5 pz0_6 pz0_7 pz0_8 pz0_9 pz0_10 pz0_11 pz0_12 pz0_13 pz0_14 pz0_18 pz0_19 pz0_22 pz0_23 pz0_29)), (z 1, aI V 3075 fz1), (z 15, aI V 900 f_134), (z 16, aI V 6 f_135)]) hP [2, 3, 0, 1] rfl
                have hD := subD hP hD [2, 3, 0, 1] rfl rfl
                exact ihn_125 _ _ _ _ (by rw [en_125, ex_145]; exact mu_up b_129 (by decide)) ⟨x_145, x_144, f_134, f_135, (iv_w bx_145 (by decide)), tf_135, g_136, rfl, hP, hD, hS, lv_sub hl [0, 2, 1, 3, 4] rfl⟩
        · have b_146 : iv 4 4 x_1 := iv_l2 (Int32.not_le.mp c_111) (iv_c (3 : Int32) (a := 3) (b := 3) (by decide)) b_110 (by decide)
          refine lv_iload_n hx hb dX10_rests_19 rfl (lv_at hl 1 rfl) ?_
          refine lv_iconst (v := 5) hx hb dX10_rests_20 (by decide) ?_
          refine lv_imul hx hb dX10_rests_21 ?_
          refine tpi (y := 625) (by decide +kernel) ?_
          refine lv_istore_n (lv' := [(1, .int 625), (2, .int 3), (0, .ref (z 0))]) hx hb dX10_rests_22 rfl hl (by decide) rfl (fun ls hl => ?_)
          refine lv_iinc (v := 4) (lv' := [(2, .int 4), (1, .int 625), (0, .ref (z 0))]) hx hb dX10_rests_23 hl (k := 1) rfl (by decide +kernel) (by decide) rfl (fun ls hl => ?_)
          refine lv_goto (tgt := 9) hx hb dX10_rests_26 (by decide) ?_
          refine lv_iload_n hx hb dX10_rests_9 rfl (lv_at hl 0 rfl) ?_
          refine lv_aload_n hx hb dX10_rests_10 rfl (lv_at hl 2 rfl) ?_
          refine va_get (ci := 10) (v := .ref (z 1)) (C := RX10) (T := TX10) (N := 40) hx hb hg inX10 hown hK hP 0 rfl rfl 1 (by decide) (hg _ q_5_225) (fun _ h9 => h9) rfl dX10_rests_11 ?_
          refine lv_iconst (v := 1) hx hb dX10_rests_14 (by decide) ?_
          refine va_iald hx hb hK hP 1 0 rfl rfl (vin (by decide +kernel)) dX10_rests_15 ?_
          refine tpi (y := x_1) ex_1.symm ?_
          refine lv_icmp_ge (tgt := 29) hx hb dX10_rests_16 (by decide) (fun _ => ?_) (fun c_147 => absurd (iv_le b_146 (iv_c (4 : Int32) (a := 4) (b := 4) (by decide)) (by decide)) c_147)
          refine lv_iconst (v := 0) hx hb dX10_rests_29 (by decide) ?_
          refine lv_istore_n (lv' := [(2, .int 0), (1, .int 625), (0, .ref (z 0))]) hx hb dX10_rests_30 rfl hl (by decide) rfl (fun ls hl => ?_)
          refine lv_iconst (v := 0) hx hb dX10_rests_31 (by decide) ?_
          refine lv_istore_n (lv' := [(3, .int 0), (2, .int 0), (1, .int 625), (0, .ref (z 0))]) hx hb dX10_rests_32 rfl hl (by decide) rfl (fun ls hl => ?_)
          refine loopF (X := fun (n_152 : Nat) (H : Heap) (locs : List Loc) (ls : Array Slot) => ∃ (u_148 : Int32) (u_149 : Int32) (f_150 : Nat → Int32) (f_151 : Nat → Int32), (iv 0 2147483647 u_148) ∧ (ivT tW f_151) ∧ (RW fz1) ∧ n_152 = (2147483647 - (u_148 : Int32).toInt).toNat ∧ va_P V.1 vwCl [(z 0, .inr (10, mo z 0 pz0_5 pz0_6 pz0_7 pz0_8 pz0_9 pz0_10 pz0_11 pz0_12 pz0_13 pz0_14 pz0_18 pz0_19 pz0_22 pz0_23 pz0_29)), (z 1, aI V 3075 fz1), (z 15, aI V 900 f_150), (z 16, aI V 6 f_151)] H ∧ va_D A [(z 0, .inr (10, mo z 0 pz0_5 pz0_6 pz0_7 pz0_8 pz0_9 pz0_10 pz0_11 pz0_12 pz0_13 pz0_14 pz0_18 pz0_19 pz0_22 pz0_23 pz0_29)), (z 1, aI V 3075 fz1), (z 15, aI V 900 f_150), (z 16, aI V 6 f_151)] ∧ va_S A s.heap H locs ∧ lv_has ls 5 [(3, .int u_148), (2, .int u_149), (1, .int 625), (0, .ref (z 0))]) (g := fun ls => F0 m 33 ls []) (fun n_152 H locs ls hX ihn_152 => ?_) _ ⟨0, 0, fz15, fz16, (iv_c (0 : Int32) (by decide)), tfz16, hf0, rfl, hP, hD, hS, lv_sub hl [0, 1, 2, 3] rfl⟩
          obtain ⟨u_148, u_149, f_150, f_151, bu_148, tf_151, inn_152_0, en_152, hP, hD, hS, hl⟩ := hX
          refine lv_iload_n hx hb dX10_rests_33 rfl (lv_at hl 0 rfl) ?_
          refine lv_iconst (v := 1) hx hb dX10_rests_34 (by decide) ?_
          refine lv_aload_n hx hb dX10_rests_35 rfl (lv_at hl 3 rfl) ?_
          refine va_get (ci := 10) (v := .ref (z 1)) (C := RX10) (T := TX10) (N := 40) hx hb hg inX10 hown hK hP 0 rfl rfl 1 (by decide) (hg _ q_5_225) (fun _ h9 => h9) rfl dX10_rests_36 ?_
          refine lv_iconst (v := 1) hx hb dX10_rests_39 (by decide) ?_
          refine va_iald hx hb hK hP 1 0 rfl rfl (vin (by decide +kernel)) dX10_rests_40 ?_
          refine tpi (y := x_1) ex_1.symm ?_
          refine tpi (y := 4) (iv_eqp b_146 (iv_c (4 : Int32) (by decide))) ?_
          refine lv_ishl hx hb dX10_rests_41 ?_
          refine tpi (y := 16) (by decide +kernel) ?_
          refine lv_icmp_ge (tgt := 105) hx hb dX10_rests_42 (by decide) (fun c_153 => ?_) (fun c_153 => ?_)
          · have b_154 : iv 16 2147483647 u_148 := iv_e2 c_153 (iv_c (16 : Int32) (a := 16) (b := 16) (by decide)) bu_148 (by decide)
            refine lv_iload_n hx hb dX10_rests_105 rfl (lv_at hl 1 rfl) ?_
            exact fiI hx hb hr hlk hK hP hD hS dX10_rests_106 (Nat.le_of_ble_eq_true rfl) (Nat.le_of_ble_eq_true rfl) (⟨0, f_150, f_151, tf_151, inn_152_0, rfl⟩)
          · have b_155 : iv 0 15 u_148 := iv_l1 (Int32.not_le.mp c_153) bu_148 (iv_c (16 : Int32) (a := 16) (b := 16) (by decide)) (by decide)
            refine lv_iconst (v := 0) hx hb dX10_rests_45 (by decide) ?_
            refine lv_istore (lv' := [(4, .int 0), (3, .int u_148), (2, .int u_149), (1, .int 625), (0, .ref (z 0))]) hx hb dX10_rests_46 hl (by decide) rfl (fun ls hl => ?_)
            refine loopF (X := fun (n_160 : Nat) (H : Heap) (locs : List Loc) (ls : Array Slot) => ∃ (u_156 : Int32) (u_157 : Int32) (f_158 : Nat → Int32) (f_159 : Nat → Int32), (iv 0 2147483647 u_156) ∧ (ivT tW f_159) ∧ (RW fz1) ∧ n_160 = (2147483647 - (u_156 : Int32).toInt).toNat ∧ va_P V.1 vwCl [(z 0, .inr (10, mo z 0 pz0_5 pz0_6 pz0_7 pz0_8 pz0_9 pz0_10 pz0_11 pz0_12 pz0_13 pz0_14 pz0_18 pz0_19 pz0_22 pz0_23 pz0_29)), (z 1, aI V 3075 fz1), (z 15, aI V 900 f_158), (z 16, aI V 6 f_159)] H ∧ va_D A [(z 0, .inr (10, mo z 0 pz0_5 pz0_6 pz0_7 pz0_8 pz0_9 pz0_10 pz0_11 pz0_12 pz0_13 pz0_14 pz0_18 pz0_19 pz0_22 pz0_23 pz0_29)), (z 1, aI V 3075 fz1), (z 15, aI V 900 f_158), (z 16, aI V 6 f_159)] ∧ va_S A s.heap H locs ∧ lv_has ls 5 [(4, .int u_156), (3, .int u_148), (2, .int u_157), (1, .int 625), (0, .ref (z 0))]) (g := fun ls => F0 m 48 ls []) (fun n_160 H locs ls hX ihn_160 => ?_) _ ⟨0, u_149, f_150, f_151, (iv_c (0 : Int32) (by decide)), tf_151, inn_152_0, rfl, hP, hD, hS, lv_sub hl [0, 1, 2, 3, 4] rfl⟩
            obtain ⟨u_156, u_157, f_158, f_159, bu_156, tf_159, inn_160_0, en_160, hP, hD, hS, hl⟩ := hX
            refine lv_iload hx hb dX10_rests_48 (lv_at hl 0 rfl) ?_
            refine lv_iload_n hx hb dX10_rests_50 rfl (lv_at hl 3 rfl) ?_
            refine lv_icmp_ge (tgt := 99) hx hb dX10_rests_51 (by decide) (fun c_161 => ?_) (fun c_161 => ?_)
            · have b_162 : iv 625 2147483647 u_156 := iv_e2 c_161 (iv_c (625 : Int32) (a := 625) (b := 625) (by decide)) bu_156 (by decide)
              obtain ⟨x_163, ex_163⟩ : ∃ z9 : Int32, z9 = u_148 + 1 := ⟨_, rfl⟩
              have bx_163 : iv 1 16 x_163 := by rw [ex_163]; exact iv_add b_155 (iv_c (1 : Int32) (a := 1) (b := 1) (by decide)) (by decide)
              refine lv_iinc (v := x_163) (lv' := [(3, .int x_163), (4, .int u_156), (2, .int u_157), (1, .int 625), (0, .ref (z 0))]) hx hb dX10_rests_99 hl (k := 1) rfl (by rw [ex_163]; rfl) (by decide) rfl (fun ls hl => ?_)
              refine lv_goto (tgt := 33) hx hb dX10_rests_102 (by decide) ?_
              exact ihn_152 _ _ _ _ (by rw [en_152, ex_163]; exact mu_up b_155 (by decide)) ⟨x_163, u_157, f_158, f_159, (iv_w bx_163 (by decide)), tf_159, inn_160_0, rfl, hP, hD, hS, lv_sub hl [0, 2, 3, 4] rfl⟩
            · have b_164 : iv 0 624 u_156 := iv_l1 (Int32.not_le.mp c_161) bu_156 (iv_c (625 : Int32) (a := 625) (b := 625) (by decide)) (by decide)
              refine lv_iload_n hx hb dX10_rests_54 rfl (lv_at hl 2 rfl) ?_
              refine lv_aload_n hx hb dX10_rests_55 rfl (lv_at hl 4 rfl) ?_
              refine lv_sipush (v := 625) hx hb dX10_rests_56 (by decide) ?_
              refine lv_iload_n hx hb dX10_rests_59 rfl (lv_at hl 1 rfl) ?_
              refine lv_imul hx hb dX10_rests_60 ?_
              refine lv_topi (fun x_165 ex_165 => ?_)
              have bx_165 : iv 0 9375 x_165 := by rw [ex_165]; exact iv_cmul (iv_c (625 : Int32) (a := 625) (b := 625) (by decide)) b_155 (by decide)
              refine lv_iload hx hb dX10_rests_61 (lv_at hl 0 rfl) ?_
              refine lv_iadd hx hb dX10_rests_63 ?_
              refine lv_topi (fun x_166 ex_166 => ?_)
              have bx_166 : iv 0 9999 x_166 := by rw [ex_166]; exact iv_add bx_165 b_164 (by decide)
              refine lv_iconst (v := 0) hx hb dX10_rests_64 (by decide) ?_
              refine lv_aload_n hx hb dX10_rests_65 rfl (lv_at hl 4 rfl) ?_
              refine va_get (ci := 10) (v := .ref (z 1)) (C := RX10) (T := TX10) (N := 40) hx hb hg inX10 hown hK hP 0 rfl rfl 1 (by decide) (hg _ q_5_225) (fun _ h9 => h9) rfl dX10_rests_66 ?_
              refine lv_bipush (v := 51) hx hb dX10_rests_69 (by decide) ?_
              refine va_iald hx hb hK hP 1 0 rfl rfl (vin (by decide +kernel)) dX10_rests_71 ?_
              refine lv_topi (fun x_167 ex_167 => ?_)
              have bx_167 : iv 0 9 x_167 := by rw [ex_167]; exact rdT (a := 51) (n := 1) tfz1 (iv_c (51 : Int32) (a := 51) (b := 51) (by decide)) (by decide) (by decide +kernel)
              refine jnI (wr := []) (rnV (rest := [.int u_157]) ⟨hx, hb, hml, hown, hg⟩ (k_X10_nightTo_0 l V z x_166 0 x_167 f_158 f_159 0 pz0_5 pz0_6 pz0_7 pz0_8 pz0_9 pz0_10 pz0_11 pz0_12 pz0_13 pz0_14 pz0_18 pz0_19 pz0_22 pz0_23 pz0_29 fz1 bx_166 tf_159 bpz0_5 bpz0_6 bpz0_7 bpz0_8 bpz0_10 bpz0_11 bpz0_12 bpz0_13 bpz0_14 bpz0_18 bpz0_22 bpz0_29 tfz1 inn_160_0) mt_X10_nightTo q_7_18 ⟨Nat.le_of_ble_eq_true rfl, Nat.le_of_ble_eq_true rfl⟩ hK hP hD hS hA hE [2, 3, 0, 1] rfl rfl 0 rfl rfl rfl rfl hl.1 rfl (Nat.le_of_ble_eq_true rfl) dX10_rests_72 ⟨Nat.le_of_ble_eq_true rfl, Nat.le_of_ble_eq_true rfl⟩) hP hD hS hA [2, 3, 0, 1] [] rfl rfl rfl (by decide) (fun r_168 w H locs hw hP hD hS => ?_)
              obtain ⟨f_169, f_170, tf_170, br_168, g_171, et_172, et_173, et_174, rfl⟩ := hw
              have hP : va_P V.1 vwCl [(z 15, aI V 900 f_169), (z 16, aI V 6 f_170), (z 0, .inr (10, mo z 0 pz0_5 pz0_6 pz0_7 pz0_8 pz0_9 pz0_10 pz0_11 pz0_12 pz0_13 pz0_14 pz0_18 pz0_19 pz0_22 pz0_23 pz0_29)), (z 1, aI V 3075 fz1)] H := hP
              have hD := cpD hP hD
              refine lv_sipush (v := 625) hx hb dX10_rests_75 (by decide) ?_
              refine lv_iload_n hx hb dX10_rests_78 rfl (lv_at hl 1 rfl) ?_
              refine lv_imul hx hb dX10_rests_79 ?_
              refine tpi (y := x_165) ex_165.symm ?_
              refine lv_iload hx hb dX10_rests_80 (lv_at hl 0 rfl) ?_
              refine lv_iadd hx hb dX10_rests_82 ?_
              refine tpi (y := x_166) ex_166.symm ?_
              refine lv_icmp_ne (tgt := 90) hx hb dX10_rests_83 (by decide) (fun c_175 => ?_) (fun c_175 => ?_)
              · refine lv_iconst (v := 0) hx hb dX10_rests_90 (by decide) ?_
                refine lv_iadd hx hb dX10_rests_91 ?_
                refine lv_topi (fun x_176 ex_176 => ?_)
                refine lv_istore_n (lv' := [(2, .int x_176), (4, .int u_156), (3, .int u_148), (1, .int 625), (0, .ref (z 0))]) hx hb dX10_rests_92 rfl hl (by decide) rfl (fun ls hl => ?_)
                obtain ⟨x_177, ex_177⟩ : ∃ z9 : Int32, z9 = u_156 + 1 := ⟨_, rfl⟩
                have bx_177 : iv 1 625 x_177 := by rw [ex_177]; exact iv_add b_164 (iv_c (1 : Int32) (a := 1) (b := 1) (by decide)) (by decide)
                refine lv_iinc (v := x_177) (lv' := [(4, .int x_177), (2, .int x_176), (3, .int u_148), (1, .int 625), (0, .ref (z 0))]) hx hb dX10_rests_93 hl (k := 1) rfl (by rw [ex_177]; rfl) (by decide) rfl (fun ls hl => ?_)
                refine lv_goto (tgt := 48) hx hb dX10_rests_96 (by decide) ?_
                have hP := subP (ws' := [(z 0, .inr (10, mo z 0 pz0_5 pz0_6 pz0_7 pz0_8 pz0_9 pz0_10 pz0_11 pz0_12 pz0_13 pz0_14 pz0_18 pz0_19 pz0_22 pz0_23 pz0_29)), (z 1, aI V 3075 fz1), (z 15, aI V 900 f_169), (z 16, aI V 6 f_170)]) hP [2, 3, 0, 1] rfl
                have hD := subD hP hD [2, 3, 0, 1] rfl rfl
                exact ihn_160 _ _ _ _ (by rw [en_160, ex_177]; exact mu_up b_164 (by decide)) ⟨x_177, x_176, f_169, f_170, (iv_w bx_177 (by decide)), tf_170, g_171, rfl, hP, hD, hS, lv_sub hl [0, 2, 1, 3, 4] rfl⟩
              · have b_178 : iv 0 9843 x_166 := iv_q c_175.symm br_168
                refine lv_iconst (v := 1) hx hb dX10_rests_86 (by decide) ?_
                refine lv_goto (tgt := 91) hx hb dX10_rests_87 (by decide) ?_
                refine lv_iadd hx hb dX10_rests_91 ?_
                refine lv_topi (fun x_179 ex_179 => ?_)
                refine lv_istore_n (lv' := [(2, .int x_179), (4, .int u_156), (3, .int u_148), (1, .int 625), (0, .ref (z 0))]) hx hb dX10_rests_92 rfl hl (by decide) rfl (fun ls hl => ?_)
                obtain ⟨x_180, ex_180⟩ : ∃ z9 : Int32, z9 = u_156 + 1 := ⟨_, rfl⟩
                have bx_180 : iv 1 625 x_180 := by rw [ex_180]; exact iv_add b_164 (iv_c (1 : Int32) (a := 1) (b := 1) (by decide)) (by decide)
                refine lv_iinc (v := x_180) (lv' := [(4, .int x_180), (2, .int x_179), (3, .int u_148), (1, .int 625), (0, .ref (z 0))]) hx hb dX10_rests_93 hl (k := 1) rfl (by rw [ex_180]; rfl) (by decide) rfl (fun ls hl => ?_)
                refine lv_goto (tgt := 48) hx hb dX10_rests_96 (by decide) ?_
                have hP := subP (ws' := [(z 0, .inr (10, mo z 0 pz0_5 pz0_6 pz0_7 pz0_8 pz0_9 pz0_10 pz0_11 pz0_12 pz0_13 pz0_14 pz0_18 pz0_19 pz0_22 pz0_23 pz0_29)), (z 1, aI V 3075 fz1), (z 15, aI V 900 f_169), (z 16, aI V 6 f_170)]) hP [2, 3, 0, 1] rfl
                have hD := subD hP hD [2, 3, 0, 1] rfl rfl
                exact ihn_160 _ _ _ _ (by rw [en_160, ex_180]; exact mu_up b_164 (by decide)) ⟨x_180, x_179, f_169, f_170, (iv_w bx_180 (by decide)), tf_170, g_171, rfl, hP, hD, hS, lv_sub hl [0, 2, 1, 3, 4] rfl⟩
theorem dX10_isHigh_0 : decode cX10_isHigh 0 = .ok (.iload_n 0, 1) := by decide +kernel
theorem dX10_isHigh_1 : decode cX10_isHigh 1 = .ok (.i2l, 1) := by decide +kernel
theorem dX10_isHigh_2 : decode cX10_isHigh 2 = .ok (.lconst 0, 1) := by decide +kernel
theorem q_7_189 : Cond.constantLong "BeaconDelayModel" 368 (4 : Int64) ∈ gw := gw_7 (i := 189) (by decide +kernel) rfl
theorem dX10_isHigh_3 : decode cX10_isHigh 3 = .ok (.ldc2_w 368, 3) := by decide +kernel
theorem dX10_isHigh_6 : decode cX10_isHigh 6 = .ok (.invokestatic 159, 3) := by decide +kernel
theorem dX10_isHigh_9 : decode cX10_isHigh 9 = .ok (.ireturn, 1) := by decide +kernel
set_option maxHeartbeats 4000000 in
set_option maxRecDepth 100000 in
theorem k_X10_isHigh_0 (l : Launch) (V : GV) (a0 : Int32) : Ct l V yX10_isHigh (.code yX10_isHigh cX10_isHigh 1 (some .boolean)) 2 [.int a0] [] 0 0 (QI V (fun (r : Int32) (w : va_W) => iv 0 1 r ∧ (r = 1 → iv 0 4 a0) ∧ w = [])) := by
  refine Ct.of (by decide) (Nat.le_of_ble_eq_true rfl) (fun p e s m below meth c A ls hx hb hr hml hown hlk hnm hg hP hK hD hE hA hS hl => ?_)
  have hl : lv_has ls 1 [(0, .int a0)] := hl
  refine lv_iload_n hx hb dX10_isHigh_0 rfl (lv_at hl 0 rfl) ?_
  refine lv_i2l hx hb dX10_isHigh_1 rfl ?_
  refine lv_topl (fun j_1 ej_1 => ?_)
  refine lv_lconst (v := 0) hx hb dX10_isHigh_2 (by decide) ?_
  refine lv_ldc2 (v := 4) hx hb hown (hg _ q_7_189) dX10_isHigh_3 ?_
  refine jnI (wr := []) (rnS (rest := []) ⟨hx, hb, hml, hown, hg⟩ (k_X10_within_0 l V j_1 0 4) mt_X10_within q_6_114 ⟨Nat.le_of_ble_eq_true rfl, Nat.le_of_ble_eq_true rfl⟩ hK hP hD hS hA hE [] rfl rfl rfl hl.1 rfl (Nat.le_of_ble_eq_true rfl) dX10_isHigh_6 ⟨Nat.le_of_ble_eq_true rfl, Nat.le_of_ble_eq_true rfl⟩) hP hD hS hA [] [] rfl rfl rfl (by decide) (fun r_2 w H locs hw hP hD hS => ?_)
  obtain ⟨br_2, g_3, g_4, g_5, et_6, rfl⟩ := hw
  have hP : va_P V.1 vwCl [] H := hP
  have hD := cpD hP hD
  have c_7 : r_2 = 0 ∨ r_2 = 1 := by have q9 := br_2; unfold iv at q9; simp only [tI_eq, (by decide : (0 : Int32).toInt = 0), (by decide : (1 : Int32).toInt = 1)]; omega
  rcases c_7 with rfl | rfl
  · exact fiZ rfl hx hb hr hlk hK hP hD hS dX10_isHigh_9 (Nat.le_of_ble_eq_true rfl) (Nat.le_of_ble_eq_true rfl) (⟨(iv_c (0 : Int32) (by decide)), (fun q9 => absurd q9 (by decide)), rfl⟩)
  · have c_8 : (0 : Int64) ≤ j_1 := (g_4 rfl)
    have b_9 : ivL 0 9223372036854775807 j_1 := ivL_e2 c_8 (ivL_c (0 : Int64) (a := 0) (b := 0) (by decide)) (ivL_top j_1) (by decide)
    have b_10 : iv 0 2147483647 a0 := iv_cap (ivL_i ej_1 b_9) (iv_top a0) (by decide)
    have c_11 : j_1 ≤ 4 := (g_5 rfl)
    have b_12 : ivL 0 4 j_1 := ivL_e1 c_11 b_9 (ivL_c (4 : Int64) (a := 4) (b := 4) (by decide)) (by decide)
    have b_13 : iv 0 4 a0 := iv_cap (ivL_i ej_1 b_12) b_10 (by decide)
    exact fiZ rfl hx hb hr hlk hK hP hD hS dX10_isHigh_9 (Nat.le_of_ble_eq_true rfl) (Nat.le_of_ble_eq_true rfl) (⟨(iv_c (1 : Int32) (by decide)), (fun _ => b_13), rfl⟩)
theorem dX10_noHigh_0 : decode cX10_noHigh 0 = .ok (.aload_n 0, 1) := by decide +kernel
theorem dX10_noHigh_1 : decode cX10_noHigh 1 = .ok (.iload_n 1, 1) := by decide +kernel
theorem dX10_noHigh_2 : decode cX10_noHigh 2 = .ok (.i2l, 1) := by decide +kernel
theorem dX10_noHigh_3 : decode cX10_noHigh 3 = .ok (.invokevirtual 262, 3) := by decide +kernel
theorem dX10_noHigh_6 : decode cX10_noHigh 6 = .ok (.ifCond .ne 8, 3) := by decide +kernel
theorem dX10_noHigh_14 : decode cX10_noHigh 14 = .ok (.iload_n 2, 1) := by decide +kernel
theorem q_7_188 : Cond.code yX10_isHigh prog_12_method_87_code 1 (some FieldType.boolean) ∈ gw := gw_7 (i := 188) (rfl) rfl
theorem q_7_187 : Cond.static yX10_isHigh ∈ gw := gw_7 (i := 187) (by decide +kernel) rfl
theorem mt_X10_isHigh : MtS yX10_isHigh cX10_isHigh 1 (some .boolean) 1 := ⟨⟨q_7_188, q_1_9, by decide +kernel, by decide +kernel, by decide +kernel⟩, q_7_187⟩
theorem q_7_186 : Cond.methodLink "BeaconDelayModel" 370 yX10_isHigh ∈ gw := gw_7 (i := 186) (by decide +kernel) rfl
theorem dX10_noHigh_15 : decode cX10_noHigh 15 = .ok (.invokestatic 370, 3) := by decide +kernel
theorem dX10_noHigh_18 : decode cX10_noHigh 18 = .ok (.ifCond .eq 7, 3) := by decide +kernel
theorem dX10_noHigh_25 : decode cX10_noHigh 25 = .ok (.bipush (-3), 2) := by decide +kernel
theorem dX10_noHigh_27 : decode cX10_noHigh 27 = .ok (.ireturn, 1) := by decide +kernel
theorem dX10_noHigh_21 : decode cX10_noHigh 21 = .ok (.iconst 0, 1) := by decide +kernel
theorem dX10_noHigh_22 : decode cX10_noHigh 22 = .ok (.goto 5, 3) := by decide +kernel
theorem dX10_noHigh_9 : decode cX10_noHigh 9 = .ok (.bipush (-2), 2) := by decide +kernel
theorem dX10_noHigh_11 : decode cX10_noHigh 11 = .ok (.goto 16, 3) := by decide +kernel
set_option maxHeartbeats 4000000 in
set_option maxRecDepth 100000 in
theorem k_X10_noHigh_0 (l : Launch) (V : GV) (z : Nat → Nat) (a1 : Int32) (a2 : Int32) (pz0_0 : Int32) (pz0_5 : Int32) (pz0_6 : Int32) (pz0_7 : Int32) (pz0_8 : Int32) (pz0_9 : Int32) (pz0_10 : Int32) (pz0_11 : Int32) (pz0_12 : Int32) (pz0_13 : Int32) (pz0_14 : Int32) (pz0_18 : Int32) (pz0_19 : Int32) (pz0_22 : Int32) (pz0_23 : Int32) (pz0_29 : Int32) (fz1 : Nat → Int32) (bpz0_5 : iv 0 900 pz0_5) (bpz0_6 : iv 0 900 pz0_6) (bpz0_7 : iv 0 900 pz0_7) (bpz0_8 : iv 0 900 pz0_8) (bpz0_10 : iv 0 999 pz0_10) (bpz0_11 : iv 0 4 pz0_11) (bpz0_12 : iv 0 900 pz0_12) (bpz0_13 : iv 0 4 pz0_13) (bpz0_14 : iv (-1) 900 pz0_14) (bpz0_18 : iv 0 2 pz0_18) (bpz0_22 : iv 0 9999 pz0_22) (bpz0_29 : iv 0 10000 pz0_29) (tfz1 : ivT tA fz1) : Ct l V yX10_noHigh (.code yX10_noHigh cX10_noHigh 3 (some .int)) 3 [.ref (z 0), .int a1, .int a2] [(z 0, .inr (10, mo z pz0_0 pz0_5 pz0_6 pz0_7 pz0_8 pz0_9 pz0_10 pz0_11 pz0_12 pz0_13 pz0_14 pz0_18 pz0_19 pz0_22 pz0_23 pz0_29)), (z 1, aI V 3075 fz1)] 0 0 (QI V (fun (r : Int32) (w : va_W) => iv (-3) 0 r ∧ (r = 0 → iv 0 3 a1) ∧ (r = 0 → iv 0 4 a2) ∧ w = [(z 0, .inr (10, mo z pz0_0 pz0_5 pz0_6 pz0_7 pz0_8 pz0_9 pz0_10 pz0_11 pz0_12 pz0_13 pz0_14 pz0_18 pz0_19 pz0_22 pz0_23 pz0_29)), (z 1, aI V 3075 fz1)])) := by
  refine Ct.of (by decide) (Nat.le_of_ble_eq_true rfl) (fun p e s m below meth c A ls hx hb hr hml hown hlk hnm hg hP hK hD hE hA hS hl => ?_)
  have hl : lv_has ls 3 [(0, .ref (z 0)), (1, .int a1), (2, .int a2)] := hl
  refine lv_aload_n hx hb dX10_noHigh_0 rfl (lv_at hl 0 rfl) ?_
  refine lv_iload_n hx hb dX10_noHigh_1 rfl (lv_at hl 1 rfl) ?_
  refine lv_i2l hx hb dX10_noHigh_2 rfl ?_
  refine lv_topl (fun j_1 ej_1 => ?_)
  refine jnI (wr := []) (rnV (rest := []) ⟨hx, hb, hml, hown, hg⟩ (k_X10_isHill_0 l V z j_1 pz0_0 pz0_5 pz0_6 pz0_7 pz0_8 pz0_9 pz0_10 pz0_11 pz0_12 pz0_13 pz0_14 pz0_18 pz0_19 pz0_22 pz0_23 pz0_29 fz1 bpz0_5 bpz0_6 bpz0_7 bpz0_8 bpz0_10 bpz0_11 bpz0_12 bpz0_13 bpz0_14 bpz0_18 bpz0_22 bpz0_29 tfz1) mt_X10_isHill q_6_235 ⟨Nat.le_of_ble_eq_true rfl, Nat.le_of_ble_eq_true rfl⟩ hK hP hD hS hA hE [0, 1] rfl rfl 0 rfl rfl rfl rfl hl.1 rfl (Nat.le_of_ble_eq_true rfl) dX10_noHigh_3 ⟨Nat.le_of_ble_eq_true rfl, Nat.le_of_ble_eq_true rfl⟩) hP hD hS hA [0, 1] [] rfl rfl rfl (by decide) (fun r_2 w H locs hw hP hD hS => ?_)
  obtain ⟨br_2, g_3, et_4, rfl⟩ := hw
  have hP : va_P V.1 vwCl [(z 0, .inr (10, mo z pz0_0 pz0_5 pz0_6 pz0_7 pz0_8 pz0_9 pz0_10 pz0_11 pz0_12 pz0_13 pz0_14 pz0_18 pz0_19 pz0_22 pz0_23 pz0_29)), (z 1, aI V 3075 fz1)] H := hP
  have hD := cpD hP hD
  refine lv_if_ne (tgt := 14) hx hb dX10_noHigh_6 (by decide) (fun c_5 => ?_) (fun c_5 => ?_)
  · have b_6 : iv 1 1 r_2 := iv_n0 c_5 br_2 (iv_c (0 : Int32) (a := 0) (b := 0) (by decide)) (by decide)
    have b_7 : ivL 0 3 j_1 := ivL_cap (g_3 (iv_eqp b_6 (iv_c (1 : Int32) (by decide)))) (ivL_top j_1) (by decide)
    have b_8 : iv 0 3 a1 := iv_cap (ivL_i ej_1 b_7) (iv_top a1) (by decide)
    refine lv_iload_n hx hb dX10_noHigh_14 rfl (lv_at hl 2 rfl) ?_
    refine jnI (wr := [(z 0, .inr (10, mo z pz0_0 pz0_5 pz0_6 pz0_7 pz0_8 pz0_9 pz0_10 pz0_11 pz0_12 pz0_13 pz0_14 pz0_18 pz0_19 pz0_22 pz0_23 pz0_29)), (z 1, aI V 3075 fz1)]) (rnS (rest := []) ⟨hx, hb, hml, hown, hg⟩ (k_X10_isHigh_0 l V a2) mt_X10_isHigh q_7_186 ⟨Nat.le_of_ble_eq_true rfl, Nat.le_of_ble_eq_true rfl⟩ hK hP hD hS hA hE [] rfl rfl rfl hl.1 rfl (Nat.le_of_ble_eq_true rfl) dX10_noHigh_15 ⟨Nat.le_of_ble_eq_true rfl, Nat.le_of_ble_eq_true rfl⟩) hP hD hS hA [] [0, 1] rfl rfl rfl (by decide) (fun r_9 w H locs hw hP hD hS => ?_)
    obtain ⟨br_9, g_10, rfl⟩ := hw
    have hP : va_P V.1 vwCl [(z 0, .inr (10, mo z pz0_0 pz0_5 pz0_6 pz0_7 pz0_8 pz0_9 pz0_10 pz0_11 pz0_12 pz0_13 pz0_14 pz0_18 pz0_19 pz0_22 pz0_23 pz0_29)), (z 1, aI V 3075 fz1)] H := hP
    have hD := cpD hP hD
    refine lv_if_eq (tgt := 25) hx hb dX10_noHigh_18 (by decide) (fun c_11 => ?_) (fun c_11 => ?_)
    · have b_12 : iv 0 0 r_9 := iv_q c_11 (iv_c (0 : Int32) (a := 0) (b := 0) (by decide))
      refine lv_bipush (v := (-3)) hx hb dX10_noHigh_25 (by decide) ?_
      exact fiI hx hb hr hlk hK hP hD hS dX10_noHigh_27 (Nat.le_of_ble_eq_true rfl) (Nat.le_of_ble_eq_true rfl) (⟨(iv_c ((-3) : Int32) (by decide)), (fun q9 => absurd q9 (by decide)), (fun q9 => absurd q9 (by decide)), rfl⟩)
    · have b_13 : iv 1 1 r_9 := iv_n0 c_11 br_9 (iv_c (0 : Int32) (a := 0) (b := 0) (by decide)) (by decide)
      have b_14 : iv 0 4 a2 := iv_cap (g_10 (iv_eqp b_13 (iv_c (1 : Int32) (by decide)))) (iv_top a2) (by decide)
      refine lv_iconst (v := 0) hx hb dX10_noHigh_21 (by decide) ?_
      refine lv_goto (tgt := 27) hx hb dX10_noHigh_22 (by decide) ?_
      exact fiI hx hb hr hlk hK hP hD hS dX10_noHigh_27 (Nat.le_of_ble_eq_true rfl) (Nat.le_of_ble_eq_true rfl) (⟨(iv_c (0 : Int32) (by decide)), (fun _ => b_8), (fun _ => b_14), rfl⟩)
  · have b_15 : iv 0 0 r_2 := iv_q c_5 (iv_c (0 : Int32) (a := 0) (b := 0) (by decide))
    refine lv_bipush (v := (-2)) hx hb dX10_noHigh_9 (by decide) ?_
    refine lv_goto (tgt := 27) hx hb dX10_noHigh_11 (by decide) ?_
    exact fiI hx hb hr hlk hK hP hD hS dX10_noHigh_27 (Nat.le_of_ble_eq_true rfl) (Nat.le_of_ble_eq_true rfl) (⟨(iv_c ((-2) : Int32) (by decide)), (fun q9 => absurd q9 (by decide)), (fun q9 => absurd q9 (by decide)), rfl⟩)
theorem dX10_adds_0 : decode cX10_adds 0 = .ok (.aload_n 0, 1) := by decide +kernel
theorem q_6_12 : Cond.fieldLink "BeaconDelayModel" 58 "BeaconDelayModel" "known" "[Z" ∈ gw := gw_6 (i := 12) (by decide +kernel) rfl
theorem dX10_adds_1 : decode cX10_adds 1 = .ok (.getfield 58, 3) := by decide +kernel
theorem dX10_adds_4 : decode cX10_adds 4 = .ok (.iload_n 1, 1) := by decide +kernel
theorem dX10_adds_5 : decode cX10_adds 5 = .ok (.baload, 1) := by decide +kernel
theorem dX10_adds_6 : decode cX10_adds 6 = .ok (.ifCond .eq 4, 3) := by decide +kernel
theorem dX10_adds_10 : decode cX10_adds 10 = .ok (.aload_n 0, 1) := by decide +kernel
theorem dX10_adds_11 : decode cX10_adds 11 = .ok (.getfield 58, 3) := by decide +kernel
theorem dX10_adds_14 : decode cX10_adds 14 = .ok (.iload_n 1, 1) := by decide +kernel
theorem dX10_adds_15 : decode cX10_adds 15 = .ok (.iconst 1, 1) := by decide +kernel
theorem dX10_adds_16 : decode cX10_adds 16 = .ok (.bastore, 1) := by decide +kernel
theorem dX10_adds_17 : decode cX10_adds 17 = .ok (.aload_n 0, 1) := by decide +kernel
theorem q_6_8 : Cond.fieldLink "BeaconDelayModel" 45 "BeaconDelayModel" "stand" "[I" ∈ gw := gw_6 (i := 8) (by decide +kernel) rfl
theorem dX10_adds_18 : decode cX10_adds 18 = .ok (.getfield 45, 3) := by decide +kernel
theorem dX10_adds_21 : decode cX10_adds 21 = .ok (.aload_n 0, 1) := by decide +kernel
theorem q_6_13 : Cond.fieldLink "BeaconDelayModel" 355 "BeaconDelayModel" "standMany" "I" ∈ gw := gw_6 (i := 13) (by decide +kernel) rfl
theorem dX10_adds_22 : decode cX10_adds 22 = .ok (.getfield 355, 3) := by decide +kernel
theorem dX10_adds_25 : decode cX10_adds 25 = .ok (.iload_n 1, 1) := by decide +kernel
theorem dX10_adds_26 : decode cX10_adds 26 = .ok (.iastore, 1) := by decide +kernel
theorem dX10_adds_27 : decode cX10_adds 27 = .ok (.aload_n 0, 1) := by decide +kernel
theorem dX10_adds_28 : decode cX10_adds 28 = .ok (.dup, 1) := by decide +kernel
theorem dX10_adds_29 : decode cX10_adds 29 = .ok (.getfield 355, 3) := by decide +kernel
theorem dX10_adds_32 : decode cX10_adds 32 = .ok (.iconst 1, 1) := by decide +kernel
theorem dX10_adds_33 : decode cX10_adds 33 = .ok (.iadd, 1) := by decide +kernel
theorem dX10_adds_34 : decode cX10_adds 34 = .ok (.putfield 355, 3) := by decide +kernel
theorem dX10_adds_37 : decode cX10_adds 37 = .ok (.return_, 1) := by decide +kernel
theorem dX10_adds_9 : decode cX10_adds 9 = .ok (.return_, 1) := by decide +kernel
set_option maxHeartbeats 4000000 in
set_option maxRecDepth 100000 in
theorem k_X10_adds_0 (l : Launch) (V : GV) (z : Nat → Nat) (a1 : Int32) (fz24 : Nat → Int32) (fz28 : Nat → Int32) (pz0_0 : Int32) (pz0_5 : Int32) (pz0_6 : Int32) (pz0_7 : Int32) (pz0_8 : Int32) (pz0_9 : Int32) (pz0_10 : Int32) (pz0_11 : Int32) (pz0_12 : Int32) (pz0_13 : Int32) (pz0_14 : Int32) (pz0_18 : Int32) (pz0_19 : Int32) (pz0_22 : Int32) (pz0_23 : Int32) (pz0_29 : Int32) (ba1 : iv 0 9999 a1) (tfz24 : ∀ j, iv 0 9999 (fz24 j)) (bpz0_5 : iv 0 900 pz0_5) (bpz0_6 : iv 0 900 pz0_6) (bpz0_7 : iv 0 900 pz0_7) (bpz0_8 : iv 0 900 pz0_8) (bpz0_10 : iv 0 999 pz0_10) (bpz0_11 : iv 0 4 pz0_11) (bpz0_12 : iv 0 900 pz0_12) (bpz0_13 : iv 0 4 pz0_13) (bpz0_14 : iv (-1) 900 pz0_14) (bpz0_18 : iv 0 2 pz0_18) (bpz0_22 : iv 0 9999 pz0_22) (bpz0_29 : iv 0 10000 pz0_29) (hf0 : FK pz0_29 fz28) (hf1 : KI pz0_29 fz24 fz28) : Ct l V yX10_adds (.code yX10_adds cX10_adds 2 none) 1 [.ref (z 0), .int a1] [(z 24, aI V 10000 fz24), (z 28, aZ V 10000 fz28), (z 0, .inr (10, mo z pz0_0 pz0_5 pz0_6 pz0_7 pz0_8 pz0_9 pz0_10 pz0_11 pz0_12 pz0_13 pz0_14 pz0_18 pz0_19 pz0_22 pz0_23 pz0_29))] 0 0 (QV V (fun (w : va_W) => ∃ (g0 : Nat → Int32) (g1 : Nat → Int32) (v2 : Int32), (∀ j, iv 0 9999 (g0 j)) ∧ iv 0 10000 v2 ∧ (FK v2 g1) ∧ (KI v2 g0 g1) ∧ ((pz0_29 : Int32).toInt ≤ (v2 : Int32).toInt) ∧ (preS pz0_29 fz24 g0) ∧ (inS v2 g0 (a1 : Int32).toNatClampNeg) ∧ w = [(z 24, aI V 10000 g0), (z 28, aZ V 10000 g1), (z 0, .inr (10, mo z pz0_0 pz0_5 pz0_6 pz0_7 pz0_8 pz0_9 pz0_10 pz0_11 pz0_12 pz0_13 pz0_14 pz0_18 pz0_19 pz0_22 pz0_23 v2))])) := by
  refine Ct.of (by decide) (Nat.le_of_ble_eq_true rfl) (fun p e s m below meth c A ls hx hb hr hml hown hlk hnm hg hP hK hD hE hA hS hl => ?_)
  have hl : lv_has ls 2 [(0, .ref (z 0)), (1, .int a1)] := hl
  refine lv_aload_n hx hb dX10_adds_0 rfl (lv_at hl 0 rfl) ?_
  refine va_get (ci := 10) (v := .ref (z 28)) (C := RX10) (T := TX10) (N := 40) hx hb hg inX10 hown hK hP 2 rfl rfl 28 (by decide) (hg _ q_6_12) (fun _ h9 => h9) rfl dX10_adds_1 ?_
  refine lv_iload_n hx hb dX10_adds_4 rfl (lv_at hl 1 rfl) ?_
  refine va_zald hx hb hK hP 1 3 rfl rfl (iv_in ba1 (by decide)) dX10_adds_5 ?_
  refine lv_topi (fun x_1 ex_1 => ?_)
  refine lv_if_eq (tgt := 10) hx hb dX10_adds_6 (by decide) (fun c_2 => ?_) (fun c_2 => ?_)
  · have b_3 : iv 0 0 x_1 := iv_q c_2 (iv_c (0 : Int32) (a := 0) (b := 0) (by decide))
    have b_4 : iv 0 9999 pz0_29 := by have q9 := FK_lt hf0 (by have q9 := ba1; have q8 := clampNat q9.1; unfold iv at q9; omega) (ex_1.symm.trans c_2); have q8 := bpz0_29; unfold iv at *; omega
    refine lv_aload_n hx hb dX10_adds_10 rfl (lv_at hl 0 rfl) ?_
    refine va_get (ci := 10) (v := .ref (z 28)) (C := RX10) (T := TX10) (N := 40) hx hb hg inX10 hown hK hP 2 rfl rfl 28 (by decide) (hg _ q_6_12) (fun _ h9 => h9) rfl dX10_adds_11 ?_
    refine lv_iload_n hx hb dX10_adds_14 rfl (lv_at hl 1 rfl) ?_
    refine lv_iconst (v := 1) hx hb dX10_adds_15 (by decide) ?_
    refine va_zast hx hb hK hP hD hS 1 3 rfl rfl (iv_in ba1 (by decide)) dX10_adds_16 (fun H locs hP hD hS => ?_)
    obtain ⟨f_5, ef_5, hP, hD⟩ : ∃ f_5 : Nat → Int32, f_5 = (upd fz28 (a1 : Int32).toNatClampNeg (vp_nar .boolean 1)) ∧ va_P V.1 vwCl [(z 24, aI V 10000 fz24), (z 28, aZ V 10000 f_5), (z 0, .inr (10, mo z pz0_0 pz0_5 pz0_6 pz0_7 pz0_8 pz0_9 pz0_10 pz0_11 pz0_12 pz0_13 pz0_14 pz0_18 pz0_19 pz0_22 pz0_23 pz0_29))] H ∧ va_D A [(z 24, aI V 10000 fz24), (z 28, aZ V 10000 f_5), (z 0, .inr (10, mo z pz0_0 pz0_5 pz0_6 pz0_7 pz0_8 pz0_9 pz0_10 pz0_11 pz0_12 pz0_13 pz0_14 pz0_18 pz0_19 pz0_22 pz0_23 pz0_29))] := ⟨_, rfl, hP, hD⟩
    refine lv_aload_n hx hb dX10_adds_17 rfl (lv_at hl 0 rfl) ?_
    refine va_get (ci := 10) (v := .ref (z 24)) (C := RX10) (T := TX10) (N := 40) hx hb hg inX10 hown hK hP 2 rfl rfl 24 (by decide) (hg _ q_6_8) (fun _ h9 => h9) rfl dX10_adds_18 ?_
    refine lv_aload_n hx hb dX10_adds_21 rfl (lv_at hl 0 rfl) ?_
    refine va_get (ci := 10) (v := .int pz0_29) (C := RX10) (T := TX10) (N := 40) hx hb hg inX10 hown hK hP 2 rfl rfl 29 (by decide) (hg _ q_6_13) (fun _ h9 => h9) rfl dX10_adds_22 ?_
    refine lv_iload_n hx hb dX10_adds_25 rfl (lv_at hl 1 rfl) ?_
    refine va_iast hx hb hK hP hD hS 0 0 rfl rfl (iv_in b_4 (by decide)) dX10_adds_26 (fun H locs hP hD hS => ?_)
    obtain ⟨f_6, ef_6, tf_6, hP, hD⟩ : ∃ f_6 : Nat → Int32, f_6 = (upd fz24 (pz0_29 : Int32).toNatClampNeg a1) ∧ (∀ j, iv 0 9999 (f_6 j)) ∧ va_P V.1 vwCl [(z 24, aI V 10000 f_6), (z 28, aZ V 10000 f_5), (z 0, .inr (10, mo z pz0_0 pz0_5 pz0_6 pz0_7 pz0_8 pz0_9 pz0_10 pz0_11 pz0_12 pz0_13 pz0_14 pz0_18 pz0_19 pz0_22 pz0_23 pz0_29))] H ∧ va_D A [(z 24, aI V 10000 f_6), (z 28, aZ V 10000 f_5), (z 0, .inr (10, mo z pz0_0 pz0_5 pz0_6 pz0_7 pz0_8 pz0_9 pz0_10 pz0_11 pz0_12 pz0_13 pz0_14 pz0_18 pz0_19 pz0_22 pz0_23 pz0_29))] := ⟨_, rfl, ivU tfz24 _ ba1, hP, hD⟩
    refine lv_aload_n hx hb dX10_adds_27 rfl (lv_at hl 0 rfl) ?_
    refine lv_dup hx hb dX10_adds_28 rfl ?_
    refine va_get (ci := 10) (v := .int pz0_29) (C := RX10) (T := TX10) (N := 40) hx hb hg inX10 hown hK hP 2 rfl rfl 29 (by decide) (hg _ q_6_13) (fun _ h9 => h9) rfl dX10_adds_29 ?_
    refine lv_iconst (v := 1) hx hb dX10_adds_32 (by decide) ?_
    refine lv_iadd hx hb dX10_adds_33 ?_
    refine lv_topi (fun x_7 ex_7 => ?_)
    have bx_7 : iv 1 10000 x_7 := by rw [ex_7]; exact iv_add b_4 (iv_c (1 : Int32) (a := 1) (b := 1) (by decide)) (by decide)
    refine va_put (ci := 10) (v := .int x_7) (ty := .int) (C := RX10) (T := TX10) (N := 40) hx hb hg inX10 tyX10 tyX10_ok nmX10 hown hK hP hD hS 2 rfl rfl 29 (by decide) (hg _ q_6_13) (fun _ h9 => h9) rfl (by decide +kernel) rfl rfl (Nat.le_of_ble_eq_true rfl) dX10_adds_34 (fun H locs hP hD hS => ?_)
    have hP : va_P V.1 vwCl [(z 24, aI V 10000 f_6), (z 28, aZ V 10000 f_5), (z 0, .inr (10, mo z pz0_0 pz0_5 pz0_6 pz0_7 pz0_8 pz0_9 pz0_10 pz0_11 pz0_12 pz0_13 pz0_14 pz0_18 pz0_19 pz0_22 pz0_23 x_7))] H := hP
    have hD := cpD hP hD
    exact fiV hx hb hr hlk hK hP hD hS dX10_adds_37 (Nat.le_of_ble_eq_true rfl) (Nat.le_of_ble_eq_true rfl) (⟨f_6, f_5, x_7, tf_6, (iv_w bx_7 (by decide)), (FK_s hf0 (by have q9 := ba1; have q8 := clampNat q9.1; unfold iv at q9; omega) (ex_1.symm.trans c_2) (by decide) ef_5 (inc_toInt ex_7 b_4 (by decide))), (KI_s hf1 b_4 (by decide) (inc_toInt ex_7 b_4 (by decide)) ef_6 ef_5), (by have q9 := (inc_toInt ex_7 b_4 (by decide)); omega), (preS_s b_4 (by decide) ef_6), (inS_s b_4 (by decide) (inc_toInt ex_7 b_4 (by decide)) ef_6), rfl⟩)
  · exact fiV hx hb hr hlk hK hP hD hS dX10_adds_9 (Nat.le_of_ble_eq_true rfl) (Nat.le_of_ble_eq_true rfl) (⟨fz24, fz28, pz0_29, tfz24, bpz0_29, hf0, hf1, (Int.le_refl _), preS_r, (hf1 _ (by have q9 := ba1; have q8 := clampNat q9.1; unfold iv at q9; omega) (fun q9 => c_2 (ex_1.trans q9))), rfl⟩)
theorem dX10_laysStands_0 : decode cX10_laysStands 0 = .ok (.iconst 0, 1) := by decide +kernel
theorem dX10_laysStands_1 : decode cX10_laysStands 1 = .ok (.istore_n 1, 1) := by decide +kernel
theorem dX10_laysStands_2 : decode cX10_laysStands 2 = .ok (.iload_n 1, 1) := by decide +kernel
theorem dX10_laysStands_3 : decode cX10_laysStands 3 = .ok (.sipush 10000, 3) := by decide +kernel
theorem dX10_laysStands_6 : decode cX10_laysStands 6 = .ok (.if_icmp .ge 16, 3) := by decide +kernel
theorem dX10_laysStands_22 : decode cX10_laysStands 22 = .ok (.aload_n 0, 1) := by decide +kernel
theorem dX10_laysStands_23 : decode cX10_laysStands 23 = .ok (.iconst 0, 1) := by decide +kernel
theorem dX10_laysStands_24 : decode cX10_laysStands 24 = .ok (.putfield 355, 3) := by decide +kernel
theorem dX10_laysStands_27 : decode cX10_laysStands 27 = .ok (.aload_n 0, 1) := by decide +kernel
theorem dX10_laysStands_28 : decode cX10_laysStands 28 = .ok (.aload_n 0, 1) := by decide +kernel
theorem dX10_laysStands_29 : decode cX10_laysStands 29 = .ok (.invokevirtual 269, 3) := by decide +kernel
theorem q_7_201 : Cond.code yX10_adds prog_12_method_82_code 2 none ∈ gw := gw_7 (i := 201) (rfl) rfl
theorem q_7_200 : Cond.instanceMethod yX10_adds ∈ gw := gw_7 (i := 200) (by decide +kernel) rfl
theorem q_s_106 : Cond.selects "BeaconDelayModel" yX10_adds yX10_adds ∈ gw := gw_s (i := 106) (by decide +kernel) rfl
theorem mt_X10_adds : MtV yX10_adds cX10_adds 2 none 1 := ⟨⟨q_7_201, q_1_9, by decide +kernel, by decide +kernel, by decide +kernel⟩, q_7_200, q_s_106⟩
theorem q_7_198 : Cond.methodLink "BeaconDelayModel" 358 yX10_adds ∈ gw := gw_7 (i := 198) (by decide +kernel) rfl
theorem dX10_laysStands_32 : decode cX10_laysStands 32 = .ok (.invokevirtual 358, 3) := by decide +kernel
theorem dX10_laysStands_35 : decode cX10_laysStands 35 = .ok (.iconst 0, 1) := by decide +kernel
theorem dX10_laysStands_36 : decode cX10_laysStands 36 = .ok (.istore_n 1, 1) := by decide +kernel
theorem dX10_laysStands_37 : decode cX10_laysStands 37 = .ok (.iload_n 1, 1) := by decide +kernel
theorem dX10_laysStands_38 : decode cX10_laysStands 38 = .ok (.aload_n 0, 1) := by decide +kernel
theorem dX10_laysStands_39 : decode cX10_laysStands 39 = .ok (.getfield 355, 3) := by decide +kernel
theorem dX10_laysStands_42 : decode cX10_laysStands 42 = .ok (.if_icmp .ge 80, 3) := by decide +kernel
theorem dX10_laysStands_122 : decode cX10_laysStands 122 = .ok (.return_, 1) := by decide +kernel
theorem dX10_laysStands_45 : decode cX10_laysStands 45 = .ok (.iconst 0, 1) := by decide +kernel
theorem dX10_laysStands_46 : decode cX10_laysStands 46 = .ok (.istore_n 2, 1) := by decide +kernel
theorem dX10_laysStands_47 : decode cX10_laysStands 47 = .ok (.iload_n 2, 1) := by decide +kernel
theorem dX10_laysStands_48 : decode cX10_laysStands 48 = .ok (.iconst 4, 1) := by decide +kernel
theorem dX10_laysStands_49 : decode cX10_laysStands 49 = .ok (.if_icmp .ge 67, 3) := by decide +kernel
theorem dX10_laysStands_116 : decode cX10_laysStands 116 = .ok (.iinc 1 1, 3) := by decide +kernel
theorem dX10_laysStands_119 : decode cX10_laysStands 119 = .ok (.goto (-82), 3) := by decide +kernel
theorem dX10_laysStands_52 : decode cX10_laysStands 52 = .ok (.aload_n 0, 1) := by decide +kernel
theorem dX10_laysStands_53 : decode cX10_laysStands 53 = .ok (.iload_n 2, 1) := by decide +kernel
theorem dX10_laysStands_54 : decode cX10_laysStands 54 = .ok (.i2l, 1) := by decide +kernel
theorem dX10_laysStands_55 : decode cX10_laysStands 55 = .ok (.invokevirtual 266, 3) := by decide +kernel
theorem dX10_laysStands_58 : decode cX10_laysStands 58 = .ok (.ifCond .eq 24, 3) := by decide +kernel
theorem dX10_laysStands_82 : decode cX10_laysStands 82 = .ok (.iconst (-1), 1) := by decide +kernel
theorem dX10_laysStands_83 : decode cX10_laysStands 83 = .ok (.istore_n 3, 1) := by decide +kernel
theorem dX10_laysStands_84 : decode cX10_laysStands 84 = .ok (.aload_n 0, 1) := by decide +kernel
theorem q_6_9 : Cond.fieldLink "BeaconDelayModel" 49 "BeaconDelayModel" "then" "[I" ∈ gw := gw_6 (i := 9) (by decide +kernel) rfl
theorem dX10_laysStands_85 : decode cX10_laysStands 85 = .ok (.getfield 49, 3) := by decide +kernel
theorem dX10_laysStands_88 : decode cX10_laysStands 88 = .ok (.iconst 4, 1) := by decide +kernel
theorem dX10_laysStands_89 : decode cX10_laysStands 89 = .ok (.aload_n 0, 1) := by decide +kernel
theorem dX10_laysStands_90 : decode cX10_laysStands 90 = .ok (.getfield 45, 3) := by decide +kernel
theorem dX10_laysStands_93 : decode cX10_laysStands 93 = .ok (.iload_n 1, 1) := by decide +kernel
theorem dX10_laysStands_94 : decode cX10_laysStands 94 = .ok (.iaload, 1) := by decide +kernel
theorem dX10_laysStands_95 : decode cX10_laysStands 95 = .ok (.imul, 1) := by decide +kernel
theorem dX10_laysStands_96 : decode cX10_laysStands 96 = .ok (.iload_n 2, 1) := by decide +kernel
theorem dX10_laysStands_97 : decode cX10_laysStands 97 = .ok (.iadd, 1) := by decide +kernel
theorem dX10_laysStands_98 : decode cX10_laysStands 98 = .ok (.iload_n 3, 1) := by decide +kernel
theorem dX10_laysStands_99 : decode cX10_laysStands 99 = .ok (.iastore, 1) := by decide +kernel
theorem dX10_laysStands_100 : decode cX10_laysStands 100 = .ok (.iload_n 3, 1) := by decide +kernel
theorem dX10_laysStands_101 : decode cX10_laysStands 101 = .ok (.iconst (-1), 1) := by decide +kernel
theorem dX10_laysStands_102 : decode cX10_laysStands 102 = .ok (.if_icmp .eq 8, 3) := by decide +kernel
theorem dX10_laysStands_110 : decode cX10_laysStands 110 = .ok (.iinc 2 1, 3) := by decide +kernel
theorem dX10_laysStands_113 : decode cX10_laysStands 113 = .ok (.goto (-66), 3) := by decide +kernel
theorem dX10_laysStands_61 : decode cX10_laysStands 61 = .ok (.aload_n 0, 1) := by decide +kernel
theorem dX10_laysStands_62 : decode cX10_laysStands 62 = .ok (.aload_n 0, 1) := by decide +kernel
theorem dX10_laysStands_63 : decode cX10_laysStands 63 = .ok (.getfield 45, 3) := by decide +kernel
theorem dX10_laysStands_66 : decode cX10_laysStands 66 = .ok (.iload_n 1, 1) := by decide +kernel
theorem dX10_laysStands_67 : decode cX10_laysStands 67 = .ok (.iaload, 1) := by decide +kernel
theorem dX10_laysStands_68 : decode cX10_laysStands 68 = .ok (.iload_n 2, 1) := by decide +kernel
theorem dX10_laysStands_69 : decode cX10_laysStands 69 = .ok (.aload_n 0, 1) := by decide +kernel
theorem dX10_laysStands_70 : decode cX10_laysStands 70 = .ok (.getfield 13, 3) := by decide +kernel
theorem dX10_laysStands_73 : decode cX10_laysStands 73 = .ok (.bipush 51, 2) := by decide +kernel
theorem dX10_laysStands_75 : decode cX10_laysStands 75 = .ok (.iaload, 1) := by decide +kernel
theorem dX10_laysStands_76 : decode cX10_laysStands 76 = .ok (.invokevirtual 272, 3) := by decide +kernel
theorem dX10_laysStands_79 : decode cX10_laysStands 79 = .ok (.goto 4, 3) := by decide +kernel
theorem dX10_laysStands_105 : decode cX10_laysStands 105 = .ok (.aload_n 0, 1) := by decide +kernel
theorem dX10_laysStands_106 : decode cX10_laysStands 106 = .ok (.iload_n 3, 1) := by decide +kernel
theorem dX10_laysStands_107 : decode cX10_laysStands 107 = .ok (.invokevirtual 358, 3) := by decide +kernel
theorem dX10_laysStands_9 : decode cX10_laysStands 9 = .ok (.aload_n 0, 1) := by decide +kernel
theorem dX10_laysStands_10 : decode cX10_laysStands 10 = .ok (.getfield 58, 3) := by decide +kernel
theorem dX10_laysStands_13 : decode cX10_laysStands 13 = .ok (.iload_n 1, 1) := by decide +kernel
theorem dX10_laysStands_14 : decode cX10_laysStands 14 = .ok (.iconst 0, 1) := by decide +kernel
theorem dX10_laysStands_15 : decode cX10_laysStands 15 = .ok (.bastore, 1) := by decide +kernel
theorem dX10_laysStands_16 : decode cX10_laysStands 16 = .ok (.iinc 1 1, 3) := by decide +kernel
theorem dX10_laysStands_19 : decode cX10_laysStands 19 = .ok (.goto (-17), 3) := by decide +kernel
set_option maxHeartbeats 4000000 in
set_option maxRecDepth 100000 in
theorem k_X10_laysStands_0 (l : Launch) (V : GV) (z : Nat → Nat) (fz15 : Nat → Int32) (fz16 : Nat → Int32) (fz24 : Nat → Int32) (fz25 : Nat → Int32) (fz28 : Nat → Int32) (pz0_0 : Int32) (pz0_5 : Int32) (pz0_6 : Int32) (pz0_7 : Int32) (pz0_8 : Int32) (pz0_9 : Int32) (pz0_10 : Int32) (pz0_11 : Int32) (pz0_12 : Int32) (pz0_13 : Int32) (pz0_14 : Int32) (pz0_18 : Int32) (pz0_19 : Int32) (pz0_22 : Int32) (pz0_23 : Int32) (pz0_29 : Int32) (fz1 : Nat → Int32) (tfz16 : ivT tW fz16) (tfz24 : ∀ j, iv 0 9999 (fz24 j)) (tfz25 : ∀ j, iv (-1) 9999 (fz25 j)) (bpz0_5 : iv 0 900 pz0_5) (bpz0_6 : iv 0 900 pz0_6) (bpz0_7 : iv 0 900 pz0_7) (bpz0_8 : iv 0 900 pz0_8) (bpz0_10 : iv 0 999 pz0_10) (bpz0_11 : iv 0 4 pz0_11) (bpz0_12 : iv 0 900 pz0_12) (bpz0_13 : iv 0 4 pz0_13) (bpz0_14 : iv (-1) 900 pz0_14) (bpz0_18 : iv 0 2 pz0_18) (bpz0_22 : iv 0 9999 pz0_22) (bpz0_29 : iv 0 10000 pz0_29) (tfz1 : ivT tA fz1) (hf0 : RW fz1) : Ct l V yX10_laysStands (.code yX10_laysStands cX10_laysStands 4 none) 5 [.ref (z 0)] [(z 15, aI V 900 fz15), (z 16, aI V 6 fz16), (z 24, aI V 10000 fz24), (z 25, aI V 40000 fz25), (z 28, aZ V 10000 fz28), (z 0, .inr (10, mo z pz0_0 pz0_5 pz0_6 pz0_7 pz0_8 pz0_9 pz0_10 pz0_11 pz0_12 pz0_13 pz0_14 pz0_18 pz0_19 pz0_22 pz0_23 pz0_29)), (z 1, aI V 3075 fz1)] 0 0 (QV V (fun (w : va_W) => ∃ (g0 : Nat → Int32) (g1 : Nat → Int32) (g2 : Nat → Int32) (g3 : Nat → Int32) (g4 : Nat → Int32) (v5 : Int32), (ivT tW g1) ∧ (∀ j, iv 0 9999 (g2 j)) ∧ (∀ j, iv (-1) 9999 (g3 j)) ∧ iv 0 10000 v5 ∧ (RW fz1) ∧ (SL v5 g2 g3) ∧ (inS v5 g2 (snF fz1).toNatClampNeg) ∧ w = [(z 15, aI V 900 g0), (z 16, aI V 6 g1), (z 24, aI V 10000 g2), (z 25, aI V 40000 g3), (z 28, aZ V 10000 g4), (z 0, .inr (10, mo z pz0_0 pz0_5 pz0_6 pz0_7 pz0_8 pz0_9 pz0_10 pz0_11 pz0_12 pz0_13 pz0_14 pz0_18 pz0_19 pz0_22 pz0_23 v5)), (z 1, aI V 3075 fz1)])) := by
  refine Ct.of (by decide) (Nat.le_of_ble_eq_true rfl) (fun p e s m below meth c A ls hx hb hr hml hown hlk hnm hg hP hK hD hE hA hS hl => ?_)
  have hl : lv_has ls 4 [(0, .ref (z 0))] := hl
  refine lv_iconst (v := 0) hx hb dX10_laysStands_0 (by decide) ?_
  refine lv_istore_n (lv' := [(1, .int 0), (0, .ref (z 0))]) hx hb dX10_laysStands_1 rfl hl (by decide) rfl (fun ls hl => ?_)
  refine loopF (X := fun (n_3 : Nat) (H : Heap) (locs : List Loc) (ls : Array Slot) => ∃ (u_1 : Int32) (f_2 : Nat → Int32), (iv 0 10000 u_1) ∧ (∀ j : Nat, (j : Int) < (u_1 : Int32).toInt → f_2 j = 0) ∧ n_3 = (2147483647 - (u_1 : Int32).toInt).toNat ∧ va_P V.1 vwCl [(z 15, aI V 900 fz15), (z 16, aI V 6 fz16), (z 24, aI V 10000 fz24), (z 25, aI V 40000 fz25), (z 28, aZ V 10000 f_2), (z 0, .inr (10, mo z pz0_0 pz0_5 pz0_6 pz0_7 pz0_8 pz0_9 pz0_10 pz0_11 pz0_12 pz0_13 pz0_14 pz0_18 pz0_19 pz0_22 pz0_23 pz0_29)), (z 1, aI V 3075 fz1)] H ∧ va_D A [(z 15, aI V 900 fz15), (z 16, aI V 6 fz16), (z 24, aI V 10000 fz24), (z 25, aI V 40000 fz25), (z 28, aZ V 10000 f_2), (z 0, .inr (10, mo z pz0_0 pz0_5 pz0_6 pz0_7 pz0_8 pz0_9 pz0_10 pz0_11 pz0_12 pz0_13 pz0_14 pz0_18 pz0_19 pz0_22 pz0_23 pz0_29)), (z 1, aI V 3075 fz1)] ∧ va_S A s.heap H locs ∧ lv_has ls 4 [(1, .int u_1), (0, .ref (z 0))]) (g := fun ls => F0 m 2 ls []) (fun n_3 H locs ls hX ihn_3 => ?_) _ ⟨0, fz28, (iv_c (0 : Int32) (by decide)), (fun j hj => absurd hj (by have h9 : (0 : Int32).toInt = 0 := (by decide); omega)), rfl, hP, hD, hS, lv_sub hl [0, 1] rfl⟩
  obtain ⟨u_1, f_2, bu_1, inn_3_0, en_3, hP, hD, hS, hl⟩ := hX
  refine lv_iload_n hx hb dX10_laysStands_2 rfl (lv_at hl 0 rfl) ?_
  refine lv_sipush (v := 10000) hx hb dX10_laysStands_3 (by decide) ?_
  refine lv_icmp_ge (tgt := 22) hx hb dX10_laysStands_6 (by decide) (fun c_4 => ?_) (fun c_4 => ?_)
  · have b_5 : iv 10000 10000 u_1 := iv_e2 c_4 (iv_c (10000 : Int32) (a := 10000) (b := 10000) (by decide)) bu_1 (by decide)
    refine lv_aload_n hx hb dX10_laysStands_22 rfl (lv_at hl 1 rfl) ?_
    refine lv_iconst (v := 0) hx hb dX10_laysStands_23 (by decide) ?_
    refine va_put (ci := 10) (v := .int 0) (ty := .int) (C := RX10) (T := TX10) (N := 40) hx hb hg inX10 tyX10 tyX10_ok nmX10 hown hK hP hD hS 5 rfl rfl 29 (by decide) (hg _ q_6_13) (fun _ h9 => h9) rfl (by decide +kernel) rfl rfl (Nat.le_of_ble_eq_true rfl) dX10_laysStands_24 (fun H locs hP hD hS => ?_)
    have hP : va_P V.1 vwCl [(z 15, aI V 900 fz15), (z 16, aI V 6 fz16), (z 24, aI V 10000 fz24), (z 25, aI V 40000 fz25), (z 28, aZ V 10000 f_2), (z 0, .inr (10, mo z pz0_0 pz0_5 pz0_6 pz0_7 pz0_8 pz0_9 pz0_10 pz0_11 pz0_12 pz0_13 pz0_14 pz0_18 pz0_19 pz0_22 pz0_23 0)), (z 1, aI V 3075 fz1)] H := hP
    have hD := cpD hP hD
    refine lv_aload_n hx hb dX10_laysStands_27 rfl (lv_at hl 1 rfl) ?_
    refine lv_aload_n hx hb dX10_laysStands_28 rfl (lv_at hl 1 rfl) ?_
    refine jnI (wr := [(z 15, aI V 900 fz15), (z 16, aI V 6 fz16), (z 24, aI V 10000 fz24), (z 25, aI V 40000 fz25), (z 28, aZ V 10000 f_2)]) (rnV (rest := [.ref (z 0)]) ⟨hx, hb, hml, hown, hg⟩ (k_X10_standNow_0 l V z pz0_0 pz0_5 pz0_6 pz0_7 pz0_8 pz0_9 pz0_10 pz0_11 pz0_12 pz0_13 pz0_14 pz0_18 pz0_19 pz0_22 pz0_23 0 fz1 bpz0_5 bpz0_6 bpz0_7 bpz0_8 bpz0_10 bpz0_11 bpz0_12 bpz0_13 bpz0_14 bpz0_18 bpz0_22 (iv_c (0 : Int32) (by decide)) tfz1) mt_X10_standNow q_7_11 ⟨Nat.le_of_ble_eq_true rfl, Nat.le_of_ble_eq_true rfl⟩ hK hP hD hS hA hE [5, 6] rfl rfl 5 rfl rfl rfl rfl hl.1 rfl (Nat.le_of_ble_eq_true rfl) dX10_laysStands_29 ⟨Nat.le_of_ble_eq_true rfl, Nat.le_of_ble_eq_true rfl⟩) hP hD hS hA [5, 6] [0, 1, 2, 3, 4] rfl rfl rfl (by decide) (fun r_6 w H locs hw hP hD hS => ?_)
    obtain ⟨br_6, er_6, et_7, rfl⟩ := hw
    have hP : va_P V.1 vwCl [(z 15, aI V 900 fz15), (z 16, aI V 6 fz16), (z 24, aI V 10000 fz24), (z 25, aI V 40000 fz25), (z 28, aZ V 10000 f_2), (z 0, .inr (10, mo z pz0_0 pz0_5 pz0_6 pz0_7 pz0_8 pz0_9 pz0_10 pz0_11 pz0_12 pz0_13 pz0_14 pz0_18 pz0_19 pz0_22 pz0_23 0)), (z 1, aI V 3075 fz1)] H := hP
    have hD := cpD hP hD
    refine jnV (wr := [(z 15, aI V 900 fz15), (z 16, aI V 6 fz16), (z 25, aI V 40000 fz25), (z 1, aI V 3075 fz1)]) (rnV (rest := []) ⟨hx, hb, hml, hown, hg⟩ (k_X10_adds_0 l V z r_6 fz24 f_2 pz0_0 pz0_5 pz0_6 pz0_7 pz0_8 pz0_9 pz0_10 pz0_11 pz0_12 pz0_13 pz0_14 pz0_18 pz0_19 pz0_22 pz0_23 0 br_6 tfz24 bpz0_5 bpz0_6 bpz0_7 bpz0_8 bpz0_10 bpz0_11 bpz0_12 bpz0_13 bpz0_14 bpz0_18 bpz0_22 (iv_c (0 : Int32) (by decide)) (FK_0 (by decide)) (KI_0 inn_3_0 (Int32.not_lt.mpr c_4))) mt_X10_adds q_7_198 ⟨Nat.le_of_ble_eq_true rfl, Nat.le_of_ble_eq_true rfl⟩ hK hP hD hS hA hE [2, 4, 5] rfl rfl 5 rfl rfl rfl rfl hl.1 rfl (Nat.le_of_ble_eq_true rfl) dX10_laysStands_32 ⟨Nat.le_of_ble_eq_true rfl, Nat.le_of_ble_eq_true rfl⟩) hP hD hS hA [2, 4, 5] [0, 1, 3, 6] rfl rfl rfl (by decide) (fun  w H locs hw hP hD hS => ?_)
    obtain ⟨f_8, f_9, v_10, tf_8, bv_10, g_11, g_12, g_13, g_14, g_15, rfl⟩ := hw
    have hP : va_P V.1 vwCl [(z 15, aI V 900 fz15), (z 16, aI V 6 fz16), (z 25, aI V 40000 fz25), (z 1, aI V 3075 fz1), (z 24, aI V 10000 f_8), (z 28, aZ V 10000 f_9), (z 0, .inr (10, mo z pz0_0 pz0_5 pz0_6 pz0_7 pz0_8 pz0_9 pz0_10 pz0_11 pz0_12 pz0_13 pz0_14 pz0_18 pz0_19 pz0_22 pz0_23 v_10))] H := hP
    have hD := cpD hP hD
    refine lv_iconst (v := 0) hx hb dX10_laysStands_35 (by decide) ?_
    refine lv_istore_n (lv' := [(1, .int 0), (0, .ref (z 0))]) hx hb dX10_laysStands_36 rfl hl (by decide) rfl (fun ls hl => ?_)
    refine loopF (X := fun (n_23 : Nat) (H : Heap) (locs : List Loc) (ls : Array Slot) => ∃ (u_16 : Int32) (f_17 : Nat → Int32) (f_18 : Nat → Int32) (f_19 : Nat → Int32) (f_20 : Nat → Int32) (f_21 : Nat → Int32) (u_22 : Int32), (iv 0 10000 u_16) ∧ (ivT tW f_18) ∧ (∀ j, iv (-1) 9999 (f_19 j)) ∧ (∀ j, iv 0 9999 (f_20 j)) ∧ (iv 0 10000 u_22) ∧ (CL u_22 f_20 f_19 (u_16).toNatClampNeg ((0 : Int32)).toNatClampNeg) ∧ (inS u_22 f_20 (snF fz1).toNatClampNeg) ∧ (RW fz1) ∧ (FK u_22 f_21) ∧ (KI u_22 f_20 f_21) ∧ n_23 = (2147483647 - (u_16 : Int32).toInt).toNat ∧ va_P V.1 vwCl [(z 15, aI V 900 f_17), (z 16, aI V 6 f_18), (z 25, aI V 40000 f_19), (z 1, aI V 3075 fz1), (z 24, aI V 10000 f_20), (z 28, aZ V 10000 f_21), (z 0, .inr (10, mo z pz0_0 pz0_5 pz0_6 pz0_7 pz0_8 pz0_9 pz0_10 pz0_11 pz0_12 pz0_13 pz0_14 pz0_18 pz0_19 pz0_22 pz0_23 u_22))] H ∧ va_D A [(z 15, aI V 900 f_17), (z 16, aI V 6 f_18), (z 25, aI V 40000 f_19), (z 1, aI V 3075 fz1), (z 24, aI V 10000 f_20), (z 28, aZ V 10000 f_21), (z 0, .inr (10, mo z pz0_0 pz0_5 pz0_6 pz0_7 pz0_8 pz0_9 pz0_10 pz0_11 pz0_12 pz0_13 pz0_14 pz0_18 pz0_19 pz0_22 pz0_23 u_22))] ∧ va_S A s.heap H locs ∧ lv_has ls 4 [(1, .int u_16), (0, .ref (z 0))]) (g := fun ls => F0 m 37 ls []) (fun n_23 H locs ls hX ihn_23 => ?_) _ ⟨0, fz15, fz16, fz25, f_8, f_9, v_10, (iv_c (0 : Int32) (by decide)), tfz16, tfz25, tf_8, bv_10, (show CL _ _ _ (0 : Int32).toNatClampNeg (0 : Int32).toNatClampNeg from (by rw [(by decide : (0 : Int32).toNatClampNeg = 0)]; exact CL_0)), (by have q9 := g_15; rw [er_6] at q9; exact q9), hf0, g_11, g_12, rfl, hP, hD, hS, lv_sub hl [0, 1] rfl⟩
    obtain ⟨u_16, f_17, f_18, f_19, f_20, f_21, u_22, bu_16, tf_18, tf_19, tf_20, bu_22, inn_23_0, inn_23_1, inn_23_2, inn_23_3, inn_23_4, en_23, hP, hD, hS, hl⟩ := hX
    refine lv_iload_n hx hb dX10_laysStands_37 rfl (lv_at hl 0 rfl) ?_
    refine lv_aload_n hx hb dX10_laysStands_38 rfl (lv_at hl 1 rfl) ?_
    refine va_get (ci := 10) (v := .int u_22) (C := RX10) (T := TX10) (N := 40) hx hb hg inX10 hown hK hP 6 rfl rfl 29 (by decide) (hg _ q_6_13) (fun _ h9 => h9) rfl dX10_laysStands_39 ?_
    refine lv_icmp_ge (tgt := 122) hx hb dX10_laysStands_42 (by decide) (fun c_24 => ?_) (fun c_24 => ?_)
    · have hP := subP (ws' := [(z 15, aI V 900 f_17), (z 16, aI V 6 f_18), (z 24, aI V 10000 f_20), (z 25, aI V 40000 f_19), (z 28, aZ V 10000 f_21), (z 0, .inr (10, mo z pz0_0 pz0_5 pz0_6 pz0_7 pz0_8 pz0_9 pz0_10 pz0_11 pz0_12 pz0_13 pz0_14 pz0_18 pz0_19 pz0_22 pz0_23 u_22)), (z 1, aI V 3075 fz1)]) hP [0, 1, 4, 2, 5, 6, 3] rfl
      have hD := subD hP hD [0, 1, 4, 2, 5, 6, 3] rfl rfl
      exact fiV hx hb hr hlk hK hP hD hS dX10_laysStands_122 (Nat.le_of_ble_eq_true rfl) (Nat.le_of_ble_eq_true rfl) (⟨f_17, f_18, f_20, f_19, f_21, u_22, tf_18, tf_20, tf_19, bu_22, inn_23_2, (SL_of (d := (0 : Int32)) inn_23_0 (Int32.not_lt.mpr c_24) bu_16 (by decide)), inn_23_1, rfl⟩)
    · have b_25 : iv 0 9999 u_16 := iv_l1 (Int32.not_le.mp c_24) bu_16 bu_22 (by decide)
      have b_26 : iv 1 10000 u_22 := iv_l2 (Int32.not_le.mp c_24) bu_16 bu_22 (by decide)
      refine lv_iconst (v := 0) hx hb dX10_laysStands_45 (by decide) ?_
      refine lv_istore_n (lv' := [(2, .int 0), (1, .int u_16), (0, .ref (z 0))]) hx hb dX10_laysStands_46 rfl hl (by decide) rfl (fun ls hl => ?_)
      refine loopF (X := fun (n_34 : Nat) (H : Heap) (locs : List Loc) (ls : Array Slot) => ∃ (u_27 : Int32) (f_28 : Nat → Int32) (f_29 : Nat → Int32) (f_30 : Nat → Int32) (f_31 : Nat → Int32) (f_32 : Nat → Int32) (u_33 : Int32), (iv 0 4 u_27) ∧ (ivT tW f_29) ∧ (∀ j, iv (-1) 9999 (f_30 j)) ∧ (∀ j, iv 0 9999 (f_31 j)) ∧ (iv 0 10000 u_33) ∧ (CL u_33 f_31 f_30 (u_16).toNatClampNeg (u_27).toNatClampNeg) ∧ (inS u_33 f_31 (snF fz1).toNatClampNeg) ∧ ((u_16 : Int32).toInt < (u_33 : Int32).toInt) ∧ (RW fz1) ∧ (FK u_33 f_32) ∧ (KI u_33 f_31 f_32) ∧ n_34 = (2147483647 - (u_27 : Int32).toInt).toNat ∧ va_P V.1 vwCl [(z 15, aI V 900 f_28), (z 16, aI V 6 f_29), (z 25, aI V 40000 f_30), (z 1, aI V 3075 fz1), (z 24, aI V 10000 f_31), (z 28, aZ V 10000 f_32), (z 0, .inr (10, mo z pz0_0 pz0_5 pz0_6 pz0_7 pz0_8 pz0_9 pz0_10 pz0_11 pz0_12 pz0_13 pz0_14 pz0_18 pz0_19 pz0_22 pz0_23 u_33))] H ∧ va_D A [(z 15, aI V 900 f_28), (z 16, aI V 6 f_29), (z 25, aI V 40000 f_30), (z 1, aI V 3075 fz1), (z 24, aI V 10000 f_31), (z 28, aZ V 10000 f_32), (z 0, .inr (10, mo z pz0_0 pz0_5 pz0_6 pz0_7 pz0_8 pz0_9 pz0_10 pz0_11 pz0_12 pz0_13 pz0_14 pz0_18 pz0_19 pz0_22 pz0_23 u_33))] ∧ va_S A s.heap H locs ∧ lv_has ls 4 [(2, .int u_27), (1, .int u_16), (0, .ref (z 0))]) (g := fun ls => F0 m 47 ls []) (fun n_34 H locs ls hX ihn_34 => ?_) _ ⟨0, f_17, f_18, f_19, f_20, f_21, u_22, (iv_c (0 : Int32) (by decide)), tf_18, tf_19, tf_20, (iv_w b_26 (by decide)), inn_23_0, inn_23_1, (Int32.lt_iff_toInt_lt.mp (Int32.not_le.mp c_24)), inn_23_2, inn_23_3, inn_23_4, rfl, hP, hD, hS, lv_sub hl [0, 1, 2] rfl⟩
      obtain ⟨u_27, f_28, f_29, f_30, f_31, f_32, u_33, bu_27, tf_29, tf_30, tf_31, bu_33, inn_34_0, inn_34_1, inn_34_2, inn_34_3, inn_34_4, inn_34_5, en_34, hP, hD, hS, hl⟩ := hX
      refine lv_iload_n hx hb dX10_laysStands_47 rfl (lv_at hl 0 rfl) ?_
      refine lv_iconst (v := 4) hx hb dX10_laysStands_48 (by decide) ?_
      refine lv_icmp_ge (tgt := 116) hx hb dX10_laysStands_49 (by decide) (fun c_35 => ?_) (fun c_35 => ?_)
      · have b_36 : iv 4 4 u_27 := iv_e2 c_35 (iv_c (4 : Int32) (a := 4) (b := 4) (by decide)) bu_27 (by decide)
        obtain ⟨x_37, ex_37⟩ : ∃ z9 : Int32, z9 = u_16 + 1 := ⟨_, rfl⟩
        have bx_37 : iv 1 10000 x_37 := by rw [ex_37]; exact iv_add b_25 (iv_c (1 : Int32) (a := 1) (b := 1) (by decide)) (by decide)
        refine lv_iinc (v := x_37) (lv' := [(1, .int x_37), (2, .int u_27), (0, .ref (z 0))]) hx hb dX10_laysStands_116 hl (k := 1) rfl (by rw [ex_37]; rfl) (by decide) rfl (fun ls hl => ?_)
        refine lv_goto (tgt := 37) hx hb dX10_laysStands_119 (by decide) ?_
        exact ihn_23 _ _ _ _ (by rw [en_23, ex_37]; exact mu_up b_25 (by decide)) ⟨x_37, f_28, f_29, f_30, f_31, f_32, u_33, (iv_w bx_37 (by decide)), tf_29, tf_30, tf_31, bu_33, (by have q8 := inc_toInt ex_37 b_25 (by decide); have q7 := clampNat (x := u_16) (by have q9 := b_25; unfold iv at q9; omega); have q6 := clampNat (x := x_37) (by have q9 := bx_37; unfold iv at q9; omega); have q5 := (Int32.not_lt.mpr c_35); rw [Int32.lt_iff_toInt_lt, (by decide : (4 : Int32).toInt = 4)] at q5; have q4 := clampNat (x := u_27) (by have q9 := b_36; unfold iv at q9; omega); rw [show (x_37).toNatClampNeg = (u_16).toNatClampNeg + 1 by omega, (by decide : (0 : Int32).toNatClampNeg = 0)]; exact CL_n inn_34_0 (by omega)), inn_34_1, inn_34_3, inn_34_4, inn_34_5, rfl, hP, hD, hS, lv_sub hl [0, 2] rfl⟩
      · have b_38 : iv 0 3 u_27 := iv_l1 (Int32.not_le.mp c_35) bu_27 (iv_c (4 : Int32) (a := 4) (b := 4) (by decide)) (by decide)
        refine lv_aload_n hx hb dX10_laysStands_52 rfl (lv_at hl 2 rfl) ?_
        refine lv_iload_n hx hb dX10_laysStands_53 rfl (lv_at hl 0 rfl) ?_
        refine lv_i2l hx hb dX10_laysStands_54 rfl ?_
        refine lv_topl (fun j_39 ej_39 => ?_)
        have bj_39 : ivL 0 3 j_39 := by rw [ej_39]; exact ivL_of b_38
        refine jnI (wr := [(z 15, aI V 900 f_28), (z 16, aI V 6 f_29), (z 25, aI V 40000 f_30), (z 24, aI V 10000 f_31), (z 28, aZ V 10000 f_32)]) (rnV (rest := []) ⟨hx, hb, hml, hown, hg⟩ (k_X10_isNight_0 l V z j_39 pz0_0 pz0_5 pz0_6 pz0_7 pz0_8 pz0_9 pz0_10 pz0_11 pz0_12 pz0_13 pz0_14 pz0_18 pz0_19 pz0_22 pz0_23 u_33 fz1 bpz0_5 bpz0_6 bpz0_7 bpz0_8 bpz0_10 bpz0_11 bpz0_12 bpz0_13 bpz0_14 bpz0_18 bpz0_22 bu_33 tfz1) mt_X10_isNight q_7_7 ⟨Nat.le_of_ble_eq_true rfl, Nat.le_of_ble_eq_true rfl⟩ hK hP hD hS hA hE [6, 3] rfl rfl 6 rfl rfl rfl rfl hl.1 rfl (Nat.le_of_ble_eq_true rfl) dX10_laysStands_55 ⟨Nat.le_of_ble_eq_true rfl, Nat.le_of_ble_eq_true rfl⟩) hP hD hS hA [6, 3] [0, 1, 2, 4, 5] rfl rfl rfl (by decide) (fun r_40 w H locs hw hP hD hS => ?_)
        obtain ⟨br_40, g_41, et_42, rfl⟩ := hw
        have hP : va_P V.1 vwCl [(z 15, aI V 900 f_28), (z 16, aI V 6 f_29), (z 25, aI V 40000 f_30), (z 24, aI V 10000 f_31), (z 28, aZ V 10000 f_32), (z 0, .inr (10, mo z pz0_0 pz0_5 pz0_6 pz0_7 pz0_8 pz0_9 pz0_10 pz0_11 pz0_12 pz0_13 pz0_14 pz0_18 pz0_19 pz0_22 pz0_23 u_33)), (z 1, aI V 3075 fz1)] H := hP
        have hD := cpD hP hD
        refine lv_if_eq (tgt := 82) hx hb dX10_laysStands_58 (by decide) (fun c_43 => ?_) (fun c_43 => ?_)
        · have b_44 : iv 0 0 r_40 := iv_q c_43 (iv_c (0 : Int32) (a := 0) (b := 0) (by decide))
          refine lv_iconst (v := (-1)) hx hb dX10_laysStands_82 (by decide) ?_
          refine lv_istore_n (lv' := [(3, .int (-1)), (2, .int u_27), (1, .int u_16), (0, .ref (z 0))]) hx hb dX10_laysStands_83 rfl hl (by decide) rfl (fun ls hl => ?_)
          refine lv_aload_n hx hb dX10_laysStands_84 rfl (lv_at hl 3 rfl) ?_
          refine va_get (ci := 10) (v := .ref (z 25)) (C := RX10) (T := TX10) (N := 40) hx hb hg inX10 hown hK hP 5 rfl rfl 25 (by decide) (hg _ q_6_9) (fun _ h9 => h9) rfl dX10_laysStands_85 ?_
          refine lv_iconst (v := 4) hx hb dX10_laysStands_88 (by decide) ?_
          refine lv_aload_n hx hb dX10_laysStands_89 rfl (lv_at hl 3 rfl) ?_
          refine va_get (ci := 10) (v := .ref (z 24)) (C := RX10) (T := TX10) (N := 40) hx hb hg inX10 hown hK hP 5 rfl rfl 24 (by decide) (hg _ q_6_8) (fun _ h9 => h9) rfl dX10_laysStands_90 ?_
          refine lv_iload_n hx hb dX10_laysStands_93 rfl (lv_at hl 2 rfl) ?_
          refine va_iald hx hb hK hP 3 0 rfl rfl (iv_in b_25 (by decide)) dX10_laysStands_94 ?_
          refine lv_topi (fun x_45 ex_45 => ?_)
          have bx_45 : iv 0 9999 x_45 := by rw [ex_45]; exact tf_31 _
          refine lv_imul hx hb dX10_laysStands_95 ?_
          refine lv_topi (fun x_46 ex_46 => ?_)
          have bx_46 : iv 0 39996 x_46 := by rw [ex_46]; exact iv_cmul (iv_c (4 : Int32) (a := 4) (b := 4) (by decide)) bx_45 (by decide)
          refine lv_iload_n hx hb dX10_laysStands_96 rfl (lv_at hl 1 rfl) ?_
          refine lv_iadd hx hb dX10_laysStands_97 ?_
          refine lv_topi (fun x_47 ex_47 => ?_)
          have bx_47 : iv 0 39999 x_47 := by rw [ex_47]; exact iv_add bx_46 b_38 (by decide)
          refine lv_iload_n hx hb dX10_laysStands_98 rfl (lv_at hl 0 rfl) ?_
          refine va_iast hx hb hK hP hD hS 2 0 rfl rfl (iv_in bx_47 (by decide)) dX10_laysStands_99 (fun H locs hP hD hS => ?_)
          obtain ⟨f_48, ef_48, tf_48, hP, hD⟩ : ∃ f_48 : Nat → Int32, f_48 = (upd f_30 (x_47 : Int32).toNatClampNeg (-1)) ∧ (∀ j, iv (-1) 9999 (f_48 j)) ∧ va_P V.1 vwCl [(z 15, aI V 900 f_28), (z 16, aI V 6 f_29), (z 25, aI V 40000 f_48), (z 24, aI V 10000 f_31), (z 28, aZ V 10000 f_32), (z 0, .inr (10, mo z pz0_0 pz0_5 pz0_6 pz0_7 pz0_8 pz0_9 pz0_10 pz0_11 pz0_12 pz0_13 pz0_14 pz0_18 pz0_19 pz0_22 pz0_23 u_33)), (z 1, aI V 3075 fz1)] H ∧ va_D A [(z 15, aI V 900 f_28), (z 16, aI V 6 f_29), (z 25, aI V 40000 f_48), (z 24, aI V 10000 f_31), (z 28, aZ V 10000 f_32), (z 0, .inr (10, mo z pz0_0 pz0_5 pz0_6 pz0_7 pz0_8 pz0_9 pz0_10 pz0_11 pz0_12 pz0_13 pz0_14 pz0_18 pz0_19 pz0_22 pz0_23 u_33)), (z 1, aI V 3075 fz1)] := ⟨_, rfl, ivU tf_30 _ (iv_c ((-1) : Int32) (by decide)), hP, hD⟩
          refine lv_iload_n hx hb dX10_laysStands_100 rfl (lv_at hl 0 rfl) ?_
          refine lv_iconst (v := (-1)) hx hb dX10_laysStands_101 (by decide) ?_
          refine lv_icmp_eq (tgt := 110) hx hb dX10_laysStands_102 (by decide) (fun _ => ?_) (fun c_50 => absurd c_50 (by decide))
          obtain ⟨x_51, ex_51⟩ : ∃ z9 : Int32, z9 = u_27 + 1 := ⟨_, rfl⟩
          have bx_51 : iv 1 4 x_51 := by rw [ex_51]; exact iv_add b_38 (iv_c (1 : Int32) (a := 1) (b := 1) (by decide)) (by decide)
          refine lv_iinc (v := x_51) (lv' := [(2, .int x_51), (3, .int (-1)), (1, .int u_16), (0, .ref (z 0))]) hx hb dX10_laysStands_110 hl (k := 1) rfl (by rw [ex_51]; rfl) (by decide) rfl (fun ls hl => ?_)
          refine lv_goto (tgt := 47) hx hb dX10_laysStands_113 (by decide) ?_
          have hP := subP (ws' := [(z 15, aI V 900 f_28), (z 16, aI V 6 f_29), (z 25, aI V 40000 f_48), (z 1, aI V 3075 fz1), (z 24, aI V 10000 f_31), (z 28, aZ V 10000 f_32), (z 0, .inr (10, mo z pz0_0 pz0_5 pz0_6 pz0_7 pz0_8 pz0_9 pz0_10 pz0_11 pz0_12 pz0_13 pz0_14 pz0_18 pz0_19 pz0_22 pz0_23 u_33))]) hP [0, 1, 2, 6, 3, 4, 5] rfl
          have hD := subD hP hD [0, 1, 2, 6, 3, 4, 5] rfl rfl
          exact ihn_34 _ _ _ _ (by rw [en_34, ex_51]; exact mu_up b_38 (by decide)) ⟨x_51, f_28, f_29, f_48, f_31, f_32, u_33, (iv_w bx_51 (by decide)), tf_29, tf_48, tf_31, bu_33, (by rw [show (x_51).toNatClampNeg = (u_27).toNatClampNeg + 1 from (by have q8 := inc_toInt ex_51 b_38 (by decide); have q7 := clampNat (x := u_27) (by have q9 := b_38; unfold iv at q9; omega); have q6 := clampNat (x := x_51) (by have q9 := bx_51; unfold iv at q9; omega); omega)]; exact (CL_s inn_34_0 ef_48 (show (x_47 : Int32).toNatClampNeg = 4 * (f_31 (u_16).toNatClampNeg).toNatClampNeg + (u_27).toNatClampNeg from (by have q1 := toInt_mulC (k := 4) ex_46 bx_45 (by decide) (by decide); have q2 := toInt_add ex_47 bx_46 b_38 (by decide); have q3 := clampNat (x := x_47) (by have q9 := bx_47; unfold iv at q9; omega); have q4 := clampNat (x := x_45) (by have q9 := bx_45; unfold iv at q9; omega); have q5 := clampNat (x := u_27) (by have q9 := b_38; unfold iv at q9; omega); rw [← ex_45]; omega)) (Or.inl rfl))), inn_34_1, inn_34_2, inn_34_3, inn_34_4, inn_34_5, rfl, hP, hD, hS, lv_sub hl [0, 2, 3] rfl⟩
        · have b_52 : iv 1 1 r_40 := iv_n0 c_43 br_40 (iv_c (0 : Int32) (a := 0) (b := 0) (by decide)) (by decide)
          refine lv_aload_n hx hb dX10_laysStands_61 rfl (lv_at hl 2 rfl) ?_
          refine lv_aload_n hx hb dX10_laysStands_62 rfl (lv_at hl 2 rfl) ?_
          refine va_get (ci := 10) (v := .ref (z 24)) (C := RX10) (T := TX10) (N := 40) hx hb hg inX10 hown hK hP 5 rfl rfl 24 (by decide) (hg _ q_6_8) (fun _ h9 => h9) rfl dX10_laysStands_63 ?_
          refine lv_iload_n hx hb dX10_laysStands_66 rfl (lv_at hl 1 rfl) ?_
          refine va_iald hx hb hK hP 3 0 rfl rfl (iv_in b_25 (by decide)) dX10_laysStands_67 ?_
          refine lv_topi (fun x_53 ex_53 => ?_)
          have bx_53 : iv 0 9999 x_53 := by rw [ex_53]; exact tf_31 _
          refine lv_iload_n hx hb dX10_laysStands_68 rfl (lv_at hl 0 rfl) ?_
          refine lv_aload_n hx hb dX10_laysStands_69 rfl (lv_at hl 2 rfl) ?_
          refine va_get (ci := 10) (v := .ref (z 1)) (C := RX10) (T := TX10) (N := 40) hx hb hg inX10 hown hK hP 5 rfl rfl 1 (by decide) (hg _ q_5_225) (fun _ h9 => h9) rfl dX10_laysStands_70 ?_
          refine lv_bipush (v := 51) hx hb dX10_laysStands_73 (by decide) ?_
          refine va_iald hx hb hK hP 6 0 rfl rfl (vin (by decide +kernel)) dX10_laysStands_75 ?_
          refine lv_topi (fun x_54 ex_54 => ?_)
          have bx_54 : iv 0 9 x_54 := by rw [ex_54]; exact rdT (a := 51) (n := 1) tfz1 (iv_c (51 : Int32) (a := 51) (b := 51) (by decide)) (by decide) (by decide +kernel)
          refine jnI (wr := [(z 25, aI V 40000 f_30), (z 24, aI V 10000 f_31), (z 28, aZ V 10000 f_32)]) (rnV (rest := []) ⟨hx, hb, hml, hown, hg⟩ (k_X10_nightTo_0 l V z x_53 u_27 x_54 f_28 f_29 pz0_0 pz0_5 pz0_6 pz0_7 pz0_8 pz0_9 pz0_10 pz0_11 pz0_12 pz0_13 pz0_14 pz0_18 pz0_19 pz0_22 pz0_23 u_33 fz1 bx_53 tf_29 bpz0_5 bpz0_6 bpz0_7 bpz0_8 bpz0_10 bpz0_11 bpz0_12 bpz0_13 bpz0_14 bpz0_18 bpz0_22 bu_33 tfz1 inn_34_3) mt_X10_nightTo q_7_18 ⟨Nat.le_of_ble_eq_true rfl, Nat.le_of_ble_eq_true rfl⟩ hK hP hD hS hA hE [0, 1, 5, 6] rfl rfl 5 rfl rfl rfl rfl hl.1 rfl (Nat.le_of_ble_eq_true rfl) dX10_laysStands_76 ⟨Nat.le_of_ble_eq_true rfl, Nat.le_of_ble_eq_true rfl⟩) hP hD hS hA [0, 1, 5, 6] [2, 3, 4] rfl rfl rfl (by decide) (fun r_55 w H locs hw hP hD hS => ?_)
          obtain ⟨f_56, f_57, tf_57, br_55, g_58, et_59, et_60, et_61, rfl⟩ := hw
          have hP : va_P V.1 vwCl [(z 25, aI V 40000 f_30), (z 24, aI V 10000 f_31), (z 28, aZ V 10000 f_32), (z 15, aI V 900 f_56), (z 16, aI V 6 f_57), (z 0, .inr (10, mo z pz0_0 pz0_5 pz0_6 pz0_7 pz0_8 pz0_9 pz0_10 pz0_11 pz0_12 pz0_13 pz0_14 pz0_18 pz0_19 pz0_22 pz0_23 u_33)), (z 1, aI V 3075 fz1)] H := hP
          have hD := cpD hP hD
          refine lv_goto (tgt := 83) hx hb dX10_laysStands_79 (by decide) ?_
          refine lv_istore_n (lv' := [(3, .int r_55), (2, .int u_27), (1, .int u_16), (0, .ref (z 0))]) hx hb dX10_laysStands_83 rfl hl (by decide) rfl (fun ls hl => ?_)
          refine lv_aload_n hx hb dX10_laysStands_84 rfl (lv_at hl 3 rfl) ?_
          refine va_get (ci := 10) (v := .ref (z 25)) (C := RX10) (T := TX10) (N := 40) hx hb hg inX10 hown hK hP 5 rfl rfl 25 (by decide) (hg _ q_6_9) (fun _ h9 => h9) rfl dX10_laysStands_85 ?_
          refine lv_iconst (v := 4) hx hb dX10_laysStands_88 (by decide) ?_
          refine lv_aload_n hx hb dX10_laysStands_89 rfl (lv_at hl 3 rfl) ?_
          refine va_get (ci := 10) (v := .ref (z 24)) (C := RX10) (T := TX10) (N := 40) hx hb hg inX10 hown hK hP 5 rfl rfl 24 (by decide) (hg _ q_6_8) (fun _ h9 => h9) rfl dX10_laysStands_90 ?_
          refine lv_iload_n hx hb dX10_laysStands_93 rfl (lv_at hl 2 rfl) ?_
          refine va_iald hx hb hK hP 1 0 rfl rfl (iv_in b_25 (by decide)) dX10_laysStands_94 ?_
          refine tpi (y := x_53) ex_53.symm ?_
          refine lv_imul hx hb dX10_laysStands_95 ?_
          refine lv_topi (fun x_62 ex_62 => ?_)
          have bx_62 : iv 0 39996 x_62 := by rw [ex_62]; exact iv_cmul (iv_c (4 : Int32) (a := 4) (b := 4) (by decide)) bx_53 (by decide)
          refine lv_iload_n hx hb dX10_laysStands_96 rfl (lv_at hl 1 rfl) ?_
          refine lv_iadd hx hb dX10_laysStands_97 ?_
          refine lv_topi (fun x_63 ex_63 => ?_)
          have bx_63 : iv 0 39999 x_63 := by rw [ex_63]; exact iv_add bx_62 b_38 (by decide)
          refine lv_iload_n hx hb dX10_laysStands_98 rfl (lv_at hl 0 rfl) ?_
          refine va_iast hx hb hK hP hD hS 0 0 rfl rfl (iv_in bx_63 (by decide)) dX10_laysStands_99 (fun H locs hP hD hS => ?_)
          obtain ⟨f_64, ef_64, tf_64, hP, hD⟩ : ∃ f_64 : Nat → Int32, f_64 = (upd f_30 (x_63 : Int32).toNatClampNeg r_55) ∧ (∀ j, iv (-1) 9999 (f_64 j)) ∧ va_P V.1 vwCl [(z 25, aI V 40000 f_64), (z 24, aI V 10000 f_31), (z 28, aZ V 10000 f_32), (z 15, aI V 900 f_56), (z 16, aI V 6 f_57), (z 0, .inr (10, mo z pz0_0 pz0_5 pz0_6 pz0_7 pz0_8 pz0_9 pz0_10 pz0_11 pz0_12 pz0_13 pz0_14 pz0_18 pz0_19 pz0_22 pz0_23 u_33)), (z 1, aI V 3075 fz1)] H ∧ va_D A [(z 25, aI V 40000 f_64), (z 24, aI V 10000 f_31), (z 28, aZ V 10000 f_32), (z 15, aI V 900 f_56), (z 16, aI V 6 f_57), (z 0, .inr (10, mo z pz0_0 pz0_5 pz0_6 pz0_7 pz0_8 pz0_9 pz0_10 pz0_11 pz0_12 pz0_13 pz0_14 pz0_18 pz0_19 pz0_22 pz0_23 u_33)), (z 1, aI V 3075 fz1)] := ⟨_, rfl, ivU tf_30 _ (iv_w br_55 (by decide)), hP, hD⟩
          refine lv_iload_n hx hb dX10_laysStands_100 rfl (lv_at hl 0 rfl) ?_
          refine lv_iconst (v := (-1)) hx hb dX10_laysStands_101 (by decide) ?_
          refine lv_icmp_eq (tgt := 110) hx hb dX10_laysStands_102 (by decide) (fun c_65 => absurd c_65 (iv_ne br_55 (iv_c ((-1) : Int32) (a := (-1)) (b := (-1)) (by decide)) (by decide))) (fun _ => ?_)
          refine lv_aload_n hx hb dX10_laysStands_105 rfl (lv_at hl 3 rfl) ?_
          refine lv_iload_n hx hb dX10_laysStands_106 rfl (lv_at hl 0 rfl) ?_
          refine jnV (wr := [(z 25, aI V 40000 f_64), (z 15, aI V 900 f_56), (z 16, aI V 6 f_57), (z 1, aI V 3075 fz1)]) (rnV (rest := []) ⟨hx, hb, hml, hown, hg⟩ (k_X10_adds_0 l V z r_55 f_31 f_32 pz0_0 pz0_5 pz0_6 pz0_7 pz0_8 pz0_9 pz0_10 pz0_11 pz0_12 pz0_13 pz0_14 pz0_18 pz0_19 pz0_22 pz0_23 u_33 (iv_w br_55 (by decide)) tf_31 bpz0_5 bpz0_6 bpz0_7 bpz0_8 bpz0_10 bpz0_11 bpz0_12 bpz0_13 bpz0_14 bpz0_18 bpz0_22 bu_33 inn_34_4 inn_34_5) mt_X10_adds q_7_198 ⟨Nat.le_of_ble_eq_true rfl, Nat.le_of_ble_eq_true rfl⟩ hK hP hD hS hA hE [1, 2, 5] rfl rfl 5 rfl rfl rfl rfl hl.1 rfl (Nat.le_of_ble_eq_true rfl) dX10_laysStands_107 ⟨Nat.le_of_ble_eq_true rfl, Nat.le_of_ble_eq_true rfl⟩) hP hD hS hA [1, 2, 5] [0, 3, 4, 6] rfl rfl rfl (by decide) (fun  w H locs hw hP hD hS => ?_)
          obtain ⟨f_66, f_67, v_68, tf_66, bv_68, g_69, g_70, g_71, g_72, g_73, rfl⟩ := hw
          have hP : va_P V.1 vwCl [(z 25, aI V 40000 f_64), (z 15, aI V 900 f_56), (z 16, aI V 6 f_57), (z 1, aI V 3075 fz1), (z 24, aI V 10000 f_66), (z 28, aZ V 10000 f_67), (z 0, .inr (10, mo z pz0_0 pz0_5 pz0_6 pz0_7 pz0_8 pz0_9 pz0_10 pz0_11 pz0_12 pz0_13 pz0_14 pz0_18 pz0_19 pz0_22 pz0_23 v_68))] H := hP
          have hD := cpD hP hD
          obtain ⟨x_74, ex_74⟩ : ∃ z9 : Int32, z9 = u_27 + 1 := ⟨_, rfl⟩
          have bx_74 : iv 1 4 x_74 := by rw [ex_74]; exact iv_add b_38 (iv_c (1 : Int32) (a := 1) (b := 1) (by decide)) (by decide)
          refine lv_iinc (v := x_74) (lv' := [(2, .int x_74), (3, .int r_55), (1, .int u_16), (0, .ref (z 0))]) hx hb dX10_laysStands_110 hl (k := 1) rfl (by rw [ex_74]; rfl) (by decide) rfl (fun ls hl => ?_)
          refine lv_goto (tgt := 47) hx hb dX10_laysStands_113 (by decide) ?_
          have hP := subP (ws' := [(z 15, aI V 900 f_56), (z 16, aI V 6 f_57), (z 25, aI V 40000 f_64), (z 1, aI V 3075 fz1), (z 24, aI V 10000 f_66), (z 28, aZ V 10000 f_67), (z 0, .inr (10, mo z pz0_0 pz0_5 pz0_6 pz0_7 pz0_8 pz0_9 pz0_10 pz0_11 pz0_12 pz0_13 pz0_14 pz0_18 pz0_19 pz0_22 pz0_23 v_68))]) hP [1, 2, 0, 3, 4, 5, 6] rfl
          have hD := subD hP hD [1, 2, 0, 3, 4, 5, 6] rfl rfl
          exact ihn_34 _ _ _ _ (by rw [en_34, ex_74]; exact mu_up b_38 (by decide)) ⟨x_74, f_56, f_57, f_64, f_66, f_67, v_68, (iv_w bx_74 (by decide)), tf_57, tf_64, tf_66, bv_68, (by rw [show (x_74).toNatClampNeg = (u_27).toNatClampNeg + 1 from (by have q8 := inc_toInt ex_74 b_38 (by decide); have q7 := clampNat (x := u_27) (by have q9 := b_38; unfold iv at q9; omega); have q6 := clampNat (x := x_74) (by have q9 := bx_74; unfold iv at q9; omega); omega)]; exact (CL_s (CL_m inn_34_0 (by have q9 := inn_34_2; have q8 := clampNat (x := u_16) (by have q7 := b_25; unfold iv at q7; omega); omega) g_71 g_72) ef_64 (show (x_63 : Int32).toNatClampNeg = 4 * (f_66 (u_16).toNatClampNeg).toNatClampNeg + (u_27).toNatClampNeg from (by rw [g_72 _ (by have q9 := inn_34_2; have q8 := clampNat (x := u_16) (by have q7 := b_25; unfold iv at q7; omega); omega)]; exact (show (x_63 : Int32).toNatClampNeg = 4 * (f_31 (u_16).toNatClampNeg).toNatClampNeg + (u_27).toNatClampNeg from (by have q1 := toInt_mulC (k := 4) ex_62 bx_53 (by decide) (by decide); have q2 := toInt_add ex_63 bx_62 b_38 (by decide); have q3 := clampNat (x := x_63) (by have q9 := bx_63; unfold iv at q9; omega); have q4 := clampNat (x := x_53) (by have q9 := bx_53; unfold iv at q9; omega); have q5 := clampNat (x := u_27) (by have q9 := b_38; unfold iv at q9; omega); rw [← ex_53]; omega)))) (Or.inr g_73))), (inS_m inn_34_1 g_71 g_72), (Int.lt_of_lt_of_le inn_34_2 g_71), g_58, g_69, g_70, rfl, hP, hD, hS, lv_sub hl [0, 2, 3] rfl⟩
  · have b_75 : iv 0 9999 u_1 := iv_l1 (Int32.not_le.mp c_4) bu_1 (iv_c (10000 : Int32) (a := 10000) (b := 10000) (by decide)) (by decide)
    refine lv_aload_n hx hb dX10_laysStands_9 rfl (lv_at hl 1 rfl) ?_
    refine va_get (ci := 10) (v := .ref (z 28)) (C := RX10) (T := TX10) (N := 40) hx hb hg inX10 hown hK hP 5 rfl rfl 28 (by decide) (hg _ q_6_12) (fun _ h9 => h9) rfl dX10_laysStands_10 ?_
    refine lv_iload_n hx hb dX10_laysStands_13 rfl (lv_at hl 0 rfl) ?_
    refine lv_iconst (v := 0) hx hb dX10_laysStands_14 (by decide) ?_
    refine va_zast hx hb hK hP hD hS 4 3 rfl rfl (iv_in b_75 (by decide)) dX10_laysStands_15 (fun H locs hP hD hS => ?_)
    obtain ⟨f_76, ef_76, hP, hD⟩ : ∃ f_76 : Nat → Int32, f_76 = (upd f_2 (u_1 : Int32).toNatClampNeg (vp_nar .boolean 0)) ∧ va_P V.1 vwCl [(z 15, aI V 900 fz15), (z 16, aI V 6 fz16), (z 24, aI V 10000 fz24), (z 25, aI V 40000 fz25), (z 28, aZ V 10000 f_76), (z 0, .inr (10, mo z pz0_0 pz0_5 pz0_6 pz0_7 pz0_8 pz0_9 pz0_10 pz0_11 pz0_12 pz0_13 pz0_14 pz0_18 pz0_19 pz0_22 pz0_23 pz0_29)), (z 1, aI V 3075 fz1)] H ∧ va_D A [(z 15, aI V 900 fz15), (z 16, aI V 6 fz16), (z 24, aI V 10000 fz24), (z 25, aI V 40000 fz25), (z 28, aZ V 10000 f_76), (z 0, .inr (10, mo z pz0_0 pz0_5 pz0_6 pz0_7 pz0_8 pz0_9 pz0_10 pz0_11 pz0_12 pz0_13 pz0_14 pz0_18 pz0_19 pz0_22 pz0_23 pz0_29)), (z 1, aI V 3075 fz1)] := ⟨_, rfl, hP, hD⟩
    obtain ⟨x_77, ex_77⟩ : ∃ z9 : Int32, z9 = u_1 + 1 := ⟨_, rfl⟩
    have bx_77 : iv 1 10000 x_77 := by rw [ex_77]; exact iv_add b_75 (iv_c (1 : Int32) (a := 1) (b := 1) (by decide)) (by decide)
    refine lv_iinc (v := x_77) (lv' := [(1, .int x_77), (0, .ref (z 0))]) hx hb dX10_laysStands_16 hl (k := 0) rfl (by rw [ex_77]; rfl) (by decide) rfl (fun ls hl => ?_)
    refine lv_goto (tgt := 2) hx hb dX10_laysStands_19 (by decide) ?_
    exact ihn_3 _ _ _ _ (by rw [en_3, ex_77]; exact mu_up b_75 (by decide)) ⟨x_77, f_76, (iv_w bx_77 (by decide)), (FL_s inn_3_0 b_75 (by decide) ef_76 ex_77), rfl, hP, hD, hS, lv_sub hl [0, 1] rfl⟩
theorem dX10_farBy_0 : decode cX10_farBy 0 = .ok (.aload_n 0, 1) := by decide +kernel
theorem dX10_farBy_1 : decode cX10_farBy 1 = .ok (.getfield 49, 3) := by decide +kernel
theorem dX10_farBy_4 : decode cX10_farBy 4 = .ok (.iconst 4, 1) := by decide +kernel
theorem dX10_farBy_5 : decode cX10_farBy 5 = .ok (.iload_n 1, 1) := by decide +kernel
theorem dX10_farBy_6 : decode cX10_farBy 6 = .ok (.imul, 1) := by decide +kernel
theorem dX10_farBy_7 : decode cX10_farBy 7 = .ok (.iload_n 2, 1) := by decide +kernel
theorem dX10_farBy_8 : decode cX10_farBy 8 = .ok (.iadd, 1) := by decide +kernel
theorem dX10_farBy_9 : decode cX10_farBy 9 = .ok (.iaload, 1) := by decide +kernel
theorem dX10_farBy_10 : decode cX10_farBy 10 = .ok (.istore_n 3, 1) := by decide +kernel
theorem dX10_farBy_11 : decode cX10_farBy 11 = .ok (.iload_n 3, 1) := by decide +kernel
theorem dX10_farBy_12 : decode cX10_farBy 12 = .ok (.iconst (-1), 1) := by decide +kernel
theorem dX10_farBy_13 : decode cX10_farBy 13 = .ok (.if_icmp .eq 15, 3) := by decide +kernel
theorem q_7_202 : Cond.constant "BeaconDelayModel" 361 (268435456 : Int32) ∈ gw := gw_7 (i := 202) (by decide +kernel) rfl
theorem dX10_farBy_28 : decode cX10_farBy 28 = .ok (.ldc_w 361, 3) := by decide +kernel
theorem dX10_farBy_31 : decode cX10_farBy 31 = .ok (.goto 11, 3) := by decide +kernel
theorem dX10_farBy_42 : decode cX10_farBy 42 = .ok (.ireturn, 1) := by decide +kernel
theorem dX10_farBy_16 : decode cX10_farBy 16 = .ok (.aload_n 0, 1) := by decide +kernel
theorem q_6_10 : Cond.fieldLink "BeaconDelayModel" 52 "BeaconDelayModel" "far" "[I" ∈ gw := gw_6 (i := 10) (by decide +kernel) rfl
theorem dX10_farBy_17 : decode cX10_farBy 17 = .ok (.getfield 52, 3) := by decide +kernel
theorem dX10_farBy_20 : decode cX10_farBy 20 = .ok (.iload_n 3, 1) := by decide +kernel
theorem dX10_farBy_21 : decode cX10_farBy 21 = .ok (.iaload, 1) := by decide +kernel
theorem dX10_farBy_22 : decode cX10_farBy 22 = .ok (.ldc_w 361, 3) := by decide +kernel
theorem dX10_farBy_25 : decode cX10_farBy 25 = .ok (.if_icmp .ne 9, 3) := by decide +kernel
theorem dX10_farBy_34 : decode cX10_farBy 34 = .ok (.aload_n 0, 1) := by decide +kernel
theorem dX10_farBy_35 : decode cX10_farBy 35 = .ok (.getfield 52, 3) := by decide +kernel
theorem dX10_farBy_38 : decode cX10_farBy 38 = .ok (.iload_n 3, 1) := by decide +kernel
theorem dX10_farBy_39 : decode cX10_farBy 39 = .ok (.iaload, 1) := by decide +kernel
theorem dX10_farBy_40 : decode cX10_farBy 40 = .ok (.iconst 1, 1) := by decide +kernel
theorem dX10_farBy_41 : decode cX10_farBy 41 = .ok (.iadd, 1) := by decide +kernel
set_option maxHeartbeats 4000000 in
set_option maxRecDepth 100000 in
theorem k_X10_farBy_0 (l : Launch) (V : GV) (z : Nat → Nat) (a1 : Int32) (a2 : Int32) (fz26 : Nat → Int32) (fz25 : Nat → Int32) (pz0_0 : Int32) (pz0_5 : Int32) (pz0_6 : Int32) (pz0_7 : Int32) (pz0_8 : Int32) (pz0_9 : Int32) (pz0_10 : Int32) (pz0_11 : Int32) (pz0_12 : Int32) (pz0_13 : Int32) (pz0_14 : Int32) (pz0_18 : Int32) (pz0_19 : Int32) (pz0_22 : Int32) (pz0_23 : Int32) (pz0_29 : Int32) (ba1 : iv 0 9999 a1) (ba2 : iv 0 3 a2) (tfz26 : ∀ j, iv 0 268435456 (fz26 j)) (tfz25 : ∀ j, iv (-1) 9999 (fz25 j)) (bpz0_5 : iv 0 900 pz0_5) (bpz0_6 : iv 0 900 pz0_6) (bpz0_7 : iv 0 900 pz0_7) (bpz0_8 : iv 0 900 pz0_8) (bpz0_10 : iv 0 999 pz0_10) (bpz0_11 : iv 0 4 pz0_11) (bpz0_12 : iv 0 900 pz0_12) (bpz0_13 : iv 0 4 pz0_13) (bpz0_14 : iv (-1) 900 pz0_14) (bpz0_18 : iv 0 2 pz0_18) (bpz0_22 : iv 0 9999 pz0_22) (bpz0_29 : iv 0 10000 pz0_29) : Ct l V yX10_farBy (.code yX10_farBy cX10_farBy 4 (some .int)) 1 [.ref (z 0), .int a1, .int a2] [(z 26, aI V 10000 fz26), (z 25, aI V 40000 fz25), (z 0, .inr (10, mo z pz0_0 pz0_5 pz0_6 pz0_7 pz0_8 pz0_9 pz0_10 pz0_11 pz0_12 pz0_13 pz0_14 pz0_18 pz0_19 pz0_22 pz0_23 pz0_29))] 0 0 (QI V (fun (r : Int32) (w : va_W) => iv 1 268435456 r ∧ r = fN fz25 fz26 (a1 : Int32).toNatClampNeg (a2 : Int32).toNatClampNeg ∧ w = [(z 26, aI V 10000 fz26), (z 25, aI V 40000 fz25), (z 0, .inr (10, mo z pz0_0 pz0_5 pz0_6 pz0_7 pz0_8 pz0_9 pz0_10 pz0_11 pz0_12 pz0_13 pz0_14 pz0_18 pz0_19 pz0_22 pz0_23 pz0_29))])) := by
  refine Ct.of (by decide) (Nat.le_of_ble_eq_true rfl) (fun p e s m below meth c A ls hx hb hr hml hown hlk hnm hg hP hK hD hE hA hS hl => ?_)
  have hl : lv_has ls 4 [(0, .ref (z 0)), (1, .int a1), (2, .int a2)] := hl
  refine lv_aload_n hx hb dX10_farBy_0 rfl (lv_at hl 0 rfl) ?_
  refine va_get (ci := 10) (v := .ref (z 25)) (C := RX10) (T := TX10) (N := 40) hx hb hg inX10 hown hK hP 2 rfl rfl 25 (by decide) (hg _ q_6_9) (fun _ h9 => h9) rfl dX10_farBy_1 ?_
  refine lv_iconst (v := 4) hx hb dX10_farBy_4 (by decide) ?_
  refine lv_iload_n hx hb dX10_farBy_5 rfl (lv_at hl 1 rfl) ?_
  refine lv_imul hx hb dX10_farBy_6 ?_
  refine lv_topi (fun x_1 ex_1 => ?_)
  have bx_1 : iv 0 39996 x_1 := by rw [ex_1]; exact iv_cmul (iv_c (4 : Int32) (a := 4) (b := 4) (by decide)) ba1 (by decide)
  refine lv_iload_n hx hb dX10_farBy_7 rfl (lv_at hl 2 rfl) ?_
  refine lv_iadd hx hb dX10_farBy_8 ?_
  refine lv_topi (fun x_2 ex_2 => ?_)
  have bx_2 : iv 0 39999 x_2 := by rw [ex_2]; exact iv_add bx_1 ba2 (by decide)
  refine va_iald hx hb hK hP 1 0 rfl rfl (iv_in bx_2 (by decide)) dX10_farBy_9 ?_
  refine lv_topi (fun x_3 ex_3 => ?_)
  have bx_3 : iv (-1) 9999 x_3 := by rw [ex_3]; exact tfz25 _
  refine lv_istore_n (lv' := [(3, .int x_3), (0, .ref (z 0)), (1, .int a1), (2, .int a2)]) hx hb dX10_farBy_10 rfl hl (by decide) rfl (fun ls hl => ?_)
  refine lv_iload_n hx hb dX10_farBy_11 rfl (lv_at hl 0 rfl) ?_
  refine lv_iconst (v := (-1)) hx hb dX10_farBy_12 (by decide) ?_
  refine lv_icmp_eq (tgt := 28) hx hb dX10_farBy_13 (by decide) (fun c_4 => ?_) (fun c_4 => ?_)
  · have b_5 : iv (-1) (-1) x_3 := iv_q c_4 (iv_c ((-1) : Int32) (a := (-1)) (b := (-1)) (by decide))
    refine lv_ldcw (v := 268435456) hx hb hown (hg _ q_7_202) dX10_farBy_28 ?_
    refine lv_goto (tgt := 42) hx hb dX10_farBy_31 (by decide) ?_
    exact fiI hx hb hr hlk hK hP hD hS dX10_farBy_42 (Nat.le_of_ble_eq_true rfl) (Nat.le_of_ble_eq_true rfl) (⟨(iv_c (268435456 : Int32) (by decide)), (fN_a ba1 ba2 (by decide) ex_1 ex_2 ex_3 c_4), rfl⟩)
  · have b_6 : iv 0 9999 x_3 := iv_n0 c_4 bx_3 (iv_c ((-1) : Int32) (a := (-1)) (b := (-1)) (by decide)) (by decide)
    refine lv_aload_n hx hb dX10_farBy_16 rfl (lv_at hl 1 rfl) ?_
    refine va_get (ci := 10) (v := .ref (z 26)) (C := RX10) (T := TX10) (N := 40) hx hb hg inX10 hown hK hP 2 rfl rfl 26 (by decide) (hg _ q_6_10) (fun _ h9 => h9) rfl dX10_farBy_17 ?_
    refine lv_iload_n hx hb dX10_farBy_20 rfl (lv_at hl 0 rfl) ?_
    refine va_iald hx hb hK hP 0 0 rfl rfl (iv_in b_6 (by decide)) dX10_farBy_21 ?_
    refine lv_topi (fun x_7 ex_7 => ?_)
    have bx_7 : iv 0 268435456 x_7 := by rw [ex_7]; exact tfz26 _
    refine lv_ldcw (v := 268435456) hx hb hown (hg _ q_7_202) dX10_farBy_22 ?_
    refine lv_icmp_ne (tgt := 34) hx hb dX10_farBy_25 (by decide) (fun c_8 => ?_) (fun c_8 => ?_)
    · have b_9 : iv 0 268435455 x_7 := iv_n1 c_8 bx_7 (iv_c (268435456 : Int32) (a := 268435456) (b := 268435456) (by decide)) (by decide)
      refine lv_aload_n hx hb dX10_farBy_34 rfl (lv_at hl 1 rfl) ?_
      refine va_get (ci := 10) (v := .ref (z 26)) (C := RX10) (T := TX10) (N := 40) hx hb hg inX10 hown hK hP 2 rfl rfl 26 (by decide) (hg _ q_6_10) (fun _ h9 => h9) rfl dX10_farBy_35 ?_
      refine lv_iload_n hx hb dX10_farBy_38 rfl (lv_at hl 0 rfl) ?_
      refine va_iald hx hb hK hP 0 0 rfl rfl (iv_in b_6 (by decide)) dX10_farBy_39 ?_
      refine tpi (y := x_7) ex_7.symm ?_
      refine lv_iconst (v := 1) hx hb dX10_farBy_40 (by decide) ?_
      refine lv_iadd hx hb dX10_farBy_41 ?_
      refine lv_topi (fun x_10 ex_10 => ?_)
      have bx_10 : iv 1 268435456 x_10 := by rw [ex_10]; exact iv_add b_9 (iv_c (1 : Int32) (a := 1) (b := 1) (by decide)) (by decide)
      exact fiI hx hb hr hlk hK hP hD hS dX10_farBy_42 (Nat.le_of_ble_eq_true rfl) (Nat.le_of_ble_eq_true rfl) (⟨bx_10, (fN_c ba1 ba2 (by decide) ex_1 ex_2 ex_3 ex_7 c_4 c_8 ex_10), rfl⟩)
    · have b_11 : iv 268435456 268435456 x_7 := iv_q c_8 (iv_c (268435456 : Int32) (a := 268435456) (b := 268435456) (by decide))
      refine lv_ldcw (v := 268435456) hx hb hown (hg _ q_7_202) dX10_farBy_28 ?_
      refine lv_goto (tgt := 42) hx hb dX10_farBy_31 (by decide) ?_
      exact fiI hx hb hr hlk hK hP hD hS dX10_farBy_42 (Nat.le_of_ble_eq_true rfl) (Nat.le_of_ble_eq_true rfl) (⟨(iv_c (268435456 : Int32) (by decide)), (fN_b ba1 ba2 (by decide) ex_1 ex_2 ex_3 ex_7 c_8), rfl⟩)
theorem dX10_laysFar_0 : decode cX10_laysFar 0 = .ok (.aload_n 0, 1) := by decide +kernel
theorem q_7_197 : Cond.code yX10_laysStands prog_12_method_83_code 4 none ∈ gw := gw_7 (i := 197) (rfl) rfl
theorem q_7_196 : Cond.instanceMethod yX10_laysStands ∈ gw := gw_7 (i := 196) (by decide +kernel) rfl
theorem q_s_105 : Cond.selects "BeaconDelayModel" yX10_laysStands yX10_laysStands ∈ gw := gw_s (i := 105) (by decide +kernel) rfl
theorem mt_X10_laysStands : MtV yX10_laysStands cX10_laysStands 4 none 0 := ⟨⟨q_7_197, q_1_9, by decide +kernel, by decide +kernel, by decide +kernel⟩, q_7_196, q_s_105⟩
theorem q_7_194 : Cond.methodLink "BeaconDelayModel" 362 yX10_laysStands ∈ gw := gw_7 (i := 194) (by decide +kernel) rfl
theorem dX10_laysFar_1 : decode cX10_laysFar 1 = .ok (.invokevirtual 362, 3) := by decide +kernel
theorem dX10_laysFar_4 : decode cX10_laysFar 4 = .ok (.iconst 0, 1) := by decide +kernel
theorem dX10_laysFar_5 : decode cX10_laysFar 5 = .ok (.istore_n 3, 1) := by decide +kernel
theorem dX10_laysFar_6 : decode cX10_laysFar 6 = .ok (.iload_n 3, 1) := by decide +kernel
theorem dX10_laysFar_7 : decode cX10_laysFar 7 = .ok (.aload_n 0, 1) := by decide +kernel
theorem dX10_laysFar_8 : decode cX10_laysFar 8 = .ok (.getfield 355, 3) := by decide +kernel
theorem dX10_laysFar_11 : decode cX10_laysFar 11 = .ok (.if_icmp .ge 41, 3) := by decide +kernel
theorem dX10_laysFar_52 : decode cX10_laysFar 52 = .ok (.iconst 1, 1) := by decide +kernel
theorem dX10_laysFar_53 : decode cX10_laysFar 53 = .ok (.istore_n 3, 1) := by decide +kernel
theorem dX10_laysFar_54 : decode cX10_laysFar 54 = .ok (.iload_n 3, 1) := by decide +kernel
theorem dX10_laysFar_55 : decode cX10_laysFar 55 = .ok (.ifCond .eq 115, 3) := by decide +kernel
theorem dX10_laysFar_170 : decode cX10_laysFar 170 = .ok (.aload_n 0, 1) := by decide +kernel
theorem dX10_laysFar_171 : decode cX10_laysFar 171 = .ok (.getfield 52, 3) := by decide +kernel
theorem dX10_laysFar_174 : decode cX10_laysFar 174 = .ok (.aload_n 0, 1) := by decide +kernel
theorem dX10_laysFar_175 : decode cX10_laysFar 175 = .ok (.invokevirtual 269, 3) := by decide +kernel
theorem dX10_laysFar_178 : decode cX10_laysFar 178 = .ok (.iaload, 1) := by decide +kernel
theorem dX10_laysFar_179 : decode cX10_laysFar 179 = .ok (.ireturn, 1) := by decide +kernel
theorem dX10_laysFar_58 : decode cX10_laysFar 58 = .ok (.iconst 0, 1) := by decide +kernel
theorem dX10_laysFar_59 : decode cX10_laysFar 59 = .ok (.istore_n 3, 1) := by decide +kernel
theorem dX10_laysFar_60 : decode cX10_laysFar 60 = .ok (.aload_n 0, 1) := by decide +kernel
theorem dX10_laysFar_61 : decode cX10_laysFar 61 = .ok (.getfield 355, 3) := by decide +kernel
theorem dX10_laysFar_64 : decode cX10_laysFar 64 = .ok (.iconst 1, 1) := by decide +kernel
theorem dX10_laysFar_65 : decode cX10_laysFar 65 = .ok (.isub, 1) := by decide +kernel
theorem dX10_laysFar_66 : decode cX10_laysFar 66 = .ok (.istore 4, 2) := by decide +kernel
theorem dX10_laysFar_68 : decode cX10_laysFar 68 = .ok (.iload 4, 2) := by decide +kernel
theorem dX10_laysFar_70 : decode cX10_laysFar 70 = .ok (.ifCond .lt 97, 3) := by decide +kernel
theorem dX10_laysFar_167 : decode cX10_laysFar 167 = .ok (.goto (-113), 3) := by decide +kernel
theorem dX10_laysFar_73 : decode cX10_laysFar 73 = .ok (.iconst 0, 1) := by decide +kernel
theorem dX10_laysFar_74 : decode cX10_laysFar 74 = .ok (.istore 5, 2) := by decide +kernel
theorem dX10_laysFar_76 : decode cX10_laysFar 76 = .ok (.iload 5, 2) := by decide +kernel
theorem dX10_laysFar_78 : decode cX10_laysFar 78 = .ok (.iconst 4, 1) := by decide +kernel
theorem dX10_laysFar_79 : decode cX10_laysFar 79 = .ok (.if_icmp .ge 82, 3) := by decide +kernel
theorem dX10_laysFar_161 : decode cX10_laysFar 161 = .ok (.iinc 4 (-1), 3) := by decide +kernel
theorem dX10_laysFar_164 : decode cX10_laysFar 164 = .ok (.goto (-96), 3) := by decide +kernel
theorem dX10_laysFar_82 : decode cX10_laysFar 82 = .ok (.aload_n 0, 1) := by decide +kernel
theorem dX10_laysFar_83 : decode cX10_laysFar 83 = .ok (.getfield 52, 3) := by decide +kernel
theorem dX10_laysFar_86 : decode cX10_laysFar 86 = .ok (.aload_n 0, 1) := by decide +kernel
theorem dX10_laysFar_87 : decode cX10_laysFar 87 = .ok (.getfield 45, 3) := by decide +kernel
theorem dX10_laysFar_90 : decode cX10_laysFar 90 = .ok (.iload 4, 2) := by decide +kernel
theorem dX10_laysFar_92 : decode cX10_laysFar 92 = .ok (.iaload, 1) := by decide +kernel
theorem dX10_laysFar_93 : decode cX10_laysFar 93 = .ok (.iaload, 1) := by decide +kernel
theorem dX10_laysFar_94 : decode cX10_laysFar 94 = .ok (.ifCond .le 67, 3) := by decide +kernel
theorem dX10_laysFar_97 : decode cX10_laysFar 97 = .ok (.aload_n 0, 1) := by decide +kernel
theorem dX10_laysFar_98 : decode cX10_laysFar 98 = .ok (.aload_n 0, 1) := by decide +kernel
theorem dX10_laysFar_99 : decode cX10_laysFar 99 = .ok (.getfield 45, 3) := by decide +kernel
theorem dX10_laysFar_102 : decode cX10_laysFar 102 = .ok (.iload 4, 2) := by decide +kernel
theorem dX10_laysFar_104 : decode cX10_laysFar 104 = .ok (.iaload, 1) := by decide +kernel
theorem dX10_laysFar_105 : decode cX10_laysFar 105 = .ok (.iload 5, 2) := by decide +kernel
theorem q_7_206 : Cond.code yX10_farBy prog_12_method_84_code 4 (some FieldType.int) ∈ gw := gw_7 (i := 206) (rfl) rfl
theorem q_7_205 : Cond.instanceMethod yX10_farBy ∈ gw := gw_7 (i := 205) (by decide +kernel) rfl
theorem q_s_107 : Cond.selects "BeaconDelayModel" yX10_farBy yX10_farBy ∈ gw := gw_s (i := 107) (by decide +kernel) rfl
theorem mt_X10_farBy : MtV yX10_farBy cX10_farBy 4 (some .int) 2 := ⟨⟨q_7_206, q_1_9, by decide +kernel, by decide +kernel, by decide +kernel⟩, q_7_205, q_s_107⟩
theorem q_7_203 : Cond.methodLink "BeaconDelayModel" 365 yX10_farBy ∈ gw := gw_7 (i := 203) (by decide +kernel) rfl
theorem dX10_laysFar_107 : decode cX10_laysFar 107 = .ok (.invokevirtual 365, 3) := by decide +kernel
theorem dX10_laysFar_110 : decode cX10_laysFar 110 = .ok (.aload_n 0, 1) := by decide +kernel
theorem dX10_laysFar_111 : decode cX10_laysFar 111 = .ok (.getfield 52, 3) := by decide +kernel
theorem dX10_laysFar_114 : decode cX10_laysFar 114 = .ok (.aload_n 0, 1) := by decide +kernel
theorem dX10_laysFar_115 : decode cX10_laysFar 115 = .ok (.getfield 45, 3) := by decide +kernel
theorem dX10_laysFar_118 : decode cX10_laysFar 118 = .ok (.iload 4, 2) := by decide +kernel
theorem dX10_laysFar_120 : decode cX10_laysFar 120 = .ok (.iaload, 1) := by decide +kernel
theorem dX10_laysFar_121 : decode cX10_laysFar 121 = .ok (.iaload, 1) := by decide +kernel
theorem dX10_laysFar_122 : decode cX10_laysFar 122 = .ok (.if_icmp .lt 6, 3) := by decide +kernel
theorem dX10_laysFar_128 : decode cX10_laysFar 128 = .ok (.aload_n 0, 1) := by decide +kernel
theorem dX10_laysFar_129 : decode cX10_laysFar 129 = .ok (.getfield 52, 3) := by decide +kernel
theorem dX10_laysFar_132 : decode cX10_laysFar 132 = .ok (.aload_n 0, 1) := by decide +kernel
theorem dX10_laysFar_133 : decode cX10_laysFar 133 = .ok (.getfield 45, 3) := by decide +kernel
theorem dX10_laysFar_136 : decode cX10_laysFar 136 = .ok (.iload 4, 2) := by decide +kernel
theorem dX10_laysFar_138 : decode cX10_laysFar 138 = .ok (.iaload, 1) := by decide +kernel
theorem dX10_laysFar_139 : decode cX10_laysFar 139 = .ok (.aload_n 0, 1) := by decide +kernel
theorem dX10_laysFar_140 : decode cX10_laysFar 140 = .ok (.aload_n 0, 1) := by decide +kernel
theorem dX10_laysFar_141 : decode cX10_laysFar 141 = .ok (.getfield 45, 3) := by decide +kernel
theorem dX10_laysFar_144 : decode cX10_laysFar 144 = .ok (.iload 4, 2) := by decide +kernel
theorem dX10_laysFar_146 : decode cX10_laysFar 146 = .ok (.iaload, 1) := by decide +kernel
theorem dX10_laysFar_147 : decode cX10_laysFar 147 = .ok (.iload 5, 2) := by decide +kernel
theorem dX10_laysFar_149 : decode cX10_laysFar 149 = .ok (.invokevirtual 365, 3) := by decide +kernel
theorem dX10_laysFar_152 : decode cX10_laysFar 152 = .ok (.iastore, 1) := by decide +kernel
theorem dX10_laysFar_153 : decode cX10_laysFar 153 = .ok (.iconst 1, 1) := by decide +kernel
theorem dX10_laysFar_154 : decode cX10_laysFar 154 = .ok (.istore_n 3, 1) := by decide +kernel
theorem dX10_laysFar_155 : decode cX10_laysFar 155 = .ok (.iinc 5 1, 3) := by decide +kernel
theorem dX10_laysFar_158 : decode cX10_laysFar 158 = .ok (.goto (-82), 3) := by decide +kernel
theorem dX10_laysFar_125 : decode cX10_laysFar 125 = .ok (.goto 30, 3) := by decide +kernel
theorem dX10_laysFar_14 : decode cX10_laysFar 14 = .ok (.aload_n 0, 1) := by decide +kernel
theorem dX10_laysFar_15 : decode cX10_laysFar 15 = .ok (.getfield 52, 3) := by decide +kernel
theorem dX10_laysFar_18 : decode cX10_laysFar 18 = .ok (.aload_n 0, 1) := by decide +kernel
theorem dX10_laysFar_19 : decode cX10_laysFar 19 = .ok (.getfield 45, 3) := by decide +kernel
theorem dX10_laysFar_22 : decode cX10_laysFar 22 = .ok (.iload_n 3, 1) := by decide +kernel
theorem dX10_laysFar_23 : decode cX10_laysFar 23 = .ok (.iaload, 1) := by decide +kernel
theorem dX10_laysFar_24 : decode cX10_laysFar 24 = .ok (.aload_n 0, 1) := by decide +kernel
theorem dX10_laysFar_25 : decode cX10_laysFar 25 = .ok (.getfield 45, 3) := by decide +kernel
theorem dX10_laysFar_28 : decode cX10_laysFar 28 = .ok (.iload_n 3, 1) := by decide +kernel
theorem dX10_laysFar_29 : decode cX10_laysFar 29 = .ok (.iaload, 1) := by decide +kernel
theorem dX10_laysFar_30 : decode cX10_laysFar 30 = .ok (.iload_n 1, 1) := by decide +kernel
theorem dX10_laysFar_31 : decode cX10_laysFar 31 = .ok (.invokestatic 231, 3) := by decide +kernel
theorem dX10_laysFar_34 : decode cX10_laysFar 34 = .ok (.iload_n 2, 1) := by decide +kernel
theorem dX10_laysFar_35 : decode cX10_laysFar 35 = .ok (.if_icmp .ne 7, 3) := by decide +kernel
theorem dX10_laysFar_42 : decode cX10_laysFar 42 = .ok (.ldc_w 361, 3) := by decide +kernel
theorem dX10_laysFar_45 : decode cX10_laysFar 45 = .ok (.iastore, 1) := by decide +kernel
theorem dX10_laysFar_46 : decode cX10_laysFar 46 = .ok (.iinc 3 1, 3) := by decide +kernel
theorem dX10_laysFar_49 : decode cX10_laysFar 49 = .ok (.goto (-43), 3) := by decide +kernel
theorem dX10_laysFar_38 : decode cX10_laysFar 38 = .ok (.iconst 0, 1) := by decide +kernel
theorem dX10_laysFar_39 : decode cX10_laysFar 39 = .ok (.goto 6, 3) := by decide +kernel
set_option maxHeartbeats 4000000 in
set_option maxRecDepth 100000 in
theorem k_X10_laysFar_0 (l : Launch) (V : GV) (z : Nat → Nat) (a1 : Int32) (a2 : Int32) (fz15 : Nat → Int32) (fz16 : Nat → Int32) (fz24 : Nat → Int32) (fz25 : Nat → Int32) (fz26 : Nat → Int32) (fz28 : Nat → Int32) (pz0_0 : Int32) (pz0_5 : Int32) (pz0_6 : Int32) (pz0_7 : Int32) (pz0_8 : Int32) (pz0_9 : Int32) (pz0_10 : Int32) (pz0_11 : Int32) (pz0_12 : Int32) (pz0_13 : Int32) (pz0_14 : Int32) (pz0_18 : Int32) (pz0_19 : Int32) (pz0_22 : Int32) (pz0_23 : Int32) (pz0_29 : Int32) (fz1 : Nat → Int32) (ba1 : iv 0 3 a1) (tfz16 : ivT tW fz16) (tfz24 : ∀ j, iv 0 9999 (fz24 j)) (tfz25 : ∀ j, iv (-1) 9999 (fz25 j)) (tfz26 : ∀ j, iv 0 268435456 (fz26 j)) (bpz0_5 : iv 0 900 pz0_5) (bpz0_6 : iv 0 900 pz0_6) (bpz0_7 : iv 0 900 pz0_7) (bpz0_8 : iv 0 900 pz0_8) (bpz0_10 : iv 0 999 pz0_10) (bpz0_11 : iv 0 4 pz0_11) (bpz0_12 : iv 0 900 pz0_12) (bpz0_13 : iv 0 4 pz0_13) (bpz0_14 : iv (-1) 900 pz0_14) (bpz0_18 : iv 0 2 pz0_18) (bpz0_22 : iv 0 9999 pz0_22) (bpz0_29 : iv 0 10000 pz0_29) (tfz1 : ivT tA fz1) (hf0 : RW fz1) : Ct l V yX10_laysFar (.code yX10_laysFar cX10_laysFar 6 (some .int)) 6 [.ref (z 0), .int a1, .int a2] [(z 15, aI V 900 fz15), (z 16, aI V 6 fz16), (z 24, aI V 10000 fz24), (z 25, aI V 40000 fz25), (z 26, aI V 10000 fz26), (z 28, aZ V 10000 fz28), (z 0, .inr (10, mo z pz0_0 pz0_5 pz0_6 pz0_7 pz0_8 pz0_9 pz0_10 pz0_11 pz0_12 pz0_13 pz0_14 pz0_18 pz0_19 pz0_22 pz0_23 pz0_29)), (z 1, aI V 3075 fz1)] 0 0 (QI V (fun (r : Int32) (w : va_W) => ∃ (g0 : Nat → Int32) (g1 : Nat → Int32) (g2 : Nat → Int32) (g3 : Nat → Int32) (g4 : Nat → Int32) (g5 : Nat → Int32) (v6 : Int32), (ivT tW g1) ∧ (∀ j, iv 0 9999 (g2 j)) ∧ (∀ j, iv (-1) 9999 (g3 j)) ∧ (∀ j, iv 0 268435456 (g4 j)) ∧ iv 0 10000 v6 ∧ iv 0 268435456 r ∧ (RW fz1) ∧ (SL v6 g2 g3) ∧ (inS v6 g2 (snF fz1).toNatClampNeg) ∧ (FI1 v6 g2 g3 g4) ∧ (FI2 v6 g2 g3 g4) ∧ w = [(z 15, aI V 900 g0), (z 16, aI V 6 g1), (z 24, aI V 10000 g2), (z 25, aI V 40000 g3), (z 26, aI V 10000 g4), (z 28, aZ V 10000 g5), (z 0, .inr (10, mo z pz0_0 pz0_5 pz0_6 pz0_7 pz0_8 pz0_9 pz0_10 pz0_11 pz0_12 pz0_13 pz0_14 pz0_18 pz0_19 pz0_22 pz0_23 v6)), (z 1, aI V 3075 fz1)])) := by
  refine Ct.of (by decide) (Nat.le_of_ble_eq_true rfl) (fun p e s m below meth c A ls hx hb hr hml hown hlk hnm hg hP hK hD hE hA hS hl => ?_)
  have hl : lv_has ls 6 [(0, .ref (z 0)), (1, .int a1), (2, .int a2)] := hl
  refine lv_aload_n hx hb dX10_laysFar_0 rfl (lv_at hl 0 rfl) ?_
  refine jnV (wr := [(z 26, aI V 10000 fz26)]) (rnV (rest := []) ⟨hx, hb, hml, hown, hg⟩ (k_X10_laysStands_0 l V z fz15 fz16 fz24 fz25 fz28 pz0_0 pz0_5 pz0_6 pz0_7 pz0_8 pz0_9 pz0_10 pz0_11 pz0_12 pz0_13 pz0_14 pz0_18 pz0_19 pz0_22 pz0_23 pz0_29 fz1 tfz16 tfz24 tfz25 bpz0_5 bpz0_6 bpz0_7 bpz0_8 bpz0_10 bpz0_11 bpz0_12 bpz0_13 bpz0_14 bpz0_18 bpz0_22 bpz0_29 tfz1 hf0) mt_X10_laysStands q_7_194 ⟨Nat.le_of_ble_eq_true rfl, Nat.le_of_ble_eq_true rfl⟩ hK hP hD hS hA hE [0, 1, 2, 3, 5, 6, 7] rfl rfl 6 rfl rfl rfl rfl hl.1 rfl (Nat.le_of_ble_eq_true rfl) dX10_laysFar_1 ⟨Nat.le_of_ble_eq_true rfl, Nat.le_of_ble_eq_true rfl⟩) hP hD hS hA [0, 1, 2, 3, 5, 6, 7] [4] rfl rfl rfl (by decide) (fun  w H locs hw hP hD hS => ?_)
  obtain ⟨f_1, f_2, f_3, f_4, f_5, v_6, tf_2, tf_3, tf_4, bv_6, g_7, g_8, g_9, rfl⟩ := hw
  have hP : va_P V.1 vwCl [(z 26, aI V 10000 fz26), (z 15, aI V 900 f_1), (z 16, aI V 6 f_2), (z 24, aI V 10000 f_3), (z 25, aI V 40000 f_4), (z 28, aZ V 10000 f_5), (z 0, .inr (10, mo z pz0_0 pz0_5 pz0_6 pz0_7 pz0_8 pz0_9 pz0_10 pz0_11 pz0_12 pz0_13 pz0_14 pz0_18 pz0_19 pz0_22 pz0_23 v_6)), (z 1, aI V 3075 fz1)] H := hP
  have hD := cpD hP hD
  refine lv_iconst (v := 0) hx hb dX10_laysFar_4 (by decide) ?_
  refine lv_istore_n (lv' := [(3, .int 0), (0, .ref (z 0)), (1, .int a1), (2, .int a2)]) hx hb dX10_laysFar_5 rfl hl (by decide) rfl (fun ls hl => ?_)
  refine loopF (X := fun (n_12 : Nat) (H : Heap) (locs : List Loc) (ls : Array Slot) => ∃ (u_10 : Int32) (f_11 : Nat → Int32), (iv 0 10000 u_10) ∧ (∀ j, iv 0 268435456 (f_11 j)) ∧ (ini v_6 u_10 f_3 f_11) ∧ (RW fz1) ∧ n_12 = (2147483647 - (u_10 : Int32).toInt).toNat ∧ va_P V.1 vwCl [(z 26, aI V 10000 f_11), (z 15, aI V 900 f_1), (z 16, aI V 6 f_2), (z 24, aI V 10000 f_3), (z 25, aI V 40000 f_4), (z 28, aZ V 10000 f_5), (z 0, .inr (10, mo z pz0_0 pz0_5 pz0_6 pz0_7 pz0_8 pz0_9 pz0_10 pz0_11 pz0_12 pz0_13 pz0_14 pz0_18 pz0_19 pz0_22 pz0_23 v_6)), (z 1, aI V 3075 fz1)] H ∧ va_D A [(z 26, aI V 10000 f_11), (z 15, aI V 900 f_1), (z 16, aI V 6 f_2), (z 24, aI V 10000 f_3), (z 25, aI V 40000 f_4), (z 28, aZ V 10000 f_5), (z 0, .inr (10, mo z pz0_0 pz0_5 pz0_6 pz0_7 pz0_8 pz0_9 pz0_10 pz0_11 pz0_12 pz0_13 pz0_14 pz0_18 pz0_19 pz0_22 pz0_23 v_6)), (z 1, aI V 3075 fz1)] ∧ va_S A s.heap H locs ∧ lv_has ls 6 [(3, .int u_10), (0, .ref (z 0)), (1, .int a1), (2, .int a2)]) (g := fun ls => F0 m 6 ls []) (fun n_12 H locs ls hX ihn_12 => ?_) _ ⟨0, fz26, (iv_c (0 : Int32) (by decide)), tfz26, (ini_0 (by decide)), g_7, rfl, hP, hD, hS, lv_sub hl [0, 1, 2, 3] rfl⟩
  obtain ⟨u_10, f_11, bu_10, tf_11, inn_12_0, inn_12_1, en_12, hP, hD, hS, hl⟩ := hX
  refine lv_iload_n hx hb dX10_laysFar_6 rfl (lv_at hl 0 rfl) ?_
  refine lv_aload_n hx hb dX10_laysFar_7 rfl (lv_at hl 1 rfl) ?_
  refine va_get (ci := 10) (v := .int v_6) (C := RX10) (T := TX10) (N := 40) hx hb hg inX10 hown hK hP 6 rfl rfl 29 (by decide) (hg _ q_6_13) (fun _ h9 => h9) rfl dX10_laysFar_8 ?_
  refine lv_icmp_ge (tgt := 52) hx hb dX10_laysFar_11 (by decide) (fun c_13 => ?_) (fun c_13 => ?_)
  · refine lv_iconst (v := 1) hx hb dX10_laysFar_52 (by decide) ?_
    refine lv_istore_n (lv' := [(3, .int 1), (0, .ref (z 0)), (1, .int a1), (2, .int a2)]) hx hb dX10_laysFar_53 rfl hl (by decide) rfl (fun ls hl => ?_)
    refine loopF (X := fun (n_16 : Nat) (H : Heap) (locs : List Loc) (ls : Array Slot) => ∃ (u_14 : Int32) (f_15 : Nat → Int32), (iv 0 1 u_14) ∧ (∀ j, iv 0 268435456 (f_15 j)) ∧ (FI1 v_6 f_3 f_4 f_15) ∧ (u_14 = 0 → FI2 v_6 f_3 f_4 f_15) ∧ (RW fz1) ∧ n_16 = 2 * sm f_15 10000 + (u_14).toNatClampNeg ∧ va_P V.1 vwCl [(z 26, aI V 10000 f_15), (z 15, aI V 900 f_1), (z 16, aI V 6 f_2), (z 24, aI V 10000 f_3), (z 25, aI V 40000 f_4), (z 28, aZ V 10000 f_5), (z 0, .inr (10, mo z pz0_0 pz0_5 pz0_6 pz0_7 pz0_8 pz0_9 pz0_10 pz0_11 pz0_12 pz0_13 pz0_14 pz0_18 pz0_19 pz0_22 pz0_23 v_6)), (z 1, aI V 3075 fz1)] H ∧ va_D A [(z 26, aI V 10000 f_15), (z 15, aI V 900 f_1), (z 16, aI V 6 f_2), (z 24, aI V 10000 f_3), (z 25, aI V 40000 f_4), (z 28, aZ V 10000 f_5), (z 0, .inr (10, mo z pz0_0 pz0_5 pz0_6 pz0_7 pz0_8 pz0_9 pz0_10 pz0_11 pz0_12 pz0_13 pz0_14 pz0_18 pz0_19 pz0_22 pz0_23 v_6)), (z 1, aI V 3075 fz1)] ∧ va_S A s.heap H locs ∧ lv_has ls 6 [(3, .int u_14), (0, .ref (z 0)), (1, .int a1), (2, .int a2)]) (g := fun ls => F0 m 54 ls []) (fun n_16 H locs ls hX ihn_16 => ?_) _ ⟨1, f_11, (iv_c (1 : Int32) (by decide)), tf_11, (FI1_0 inn_12_0 (Int32.not_lt.mpr c_13)), (fun q9 => absurd q9 (by decide)), inn_12_1, rfl, hP, hD, hS, lv_sub hl [0, 1, 2, 3] rfl⟩
    obtain ⟨u_14, f_15, bu_14, tf_15, inn_16_0, inn_16_1, inn_16_2, en_16, hP, hD, hS, hl⟩ := hX
    refine lv_iload_n hx hb dX10_laysFar_54 rfl (lv_at hl 0 rfl) ?_
    refine lv_if_eq (tgt := 170) hx hb dX10_laysFar_55 (by decide) (fun c_17 => ?_) (fun c_17 => ?_)
    · have b_18 : iv 0 0 u_14 := iv_q c_17 (iv_c (0 : Int32) (a := 0) (b := 0) (by decide))
      refine lv_aload_n hx hb dX10_laysFar_170 rfl (lv_at hl 1 rfl) ?_
      refine va_get (ci := 10) (v := .ref (z 26)) (C := RX10) (T := TX10) (N := 40) hx hb hg inX10 hown hK hP 6 rfl rfl 26 (by decide) (hg _ q_6_10) (fun _ h9 => h9) rfl dX10_laysFar_171 ?_
      refine lv_aload_n hx hb dX10_laysFar_174 rfl (lv_at hl 1 rfl) ?_
      refine jnI (wr := [(z 26, aI V 10000 f_15), (z 15, aI V 900 f_1), (z 16, aI V 6 f_2), (z 24, aI V 10000 f_3), (z 25, aI V 40000 f_4), (z 28, aZ V 10000 f_5)]) (rnV (rest := [.ref (z 26)]) ⟨hx, hb, hml, hown, hg⟩ (k_X10_standNow_0 l V z pz0_0 pz0_5 pz0_6 pz0_7 pz0_8 pz0_9 pz0_10 pz0_11 pz0_12 pz0_13 pz0_14 pz0_18 pz0_19 pz0_22 pz0_23 v_6 fz1 bpz0_5 bpz0_6 bpz0_7 bpz0_8 bpz0_10 bpz0_11 bpz0_12 bpz0_13 bpz0_14 bpz0_18 bpz0_22 bv_6 tfz1) mt_X10_standNow q_7_11 ⟨Nat.le_of_ble_eq_true rfl, Nat.le_of_ble_eq_true rfl⟩ hK hP hD hS hA hE [6, 7] rfl rfl 6 rfl rfl rfl rfl hl.1 rfl (Nat.le_of_ble_eq_true rfl) dX10_laysFar_175 ⟨Nat.le_of_ble_eq_true rfl, Nat.le_of_ble_eq_true rfl⟩) hP hD hS hA [6, 7] [0, 1, 2, 3, 4, 5] rfl rfl rfl (by decide) (fun r_19 w H locs hw hP hD hS => ?_)
      obtain ⟨br_19, er_19, et_20, rfl⟩ := hw
      have hP : va_P V.1 vwCl [(z 26, aI V 10000 f_15), (z 15, aI V 900 f_1), (z 16, aI V 6 f_2), (z 24, aI V 10000 f_3), (z 25, aI V 40000 f_4), (z 28, aZ V 10000 f_5), (z 0, .inr (10, mo z pz0_0 pz0_5 pz0_6 pz0_7 pz0_8 pz0_9 pz0_10 pz0_11 pz0_12 pz0_13 pz0_14 pz0_18 pz0_19 pz0_22 pz0_23 v_6)), (z 1, aI V 3075 fz1)] H := hP
      have hD := cpD hP hD
      refine va_iald hx hb hK hP 0 0 rfl rfl (iv_in br_19 (by decide)) dX10_laysFar_178 ?_
      refine lv_topi (fun x_21 ex_21 => ?_)
      have bx_21 : iv 0 268435456 x_21 := by rw [ex_21]; exact tf_15 _
      have hP := subP (ws' := [(z 15, aI V 900 f_1), (z 16, aI V 6 f_2), (z 24, aI V 10000 f_3), (z 25, aI V 40000 f_4), (z 26, aI V 10000 f_15), (z 28, aZ V 10000 f_5), (z 0, .inr (10, mo z pz0_0 pz0_5 pz0_6 pz0_7 pz0_8 pz0_9 pz0_10 pz0_11 pz0_12 pz0_13 pz0_14 pz0_18 pz0_19 pz0_22 pz0_23 v_6)), (z 1, aI V 3075 fz1)]) hP [1, 2, 3, 4, 0, 5, 6, 7] rfl
      have hD := subD hP hD [1, 2, 3, 4, 0, 5, 6, 7] rfl rfl
      exact fiI hx hb hr hlk hK hP hD hS dX10_laysFar_179 (Nat.le_of_ble_eq_true rfl) (Nat.le_of_ble_eq_true rfl) (⟨f_1, f_2, f_3, f_4, f_15, f_5, v_6, tf_2, tf_3, tf_4, tf_15, bv_6, bx_21, inn_16_2, g_8, g_9, inn_16_0, (inn_16_1 c_17), rfl⟩)
    · have b_22 : iv 1 1 u_14 := iv_n0 c_17 bu_14 (iv_c (0 : Int32) (a := 0) (b := 0) (by decide)) (by decide)
      refine lv_iconst (v := 0) hx hb dX10_laysFar_58 (by decide) ?_
      refine lv_istore_n (lv' := [(3, .int 0), (0, .ref (z 0)), (1, .int a1), (2, .int a2)]) hx hb dX10_laysFar_59 rfl hl (by decide) rfl (fun ls hl => ?_)
      refine lv_aload_n hx hb dX10_laysFar_60 rfl (lv_at hl 1 rfl) ?_
      refine va_get (ci := 10) (v := .int v_6) (C := RX10) (T := TX10) (N := 40) hx hb hg inX10 hown hK hP 6 rfl rfl 29 (by decide) (hg _ q_6_13) (fun _ h9 => h9) rfl dX10_laysFar_61 ?_
      refine lv_iconst (v := 1) hx hb dX10_laysFar_64 (by decide) ?_
      refine lv_isub hx hb dX10_laysFar_65 ?_
      refine lv_topi (fun x_23 ex_23 => ?_)
      have bx_23 : iv (-1) 9999 x_23 := by rw [ex_23]; exact iv_sub bv_6 (iv_c (1 : Int32) (a := 1) (b := 1) (by decide)) (by decide)
      refine lv_istore (lv' := [(4, .int x_23), (3, .int 0), (0, .ref (z 0)), (1, .int a1), (2, .int a2)]) hx hb dX10_laysFar_66 hl (by decide) rfl (fun ls hl => ?_)
      refine loopF (X := fun (n_27 : Nat) (H : Heap) (locs : List Loc) (ls : Array Slot) => ∃ (u_24 : Int32) (u_25 : Int32) (f_26 : Nat → Int32), (iv (-1) 9999 u_24) ∧ (iv 0 1 u_25) ∧ (∀ j, iv 0 268435456 (f_26 j)) ∧ (FI1 v_6 f_3 f_4 f_26) ∧ (u_25 = 0 → F2k v_6 u_24 f_3 f_4 f_26) ∧ (SD (sm f_26 10000) (sm f_15 10000) u_25) ∧ (RW fz1) ∧ n_27 = ((u_24 : Int32).toInt + 2147483648).toNat ∧ va_P V.1 vwCl [(z 26, aI V 10000 f_26), (z 15, aI V 900 f_1), (z 16, aI V 6 f_2), (z 24, aI V 10000 f_3), (z 25, aI V 40000 f_4), (z 28, aZ V 10000 f_5), (z 0, .inr (10, mo z pz0_0 pz0_5 pz0_6 pz0_7 pz0_8 pz0_9 pz0_10 pz0_11 pz0_12 pz0_13 pz0_14 pz0_18 pz0_19 pz0_22 pz0_23 v_6)), (z 1, aI V 3075 fz1)] H ∧ va_D A [(z 26, aI V 10000 f_26), (z 15, aI V 900 f_1), (z 16, aI V 6 f_2), (z 24, aI V 10000 f_3), (z 25, aI V 40000 f_4), (z 28, aZ V 10000 f_5), (z 0, .inr (10, mo z pz0_0 pz0_5 pz0_6 pz0_7 pz0_8 pz0_9 pz0_10 pz0_11 pz0_12 pz0_13 pz0_14 pz0_18 pz0_19 pz0_22 pz0_23 v_6)), (z 1, aI V 3075 fz1)] ∧ va_S A s.heap H locs ∧ lv_has ls 6 [(4, .int u_24), (3, .int u_25), (0, .ref (z 0)), (1, .int a1), (2, .int a2)]) (g := fun ls => F0 m 68 ls []) (fun n_27 H locs ls hX ihn_27 => ?_) _ ⟨x_23, 0, f_15, bx_23, (iv_c (0 : Int32) (by decide)), tf_15, inn_16_0, (F2k_0 ex_23 bv_6 (by decide)), (SD_0 rfl), inn_16_2, rfl, hP, hD, hS, lv_sub hl [0, 1, 2, 3, 4] rfl⟩
      obtain ⟨u_24, u_25, f_26, bu_24, bu_25, tf_26, inn_27_0, inn_27_1, inn_27_2, inn_27_3, en_27, hP, hD, hS, hl⟩ := hX
      refine lv_iload hx hb dX10_laysFar_68 (lv_at hl 0 rfl) ?_
      refine lv_if_lt (tgt := 167) hx hb dX10_laysFar_70 (by decide) (fun c_28 => ?_) (fun c_28 => ?_)
      · have b_29 : iv (-1) (-1) u_24 := iv_l1 c_28 bu_24 (iv_c (0 : Int32) (a := 0) (b := 0) (by decide)) (by decide)
        refine lv_goto (tgt := 54) hx hb dX10_laysFar_167 (by decide) ?_
        exact ihn_16 _ _ _ _ (by rw [en_16]; exact mu_more b_22 (by decide) bu_25 (by decide) inn_27_2) ⟨u_25, f_26, bu_25, tf_26, inn_27_0, (FI2_of inn_27_1 c_28), inn_27_3, rfl, hP, hD, hS, lv_sub hl [1, 2, 3, 4] rfl⟩
      · have b_30 : iv 0 9999 u_24 := iv_e2 (Int32.not_lt.mp c_28) (iv_c (0 : Int32) (a := 0) (b := 0) (by decide)) bu_24 (by decide)
        refine lv_iconst (v := 0) hx hb dX10_laysFar_73 (by decide) ?_
        refine lv_istore (lv' := [(5, .int 0), (4, .int u_24), (3, .int u_25), (0, .ref (z 0)), (1, .int a1), (2, .int a2)]) hx hb dX10_laysFar_74 hl (by decide) rfl (fun ls hl => ?_)
        refine loopF (X := fun (n_34 : Nat) (H : Heap) (locs : List Loc) (ls : Array Slot) => ∃ (u_31 : Int32) (u_32 : Int32) (f_33 : Nat → Int32), (iv 0 4 u_31) ∧ (iv 0 1 u_32) ∧ (∀ j, iv 0 268435456 (f_33 j)) ∧ (FI1 v_6 f_3 f_4 f_33) ∧ (u_32 = 0 → F2k v_6 u_24 f_3 f_4 f_33) ∧ (SD (sm f_33 10000) (sm f_15 10000) u_32) ∧ (u_32 = 0 → F2d u_24 u_31 f_3 f_4 f_33) ∧ (RW fz1) ∧ n_34 = (2147483647 - (u_31 : Int32).toInt).toNat ∧ va_P V.1 vwCl [(z 26, aI V 10000 f_33), (z 15, aI V 900 f_1), (z 16, aI V 6 f_2), (z 24, aI V 10000 f_3), (z 25, aI V 40000 f_4), (z 28, aZ V 10000 f_5), (z 0, .inr (10, mo z pz0_0 pz0_5 pz0_6 pz0_7 pz0_8 pz0_9 pz0_10 pz0_11 pz0_12 pz0_13 pz0_14 pz0_18 pz0_19 pz0_22 pz0_23 v_6)), (z 1, aI V 3075 fz1)] H ∧ va_D A [(z 26, aI V 10000 f_33), (z 15, aI V 900 f_1), (z 16, aI V 6 f_2), (z 24, aI V 10000 f_3), (z 25, aI V 40000 f_4), (z 28, aZ V 10000 f_5), (z 0, .inr (10, mo z pz0_0 pz0_5 pz0_6 pz0_7 pz0_8 pz0_9 pz0_10 pz0_11 pz0_12 pz0_13 pz0_14 pz0_18 pz0_19 pz0_22 pz0_23 v_6)), (z 1, aI V 3075 fz1)] ∧ va_S A s.heap H locs ∧ lv_has ls 6 [(5, .int u_31), (4, .int u_24), (3, .int u_32), (0, .ref (z 0)), (1, .int a1), (2, .int a2)]) (g := fun ls => F0 m 76 ls []) (fun n_34 H locs ls hX ihn_34 => ?_) _ ⟨0, u_25, f_26, (iv_c (0 : Int32) (by decide)), bu_25, tf_26, inn_27_0, inn_27_1, inn_27_2, (F2d_0 (by decide)), inn_27_3, rfl, hP, hD, hS, lv_sub hl [0, 1, 2, 3, 4, 5] rfl⟩
        obtain ⟨u_31, u_32, f_33, bu_31, bu_32, tf_33, inn_34_0, inn_34_1, inn_34_2, inn_34_3, inn_34_4, en_34, hP, hD, hS, hl⟩ := hX
        refine lv_iload hx hb dX10_laysFar_76 (lv_at hl 0 rfl) ?_
        refine lv_iconst (v := 4) hx hb dX10_laysFar_78 (by decide) ?_
        refine lv_icmp_ge (tgt := 161) hx hb dX10_laysFar_79 (by decide) (fun c_35 => ?_) (fun c_35 => ?_)
        · have b_36 : iv 4 4 u_31 := iv_e2 c_35 (iv_c (4 : Int32) (a := 4) (b := 4) (by decide)) bu_31 (by decide)
          obtain ⟨x_37, ex_37⟩ : ∃ z9 : Int32, z9 = u_24 + (-1) := ⟨_, rfl⟩
          have bx_37 : iv (-1) 9998 x_37 := by rw [ex_37]; exact iv_add b_30 (iv_c ((-1) : Int32) (a := (-1)) (b := (-1)) (by decide)) (by decide)
          refine lv_iinc (v := x_37) (lv' := [(4, .int x_37), (5, .int u_31), (3, .int u_32), (0, .ref (z 0)), (1, .int a1), (2, .int a2)]) hx hb dX10_laysFar_161 hl (k := 1) rfl (by rw [ex_37]; rfl) (by decide) rfl (fun ls hl => ?_)
          refine lv_goto (tgt := 68) hx hb dX10_laysFar_164 (by decide) ?_
          exact ihn_27 _ _ _ _ (by rw [en_27, ex_37]; exact mu_dn b_30 (by decide)) ⟨x_37, u_32, f_33, (iv_w bx_37 (by decide)), bu_32, tf_33, inn_34_0, (F2k_s (d := 0) inn_34_1 (g4 inn_34_3 (Int32.not_lt.mpr c_35)) b_30 (by decide) ex_37), inn_34_2, inn_34_4, rfl, hP, hD, hS, lv_sub hl [0, 2, 3, 4, 5] rfl⟩
        · have b_38 : iv 0 3 u_31 := iv_l1 (Int32.not_le.mp c_35) bu_31 (iv_c (4 : Int32) (a := 4) (b := 4) (by decide)) (by decide)
          refine lv_aload_n hx hb dX10_laysFar_82 rfl (lv_at hl 3 rfl) ?_
          refine va_get (ci := 10) (v := .ref (z 26)) (C := RX10) (T := TX10) (N := 40) hx hb hg inX10 hown hK hP 6 rfl rfl 26 (by decide) (hg _ q_6_10) (fun _ h9 => h9) rfl dX10_laysFar_83 ?_
          refine lv_aload_n hx hb dX10_laysFar_86 rfl (lv_at hl 3 rfl) ?_
          refine va_get (ci := 10) (v := .ref (z 24)) (C := RX10) (T := TX10) (N := 40) hx hb hg inX10 hown hK hP 6 rfl rfl 24 (by decide) (hg _ q_6_8) (fun _ h9 => h9) rfl dX10_laysFar_87 ?_
          refine lv_iload hx hb dX10_laysFar_90 (lv_at hl 1 rfl) ?_
          refine va_iald hx hb hK hP 3 0 rfl rfl (iv_in b_30 (by decide)) dX10_laysFar_92 ?_
          refine lv_topi (fun x_39 ex_39 => ?_)
          have bx_39 : iv 0 9999 x_39 := by rw [ex_39]; exact tf_3 _
          refine va_iald hx hb hK hP 0 0 rfl rfl (iv_in bx_39 (by decide)) dX10_laysFar_93 ?_
          refine lv_topi (fun x_40 ex_40 => ?_)
          have bx_40 : iv 0 268435456 x_40 := by rw [ex_40]; exact tf_33 _
          refine lv_if_le (tgt := 161) hx hb dX10_laysFar_94 (by decide) (fun c_41 => ?_) (fun c_41 => ?_)
          · have b_42 : iv 0 0 x_40 := iv_e1 c_41 bx_40 (iv_c (0 : Int32) (a := 0) (b := 0) (by decide)) (by decide)
            obtain ⟨x_43, ex_43⟩ : ∃ z9 : Int32, z9 = u_24 + (-1) := ⟨_, rfl⟩
            have bx_43 : iv (-1) 9998 x_43 := by rw [ex_43]; exact iv_add b_30 (iv_c ((-1) : Int32) (a := (-1)) (b := (-1)) (by decide)) (by decide)
            refine lv_iinc (v := x_43) (lv' := [(4, .int x_43), (5, .int u_31), (3, .int u_32), (0, .ref (z 0)), (1, .int a1), (2, .int a2)]) hx hb dX10_laysFar_161 hl (k := 1) rfl (by rw [ex_43]; rfl) (by decide) rfl (fun ls hl => ?_)
            refine lv_goto (tgt := 68) hx hb dX10_laysFar_164 (by decide) ?_
            exact ihn_27 _ _ _ _ (by rw [en_27, ex_43]; exact mu_dn b_30 (by decide)) ⟨x_43, u_32, f_33, (iv_w bx_43 (by decide)), bu_32, tf_33, inn_34_0, (F2k_s (d := 0) inn_34_1 (g0 ex_39 ex_40 c_41) b_30 (by decide) ex_43), inn_34_2, inn_34_4, rfl, hP, hD, hS, lv_sub hl [0, 2, 3, 4, 5] rfl⟩
          · have b_44 : iv 1 268435456 x_40 := iv_l2 (Int32.not_le.mp c_41) (iv_c (0 : Int32) (a := 0) (b := 0) (by decide)) bx_40 (by decide)
            refine lv_aload_n hx hb dX10_laysFar_97 rfl (lv_at hl 3 rfl) ?_
            refine lv_aload_n hx hb dX10_laysFar_98 rfl (lv_at hl 3 rfl) ?_
            refine va_get (ci := 10) (v := .ref (z 24)) (C := RX10) (T := TX10) (N := 40) hx hb hg inX10 hown hK hP 6 rfl rfl 24 (by decide) (hg _ q_6_8) (fun _ h9 => h9) rfl dX10_laysFar_99 ?_
            refine lv_iload hx hb dX10_laysFar_102 (lv_at hl 1 rfl) ?_
            refine va_iald hx hb hK hP 3 0 rfl rfl (iv_in b_30 (by decide)) dX10_laysFar_104 ?_
            refine tpi (y := x_39) ex_39.symm ?_
            refine lv_iload hx hb dX10_laysFar_105 (lv_at hl 0 rfl) ?_
            refine jnI (wr := [(z 15, aI V 900 f_1), (z 16, aI V 6 f_2), (z 24, aI V 10000 f_3), (z 28, aZ V 10000 f_5), (z 1, aI V 3075 fz1)]) (rnV (rest := []) ⟨hx, hb, hml, hown, hg⟩ (k_X10_farBy_0 l V z x_39 u_31 f_33 f_4 pz0_0 pz0_5 pz0_6 pz0_7 pz0_8 pz0_9 pz0_10 pz0_11 pz0_12 pz0_13 pz0_14 pz0_18 pz0_19 pz0_22 pz0_23 v_6 bx_39 b_38 tf_33 tf_4 bpz0_5 bpz0_6 bpz0_7 bpz0_8 bpz0_10 bpz0_11 bpz0_12 bpz0_13 bpz0_14 bpz0_18 bpz0_22 bv_6) mt_X10_farBy q_7_203 ⟨Nat.le_of_ble_eq_true rfl, Nat.le_of_ble_eq_true rfl⟩ hK hP hD hS hA hE [0, 4, 6] rfl rfl 6 rfl rfl rfl rfl hl.1 rfl (Nat.le_of_ble_eq_true rfl) dX10_laysFar_107 ⟨Nat.le_of_ble_eq_true rfl, Nat.le_of_ble_eq_true rfl⟩) hP hD hS hA [0, 4, 6] [1, 2, 3, 5, 7] rfl rfl rfl (by decide) (fun r_45 w H locs hw hP hD hS => ?_)
            obtain ⟨br_45, er_45, rfl⟩ := hw
            have hP : va_P V.1 vwCl [(z 15, aI V 900 f_1), (z 16, aI V 6 f_2), (z 24, aI V 10000 f_3), (z 28, aZ V 10000 f_5), (z 1, aI V 3075 fz1), (z 26, aI V 10000 f_33), (z 25, aI V 40000 f_4), (z 0, .inr (10, mo z pz0_0 pz0_5 pz0_6 pz0_7 pz0_8 pz0_9 pz0_10 pz0_11 pz0_12 pz0_13 pz0_14 pz0_18 pz0_19 pz0_22 pz0_23 v_6))] H := hP
            have hD := cpD hP hD
            refine lv_aload_n hx hb dX10_laysFar_110 rfl (lv_at hl 3 rfl) ?_
            refine va_get (ci := 10) (v := .ref (z 26)) (C := RX10) (T := TX10) (N := 40) hx hb hg inX10 hown hK hP 7 rfl rfl 26 (by decide) (hg _ q_6_10) (fun _ h9 => h9) rfl dX10_laysFar_111 ?_
            refine lv_aload_n hx hb dX10_laysFar_114 rfl (lv_at hl 3 rfl) ?_
            refine va_get (ci := 10) (v := .ref (z 24)) (C := RX10) (T := TX10) (N := 40) hx hb hg inX10 hown hK hP 7 rfl rfl 24 (by decide) (hg _ q_6_8) (fun _ h9 => h9) rfl dX10_laysFar_115 ?_
            refine lv_iload hx hb dX10_laysFar_118 (lv_at hl 1 rfl) ?_
            refine va_iald hx hb hK hP 2 0 rfl rfl (iv_in b_30 (by decide)) dX10_laysFar_120 ?_
            refine tpi (y := x_39) ex_39.symm ?_
            refine va_iald hx hb hK hP 5 0 rfl rfl (iv_in bx_39 (by decide)) dX10_laysFar_121 ?_
            refine tpi (y := x_40) ex_40.symm ?_
            refine lv_icmp_lt (tgt := 128) hx hb dX10_laysFar_122 (by decide) (fun c_46 => ?_) (fun c_46 => ?_)
            · have b_47 : iv 1 268435455 r_45 := iv_l1 c_46 br_45 b_44 (by decide)
              have b_48 : iv 2 268435456 x_40 := iv_l2 c_46 br_45 b_44 (by decide)
              refine lv_aload_n hx hb dX10_laysFar_128 rfl (lv_at hl 3 rfl) ?_
              refine va_get (ci := 10) (v := .ref (z 26)) (C := RX10) (T := TX10) (N := 40) hx hb hg inX10 hown hK hP 7 rfl rfl 26 (by decide) (hg _ q_6_10) (fun _ h9 => h9) rfl dX10_laysFar_129 ?_
              refine lv_aload_n hx hb dX10_laysFar_132 rfl (lv_at hl 3 rfl) ?_
              refine va_get (ci := 10) (v := .ref (z 24)) (C := RX10) (T := TX10) (N := 40) hx hb hg inX10 hown hK hP 7 rfl rfl 24 (by decide) (hg _ q_6_8) (fun _ h9 => h9) rfl dX10_laysFar_133 ?_
              refine lv_iload hx hb dX10_laysFar_136 (lv_at hl 1 rfl) ?_
              refine va_iald hx hb hK hP 2 0 rfl rfl (iv_in b_30 (by decide)) dX10_laysFar_138 ?_
              refine tpi (y := x_39) ex_39.symm ?_
              refine lv_aload_n hx hb dX10_laysFar_139 rfl (lv_at hl 3 rfl) ?_
              refine lv_aload_n hx hb dX10_laysFar_140 rfl (lv_at hl 3 rfl) ?_
              refine va_get (ci := 10) (v := .ref (z 24)) (C := RX10) (T := TX10) (N := 40) hx hb hg inX10 hown hK hP 7 rfl rfl 24 (by decide) (hg _ q_6_8) (fun _ h9 => h9) rfl dX10_laysFar_141 ?_
              refine lv_iload hx hb dX10_laysFar_144 (lv_at hl 1 rfl) ?_
              refine va_iald hx hb hK hP 2 0 rfl rfl (iv_in b_30 (by decide)) dX10_laysFar_146 ?_
              refine tpi (y := x_39) ex_39.symm ?_
              refine lv_iload hx hb dX10_laysFar_147 (lv_at hl 0 rfl) ?_
              refine jnI (wr := [(z 15, aI V 900 f_1), (z 16, aI V 6 f_2), (z 24, aI V 10000 f_3), (z 28, aZ V 10000 f_5), (z 1, aI V 3075 fz1)]) (rnV (rest := [.int x_39, .ref (z 26)]) ⟨hx, hb, hml, hown, hg⟩ (k_X10_farBy_0 l V z x_39 u_31 f_33 f_4 pz0_0 pz0_5 pz0_6 pz0_7 pz0_8 pz0_9 pz0_10 pz0_11 pz0_12 pz0_13 pz0_14 pz0_18 pz0_19 pz0_22 pz0_23 v_6 bx_39 b_38 tf_33 tf_4 bpz0_5 bpz0_6 bpz0_7 bpz0_8 bpz0_10 bpz0_11 bpz0_12 bpz0_13 bpz0_14 bpz0_18 bpz0_22 bv_6) mt_X10_farBy q_7_203 ⟨Nat.le_of_ble_eq_true rfl, Nat.le_of_ble_eq_true rfl⟩ hK hP hD hS hA hE [5, 6, 7] rfl rfl 7 rfl rfl rfl rfl hl.1 rfl (Nat.le_of_ble_eq_true rfl) dX10_laysFar_149 ⟨Nat.le_of_ble_eq_true rfl, Nat.le_of_ble_eq_true rfl⟩) hP hD hS hA [5, 6, 7] [0, 1, 2, 3, 4] rfl rfl rfl (by decide) (fun r_49 w H locs hw hP hD hS => ?_)
              obtain ⟨br_49, er_49, rfl⟩ := hw
              have e9_r_49 : r_49 = r_45 := er_49.trans er_45.symm
              rw [e9_r_49]
              have hP : va_P V.1 vwCl [(z 15, aI V 900 f_1), (z 16, aI V 6 f_2), (z 24, aI V 10000 f_3), (z 28, aZ V 10000 f_5), (z 1, aI V 3075 fz1), (z 26, aI V 10000 f_33), (z 25, aI V 40000 f_4), (z 0, .inr (10, mo z pz0_0 pz0_5 pz0_6 pz0_7 pz0_8 pz0_9 pz0_10 pz0_11 pz0_12 pz0_13 pz0_14 pz0_18 pz0_19 pz0_22 pz0_23 v_6))] H := hP
              have hD := cpD hP hD
              refine va_iast hx hb hK hP hD hS 5 0 rfl rfl (iv_in bx_39 (by decide)) dX10_laysFar_152 (fun H locs hP hD hS => ?_)
              obtain ⟨f_50, ef_50, tf_50, hP, hD⟩ : ∃ f_50 : Nat → Int32, f_50 = (upd f_33 (x_39 : Int32).toNatClampNeg r_45) ∧ (∀ j, iv 0 268435456 (f_50 j)) ∧ va_P V.1 vwCl [(z 15, aI V 900 f_1), (z 16, aI V 6 f_2), (z 24, aI V 10000 f_3), (z 28, aZ V 10000 f_5), (z 1, aI V 3075 fz1), (z 26, aI V 10000 f_50), (z 25, aI V 40000 f_4), (z 0, .inr (10, mo z pz0_0 pz0_5 pz0_6 pz0_7 pz0_8 pz0_9 pz0_10 pz0_11 pz0_12 pz0_13 pz0_14 pz0_18 pz0_19 pz0_22 pz0_23 v_6))] H ∧ va_D A [(z 15, aI V 900 f_1), (z 16, aI V 6 f_2), (z 24, aI V 10000 f_3), (z 28, aZ V 10000 f_5), (z 1, aI V 3075 fz1), (z 26, aI V 10000 f_50), (z 25, aI V 40000 f_4), (z 0, .inr (10, mo z pz0_0 pz0_5 pz0_6 pz0_7 pz0_8 pz0_9 pz0_10 pz0_11 pz0_12 pz0_13 pz0_14 pz0_18 pz0_19 pz0_22 pz0_23 v_6))] := ⟨_, rfl, ivU tf_33 _ (iv_w b_47 (by decide)), hP, hD⟩
              refine lv_iconst (v := 1) hx hb dX10_laysFar_153 (by decide) ?_
              refine lv_istore_n (lv' := [(3, .int 1), (5, .int u_31), (4, .int u_24), (0, .ref (z 0)), (1, .int a1), (2, .int a2)]) hx hb dX10_laysFar_154 rfl hl (by decide) rfl (fun ls hl => ?_)
              obtain ⟨x_51, ex_51⟩ : ∃ z9 : Int32, z9 = u_31 + 1 := ⟨_, rfl⟩
              have bx_51 : iv 1 4 x_51 := by rw [ex_51]; exact iv_add b_38 (iv_c (1 : Int32) (a := 1) (b := 1) (by decide)) (by decide)
              refine lv_iinc (v := x_51) (lv' := [(5, .int x_51), (3, .int 1), (4, .int u_24), (0, .ref (z 0)), (1, .int a1), (2, .int a2)]) hx hb dX10_laysFar_155 hl (k := 1) rfl (by rw [ex_51]; rfl) (by decide) rfl (fun ls hl => ?_)
              refine lv_goto (tgt := 76) hx hb dX10_laysFar_158 (by decide) ?_
              have hP := subP (ws' := [(z 26, aI V 10000 f_50), (z 15, aI V 900 f_1), (z 16, aI V 6 f_2), (z 24, aI V 10000 f_3), (z 25, aI V 40000 f_4), (z 28, aZ V 10000 f_5), (z 0, .inr (10, mo z pz0_0 pz0_5 pz0_6 pz0_7 pz0_8 pz0_9 pz0_10 pz0_11 pz0_12 pz0_13 pz0_14 pz0_18 pz0_19 pz0_22 pz0_23 v_6)), (z 1, aI V 3075 fz1)]) hP [5, 0, 1, 2, 6, 3, 7, 4] rfl
              have hD := subD hP hD [5, 0, 1, 2, 6, 3, 7, 4] rfl rfl
              exact ihn_34 _ _ _ _ (by rw [en_34, ex_51]; exact mu_up b_38 (by decide)) ⟨x_51, 1, f_50, (iv_w bx_51 (by decide)), (iv_c (1 : Int32) (by decide)), tf_50, (FI1_s inn_34_0 tf_33 ex_39 ef_50 ex_40 er_45 (by have q9 := b_38; have q8 := clampNat (x := u_31) (by unfold iv at q9; omega); unfold iv at q9; omega) c_46), (fun q9 => absurd q9 (by decide)), (SD_1 inn_34_2 (sm_lt ef_50 bx_39 (by decide) ex_40 b_48 b_47 (by decide) c_46)), (fun q9 => absurd q9 (by decide)), inn_34_4, rfl, hP, hD, hS, lv_sub hl [0, 2, 1, 3, 4, 5] rfl⟩
            · refine lv_goto (tgt := 155) hx hb dX10_laysFar_125 (by decide) ?_
              obtain ⟨x_52, ex_52⟩ : ∃ z9 : Int32, z9 = u_31 + 1 := ⟨_, rfl⟩
              have bx_52 : iv 1 4 x_52 := by rw [ex_52]; exact iv_add b_38 (iv_c (1 : Int32) (a := 1) (b := 1) (by decide)) (by decide)
              refine lv_iinc (v := x_52) (lv' := [(5, .int x_52), (4, .int u_24), (3, .int u_32), (0, .ref (z 0)), (1, .int a1), (2, .int a2)]) hx hb dX10_laysFar_155 hl (k := 0) rfl (by rw [ex_52]; rfl) (by decide) rfl (fun ls hl => ?_)
              refine lv_goto (tgt := 76) hx hb dX10_laysFar_158 (by decide) ?_
              have hP := subP (ws' := [(z 26, aI V 10000 f_33), (z 15, aI V 900 f_1), (z 16, aI V 6 f_2), (z 24, aI V 10000 f_3), (z 25, aI V 40000 f_4), (z 28, aZ V 10000 f_5), (z 0, .inr (10, mo z pz0_0 pz0_5 pz0_6 pz0_7 pz0_8 pz0_9 pz0_10 pz0_11 pz0_12 pz0_13 pz0_14 pz0_18 pz0_19 pz0_22 pz0_23 v_6)), (z 1, aI V 3075 fz1)]) hP [5, 0, 1, 2, 6, 3, 7, 4] rfl
              have hD := subD hP hD [5, 0, 1, 2, 6, 3, 7, 4] rfl rfl
              exact ihn_34 _ _ _ _ (by rw [en_34, ex_52]; exact mu_up b_38 (by decide)) ⟨x_52, u_32, f_33, (iv_w bx_52 (by decide)), bu_32, tf_33, inn_34_0, inn_34_1, inn_34_2, (F2d_s inn_34_3 ex_39 ex_40 er_45 c_46 b_38 (by decide) ex_52), inn_34_4, rfl, hP, hD, hS, lv_sub hl [0, 1, 2, 3, 4, 5] rfl⟩
  · have b_53 : iv 0 9999 u_10 := iv_l1 (Int32.not_le.mp c_13) bu_10 bv_6 (by decide)
    have b_54 : iv 1 10000 v_6 := iv_l2 (Int32.not_le.mp c_13) bu_10 bv_6 (by decide)
    refine lv_aload_n hx hb dX10_laysFar_14 rfl (lv_at hl 1 rfl) ?_
    refine va_get (ci := 10) (v := .ref (z 26)) (C := RX10) (T := TX10) (N := 40) hx hb hg inX10 hown hK hP 6 rfl rfl 26 (by decide) (hg _ q_6_10) (fun _ h9 => h9) rfl dX10_laysFar_15 ?_
    refine lv_aload_n hx hb dX10_laysFar_18 rfl (lv_at hl 1 rfl) ?_
    refine va_get (ci := 10) (v := .ref (z 24)) (C := RX10) (T := TX10) (N := 40) hx hb hg inX10 hown hK hP 6 rfl rfl 24 (by decide) (hg _ q_6_8) (fun _ h9 => h9) rfl dX10_laysFar_19 ?_
    refine lv_iload_n hx hb dX10_laysFar_22 rfl (lv_at hl 0 rfl) ?_
    refine va_iald hx hb hK hP 3 0 rfl rfl (iv_in b_53 (by decide)) dX10_laysFar_23 ?_
    refine lv_topi (fun x_55 ex_55 => ?_)
    have bx_55 : iv 0 9999 x_55 := by rw [ex_55]; exact tf_3 _
    refine lv_aload_n hx hb dX10_laysFar_24 rfl (lv_at hl 1 rfl) ?_
    refine va_get (ci := 10) (v := .ref (z 24)) (C := RX10) (T := TX10) (N := 40) hx hb hg inX10 hown hK hP 6 rfl rfl 24 (by decide) (hg _ q_6_8) (fun _ h9 => h9) rfl dX10_laysFar_25 ?_
    refine lv_iload_n hx hb dX10_laysFar_28 rfl (lv_at hl 0 rfl) ?_
    refine va_iald hx hb hK hP 3 0 rfl rfl (iv_in b_53 (by decide)) dX10_laysFar_29 ?_
    refine tpi (y := x_55) ex_55.symm ?_
    refine lv_iload_n hx hb dX10_laysFar_30 rfl (lv_at hl 2 rfl) ?_
    refine jnI (wr := [(z 26, aI V 10000 f_11), (z 15, aI V 900 f_1), (z 16, aI V 6 f_2), (z 24, aI V 10000 f_3), (z 25, aI V 40000 f_4), (z 28, aZ V 10000 f_5), (z 0, .inr (10, mo z pz0_0 pz0_5 pz0_6 pz0_7 pz0_8 pz0_9 pz0_10 pz0_11 pz0_12 pz0_13 pz0_14 pz0_18 pz0_19 pz0_22 pz0_23 v_6)), (z 1, aI V 3075 fz1)]) (rnS (rest := [.int x_55, .ref (z 26)]) ⟨hx, hb, hml, hown, hg⟩ (k_X10_stackIn_0 l V x_55 a1 bx_55 ba1) mt_X10_stackIn q_7_26 ⟨Nat.le_of_ble_eq_true rfl, Nat.le_of_ble_eq_true rfl⟩ hK hP hD hS hA hE [] rfl rfl rfl hl.1 rfl (Nat.le_of_ble_eq_true rfl) dX10_laysFar_31 ⟨Nat.le_of_ble_eq_true rfl, Nat.le_of_ble_eq_true rfl⟩) hP hD hS hA [] [0, 1, 2, 3, 4, 5, 6, 7] rfl rfl rfl (by decide) (fun r_56 w H locs hw hP hD hS => ?_)
    obtain ⟨br_56, er_56, et_57, rfl⟩ := hw
    have hP : va_P V.1 vwCl [(z 26, aI V 10000 f_11), (z 15, aI V 900 f_1), (z 16, aI V 6 f_2), (z 24, aI V 10000 f_3), (z 25, aI V 40000 f_4), (z 28, aZ V 10000 f_5), (z 0, .inr (10, mo z pz0_0 pz0_5 pz0_6 pz0_7 pz0_8 pz0_9 pz0_10 pz0_11 pz0_12 pz0_13 pz0_14 pz0_18 pz0_19 pz0_22 pz0_23 v_6)), (z 1, aI V 3075 fz1)] H := hP
    have hD := cpD hP hD
    refine lv_iload_n hx hb dX10_laysFar_34 rfl (lv_at hl 3 rfl) ?_
    refine lv_icmp_ne (tgt := 42) hx hb dX10_laysFar_35 (by decide) (fun c_58 => ?_) (fun c_58 => ?_)
    · refine lv_ldcw (v := 268435456) hx hb hown (hg _ q_7_202) dX10_laysFar_42 ?_
      refine va_iast hx hb hK hP hD hS 0 0 rfl rfl (iv_in bx_55 (by decide)) dX10_laysFar_45 (fun H locs hP hD hS => ?_)
      obtain ⟨f_59, ef_59, tf_59, hP, hD⟩ : ∃ f_59 : Nat → Int32, f_59 = (upd f_11 (x_55 : Int32).toNatClampNeg 268435456) ∧ (∀ j, iv 0 268435456 (f_59 j)) ∧ va_P V.1 vwCl [(z 26, aI V 10000 f_59), (z 15, aI V 900 f_1), (z 16, aI V 6 f_2), (z 24, aI V 10000 f_3), (z 25, aI V 40000 f_4), (z 28, aZ V 10000 f_5), (z 0, .inr (10, mo z pz0_0 pz0_5 pz0_6 pz0_7 pz0_8 pz0_9 pz0_10 pz0_11 pz0_12 pz0_13 pz0_14 pz0_18 pz0_19 pz0_22 pz0_23 v_6)), (z 1, aI V 3075 fz1)] H ∧ va_D A [(z 26, aI V 10000 f_59), (z 15, aI V 900 f_1), (z 16, aI V 6 f_2), (z 24, aI V 10000 f_3), (z 25, aI V 40000 f_4), (z 28, aZ V 10000 f_5), (z 0, .inr (10, mo z pz0_0 pz0_5 pz0_6 pz0_7 pz0_8 pz0_9 pz0_10 pz0_11 pz0_12 pz0_13 pz0_14 pz0_18 pz0_19 pz0_22 pz0_23 v_6)), (z 1, aI V 3075 fz1)] := ⟨_, rfl, ivU tf_11 _ (iv_c (268435456 : Int32) (by decide)), hP, hD⟩
      obtain ⟨x_60, ex_60⟩ : ∃ z9 : Int32, z9 = u_10 + 1 := ⟨_, rfl⟩
      have bx_60 : iv 1 10000 x_60 := by rw [ex_60]; exact iv_add b_53 (iv_c (1 : Int32) (a := 1) (b := 1) (by decide)) (by decide)
      refine lv_iinc (v := x_60) (lv' := [(3, .int x_60), (0, .ref (z 0)), (1, .int a1), (2, .int a2)]) hx hb dX10_laysFar_46 hl (k := 0) rfl (by rw [ex_60]; rfl) (by decide) rfl (fun ls hl => ?_)
      refine lv_goto (tgt := 6) hx hb dX10_laysFar_49 (by decide) ?_
      exact ihn_12 _ _ _ _ (by rw [en_12, ex_60]; exact mu_up b_53 (by decide)) ⟨x_60, f_59, (iv_w bx_60 (by decide)), tf_59, (ini_s inn_12_0 b_53 (by decide) ex_60 ex_55 ef_59 (Or.inr rfl)), inn_12_1, rfl, hP, hD, hS, lv_sub hl [0, 1, 2, 3] rfl⟩
    · have b_61 : iv 0 4 a2 := iv_q c_58.symm br_56
      refine lv_iconst (v := 0) hx hb dX10_laysFar_38 (by decide) ?_
      refine lv_goto (tgt := 45) hx hb dX10_laysFar_39 (by decide) ?_
      refine va_iast hx hb hK hP hD hS 0 0 rfl rfl (iv_in bx_55 (by decide)) dX10_laysFar_45 (fun H locs hP hD hS => ?_)
      obtain ⟨f_62, ef_62, tf_62, hP, hD⟩ : ∃ f_62 : Nat → Int32, f_62 = (upd f_11 (x_55 : Int32).toNatClampNeg 0) ∧ (∀ j, iv 0 268435456 (f_62 j)) ∧ va_P V.1 vwCl [(z 26, aI V 10000 f_62), (z 15, aI V 900 f_1), (z 16, aI V 6 f_2), (z 24, aI V 10000 f_3), (z 25, aI V 40000 f_4), (z 28, aZ V 10000 f_5), (z 0, .inr (10, mo z pz0_0 pz0_5 pz0_6 pz0_7 pz0_8 pz0_9 pz0_10 pz0_11 pz0_12 pz0_13 pz0_14 pz0_18 pz0_19 pz0_22 pz0_23 v_6)), (z 1, aI V 3075 fz1)] H ∧ va_D A [(z 26, aI V 10000 f_62), (z 15, aI V 900 f_1), (z 16, aI V 6 f_2), (z 24, aI V 10000 f_3), (z 25, aI V 40000 f_4), (z 28, aZ V 10000 f_5), (z 0, .inr (10, mo z pz0_0 pz0_5 pz0_6 pz0_7 pz0_8 pz0_9 pz0_10 pz0_11 pz0_12 pz0_13 pz0_14 pz0_18 pz0_19 pz0_22 pz0_23 v_6)), (z 1, aI V 3075 fz1)] := ⟨_, rfl, ivU tf_11 _ (iv_c (0 : Int32) (by decide)), hP, hD⟩
      obtain ⟨x_63, ex_63⟩ : ∃ z9 : Int32, z9 = u_10 + 1 := ⟨_, rfl⟩
      have bx_63 : iv 1 10000 x_63 := by rw [ex_63]; exact iv_add b_53 (iv_c (1 : Int32) (a := 1) (b := 1) (by decide)) (by decide)
      refine lv_iinc (v := x_63) (lv' := [(3, .int x_63), (0, .ref (z 0)), (1, .int a1), (2, .int a2)]) hx hb dX10_laysFar_46 hl (k := 0) rfl (by rw [ex_63]; rfl) (by decide) rfl (fun ls hl => ?_)
      refine lv_goto (tgt := 6) hx hb dX10_laysFar_49 (by decide) ?_
      exact ihn_12 _ _ _ _ (by rw [en_12, ex_63]; exact mu_up b_53 (by decide)) ⟨x_63, f_62, (iv_w bx_63 (by decide)), tf_62, (ini_s inn_12_0 b_53 (by decide) ex_63 ex_55 ef_62 (Or.inl rfl)), inn_12_1, rfl, hP, hD, hS, lv_sub hl [0, 1, 2, 3] rfl⟩
