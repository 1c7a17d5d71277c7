theorem dX10_night_0 : decode cX10_night 0 = .ok (.aload_n 0, 1) := by decide +kernel
theorem dX10_night_1 : decode cX10_night 1 = .ok (.iconst 0, 1) := by decide +kernel
theorem dX10_night_2 : decode cX10_night 2 = .ok (.putfield 1, 3) := by decide +kernel
theorem dX10_night_5 : decode cX10_night 5 = .ok (.aload_n 0, 1) := by decide +kernel
theorem dX10_night_6 : decode cX10_night 6 = .ok (.iload_n 1, 1) := by decide +kernel
theorem dX10_night_7 : decode cX10_night 7 = .ok (.i2l, 1) := by decide +kernel
theorem dX10_night_8 : decode cX10_night 8 = .ok (.invokevirtual 266, 3) := by decide +kernel
theorem dX10_night_11 : decode cX10_night 11 = .ok (.ifCond .ne 6, 3) := by decide +kernel
theorem dX10_night_17 : decode cX10_night 17 = .ok (.aload_n 0, 1) := by decide +kernel
theorem q_7_63 : Cond.code yX10_stores prog_12_method_56_code 2 none ∈ gw := gw_7 (i := 63) (rfl) rfl
theorem q_7_62 : Cond.instanceMethod yX10_stores ∈ gw := gw_7 (i := 62) (by decide +kernel) rfl
theorem q_s_87 : Cond.selects "BeaconDelayModel" yX10_stores yX10_stores ∈ gw := gw_s (i := 87) (by decide +kernel) rfl
theorem mt_X10_stores : MtV yX10_stores cX10_stores 2 none 0 := ⟨⟨q_7_63, q_1_9, by decide +kernel, by decide +kernel, by decide +kernel⟩, q_7_62, q_s_87⟩
theorem q_7_60 : Cond.methodLink "BeaconDelayModel" 278 yX10_stores ∈ gw := gw_7 (i := 60) (by decide +kernel) rfl
theorem dX10_night_18 : decode cX10_night 18 = .ok (.invokevirtual 278, 3) := by decide +kernel
theorem dX10_night_21 : decode cX10_night 21 = .ok (.aload_n 0, 1) := by decide +kernel
theorem dX10_night_22 : decode cX10_night 22 = .ok (.iload_n 1, 1) := by decide +kernel
theorem q_7_67 : Cond.code yX10_goesNight prog_12_method_59_code 2 none ∈ gw := gw_7 (i := 67) (rfl) rfl
theorem q_7_66 : Cond.instanceMethod yX10_goesNight ∈ gw := gw_7 (i := 66) (by decide +kernel) rfl
theorem q_s_88 : Cond.selects "BeaconDelayModel" yX10_goesNight yX10_goesNight ∈ gw := gw_s (i := 88) (by decide +kernel) rfl
theorem mt_X10_goesNight : MtV yX10_goesNight cX10_goesNight 2 none 1 := ⟨⟨q_7_67, q_1_9, by decide +kernel, by decide +kernel, by decide +kernel⟩, q_7_66, q_s_88⟩
theorem q_7_64 : Cond.methodLink "BeaconDelayModel" 281 yX10_goesNight ∈ gw := gw_7 (i := 64) (by decide +kernel) rfl
theorem dX10_night_23 : decode cX10_night 23 = .ok (.invokevirtual 281, 3) := by decide +kernel
theorem dX10_night_26 : decode cX10_night 26 = .ok (.aload_n 0, 1) := by decide +kernel
theorem q_7_75 : Cond.code yX10_notes prog_12_method_58_code 2 none ∈ gw := gw_7 (i := 75) (rfl) rfl
theorem q_7_74 : Cond.instanceMethod yX10_notes ∈ gw := gw_7 (i := 74) (by decide +kernel) rfl
theorem q_s_90 : Cond.selects "BeaconDelayModel" yX10_notes yX10_notes ∈ gw := gw_s (i := 90) (by decide +kernel) rfl
theorem mt_X10_notes : MtV yX10_notes cX10_notes 2 none 0 := ⟨⟨q_7_75, q_1_9, by decide +kernel, by decide +kernel, by decide +kernel⟩, q_7_74, q_s_90⟩
theorem q_7_72 : Cond.methodLink "BeaconDelayModel" 284 yX10_notes ∈ gw := gw_7 (i := 72) (by decide +kernel) rfl
theorem dX10_night_27 : decode cX10_night 27 = .ok (.invokevirtual 284, 3) := by decide +kernel
theorem dX10_night_30 : decode cX10_night 30 = .ok (.aload_n 0, 1) := by decide +kernel
theorem dX10_night_31 : decode cX10_night 31 = .ok (.getfield 13, 3) := by decide +kernel
theorem dX10_night_34 : decode cX10_night 34 = .ok (.bipush 50, 2) := by decide +kernel
theorem dX10_night_36 : decode cX10_night 36 = .ok (.iaload, 1) := by decide +kernel
theorem dX10_night_37 : decode cX10_night 37 = .ok (.ireturn, 1) := by decide +kernel
theorem dX10_night_14 : decode cX10_night 14 = .ok (.bipush (-11), 2) := by decide +kernel
theorem dX10_night_16 : decode cX10_night 16 = .ok (.ireturn, 1) := by decide +kernel
set_option maxHeartbeats 4000000 in
set_option maxRecDepth 100000 in
theorem k_X10_night_0 (l : Launch) (V : GV) (z : Nat → Nat) (a1 : Int32) (pz0_0 : Int32) (pz0_5 : Int32) (pz0_6 : Int32) (pz0_7 : Int32) (pz0_8 : Int32) (pz0_9 : Int32) (pz0_10 : Int32) (pz0_11 : Int32) (pz0_12 : Int32) (pz0_13 : Int32) (pz0_14 : Int32) (pz0_18 : Int32) (pz0_19 : Int32) (pz0_22 : Int32) (pz0_23 : Int32) (pz0_29 : Int32) (fz1 : Nat → Int32) (fz15 : Nat → Int32) (fz16 : Nat → Int32) (fz17 : Nat → Int32) (bpz0_5 : iv 0 900 pz0_5) (bpz0_6 : iv 0 900 pz0_6) (bpz0_7 : iv 0 900 pz0_7) (bpz0_8 : iv 0 900 pz0_8) (bpz0_10 : iv 0 999 pz0_10) (bpz0_11 : iv 0 4 pz0_11) (bpz0_12 : iv 0 900 pz0_12) (bpz0_13 : iv 0 4 pz0_13) (bpz0_14 : iv (-1) 900 pz0_14) (bpz0_18 : iv 0 2 pz0_18) (bpz0_22 : iv 0 9999 pz0_22) (bpz0_29 : iv 0 10000 pz0_29) (tfz1 : ivT tA fz1) (tfz16 : ivT tW fz16) (tfz17 : ivT tS fz17) (hf0 : RW fz1) : Ct l V yX10_night (.code yX10_night cX10_night 2 (some .int)) 6 [.ref (z 0), .int a1] [(z 0, .inr (10, mo z pz0_0 pz0_5 pz0_6 pz0_7 pz0_8 pz0_9 pz0_10 pz0_11 pz0_12 pz0_13 pz0_14 pz0_18 pz0_19 pz0_22 pz0_23 pz0_29)), (z 1, aI V 3075 fz1), (z 15, aI V 900 fz15), (z 16, aI V 6 fz16), (z 17, aI V 7 fz17)] 0 0 (QI V (fun (r : Int32) (w : va_W) => ∃ (v0 : Int32) (g1 : Nat → Int32) (g2 : Nat → Int32) (g3 : Nat → Int32) (g4 : Nat → Int32), (ivT tA g1) ∧ (ivT tW g3) ∧ (ivT tS g4) ∧ iv (-11) 15 r ∧ (RW g1) ∧ w = [(z 0, .inr (10, mo z v0 pz0_5 pz0_6 pz0_7 pz0_8 pz0_9 pz0_10 pz0_11 pz0_12 pz0_13 pz0_14 pz0_18 pz0_19 pz0_22 pz0_23 pz0_29)), (z 1, aI V 3075 g1), (z 15, aI V 900 g2), (z 16, aI V 6 g3), (z 17, aI V 7 g4)])) := by
  refine Ct.of (by decide) (Nat.le_of_ble_eq_true rfl) (fun p e s m below meth c A ls hx hb hr hml hown hlk hnm hg hP hK hD hE hA hS hl => ?_)
  have hl : lv_has ls 2 [(0, .ref (z 0)), (1, .int a1)] := hl
  refine lv_aload_n hx hb dX10_night_0 rfl (lv_at hl 0 rfl) ?_
  refine lv_iconst (v := 0) hx hb dX10_night_1 (by decide) ?_
  refine va_put (ci := 10) (v := .int 0) (ty := .int) (C := RX10) (T := TX10) (N := 40) hx hb hg inX10 tyX10 tyX10_ok nmX10 hown hK hP hD hS 0 rfl rfl 0 (by decide) (hg _ q_5_224) (fun _ h9 => h9) rfl (by decide +kernel) rfl rfl (Nat.le_of_ble_eq_true rfl) dX10_night_2 (fun H locs hP hD hS => ?_)
  have hP : va_P V.1 vwCl [(z 0, .inr (10, mo z 0 pz0_5 pz0_6 pz0_7 pz0_8 pz0_9 pz0_10 pz0_11 pz0_12 pz0_13 pz0_14 pz0_18 pz0_19 pz0_22 pz0_23 pz0_29)), (z 1, aI V 3075 fz1), (z 15, aI V 900 fz15), (z 16, aI V 6 fz16), (z 17, aI V 7 fz17)] H := hP
  have hD : va_D A [(z 0, .inr (10, mo z 0 pz0_5 pz0_6 pz0_7 pz0_8 pz0_9 pz0_10 pz0_11 pz0_12 pz0_13 pz0_14 pz0_18 pz0_19 pz0_22 pz0_23 pz0_29)), (z 1, aI V 3075 fz1), (z 15, aI V 900 fz15), (z 16, aI V 6 fz16), (z 17, aI V 7 fz17)] := hD
  refine lv_aload_n hx hb dX10_night_5 rfl (lv_at hl 0 rfl) ?_
  refine lv_iload_n hx hb dX10_night_6 rfl (lv_at hl 1 rfl) ?_
  refine lv_i2l hx hb dX10_night_7 rfl ?_
  refine lv_topl (fun j_1 ej_1 => ?_)
  refine jnI (wr := [(z 15, aI V 900 fz15), (z 16, aI V 6 fz16), (z 17, aI V 7 fz17)]) (rnV (rest := []) ⟨hx, hb, hml, hown, hg⟩ (k_X10_isNight_0 l V z j_1 0 pz0_5 pz0_6 pz0_7 pz0_8 pz0_9 pz0_10 pz0_11 pz0_12 pz0_13 pz0_14 pz0_18 pz0_19 pz0_22 pz0_23 pz0_29 fz1 bpz0_5 bpz0_6 bpz0_7 bpz0_8 bpz0_10 bpz0_11 bpz0_12 bpz0_13 bpz0_14 bpz0_18 bpz0_22 bpz0_29 tfz1) mt_X10_isNight q_7_7 ⟨Nat.le_of_ble_eq_true rfl, Nat.le_of_ble_eq_true rfl⟩ hK hP hD hS hA hE [0, 1] rfl rfl 0 rfl rfl rfl rfl hl.1 rfl (Nat.le_of_ble_eq_true rfl) dX10_night_8 ⟨Nat.le_of_ble_eq_true rfl, Nat.le_of_ble_eq_true rfl⟩) hP hD hS hA [0, 1] [2, 3, 4] rfl rfl rfl (by decide) (fun r_2 w H locs hw hP hD hS => ?_)
  obtain ⟨br_2, g_3, rfl⟩ := hw
  have hP : va_P V.1 vwCl [(z 15, aI V 900 fz15), (z 16, aI V 6 fz16), (z 17, aI V 7 fz17), (z 0, .inr (10, mo z 0 pz0_5 pz0_6 pz0_7 pz0_8 pz0_9 pz0_10 pz0_11 pz0_12 pz0_13 pz0_14 pz0_18 pz0_19 pz0_22 pz0_23 pz0_29)), (z 1, aI V 3075 fz1)] H := hP
  have hD : va_D A [(z 15, aI V 900 fz15), (z 16, aI V 6 fz16), (z 17, aI V 7 fz17), (z 0, .inr (10, mo z 0 pz0_5 pz0_6 pz0_7 pz0_8 pz0_9 pz0_10 pz0_11 pz0_12 pz0_13 pz0_14 pz0_18 pz0_19 pz0_22 pz0_23 pz0_29)), (z 1, aI V 3075 fz1)] := hD
  refine lv_if_ne (tgt := 17) hx hb dX10_night_11 (by decide) (fun c_4 => ?_) (fun c_4 => ?_)
  · have b_5 : iv 1 1 r_2 := iv_n0 c_4 br_2 (iv_c (0 : Int32) (a := 0) (b := 0) (by decide)) (by decide)
    have b_6 : ivL 0 3 j_1 := ivL_cap (g_3 (iv_eqp b_5 (iv_c (1 : Int32) (by decide)))) (ivL_top j_1) (by decide)
    have b_7 : iv 0 3 a1 := iv_cap (ivL_i ej_1 b_6) (iv_top a1) (by decide)
    refine lv_aload_n hx hb dX10_night_17 rfl (lv_at hl 0 rfl) ?_
    refine jnV (wr := [(z 15, aI V 900 fz15), (z 16, aI V 6 fz16)]) (rnV (rest := []) ⟨hx, hb, hml, hown, hg⟩ (k_X10_stores_0 l V z fz17 0 pz0_5 pz0_6 pz0_7 pz0_8 pz0_9 pz0_10 pz0_11 pz0_12 pz0_13 pz0_14 pz0_18 pz0_19 pz0_22 pz0_23 pz0_29 fz1 tfz17 bpz0_5 bpz0_6 bpz0_7 bpz0_8 bpz0_10 bpz0_11 bpz0_12 bpz0_13 bpz0_14 bpz0_18 bpz0_22 bpz0_29 tfz1) mt_X10_stores q_7_60 ⟨Nat.le_of_ble_eq_true rfl, Nat.le_of_ble_eq_true rfl⟩ hK hP hD hS hA hE [2, 3, 4] rfl rfl 3 rfl rfl rfl rfl hl.1 rfl (Nat.le_of_ble_eq_true rfl) dX10_night_18 ⟨Nat.le_of_ble_eq_true rfl, Nat.le_of_ble_eq_true rfl⟩) hP hD hS hA [2, 3, 4] [0, 1] rfl rfl rfl (by decide) (fun  w H locs hw hP hD hS => ?_)
    obtain ⟨f_8, tf_8, rfl⟩ := hw
    have hP : va_P V.1 vwCl [(z 15, aI V 900 fz15), (z 16, aI V 6 fz16), (z 17, aI V 7 f_8), (z 0, .inr (10, mo z 0 pz0_5 pz0_6 pz0_7 pz0_8 pz0_9 pz0_10 pz0_11 pz0_12 pz0_13 pz0_14 pz0_18 pz0_19 pz0_22 pz0_23 pz0_29)), (z 1, aI V 3075 fz1)] H := hP
    have hD : va_D A [(z 15, aI V 900 fz15), (z 16, aI V 6 fz16), (z 17, aI V 7 f_8), (z 0, .inr (10, mo z 0 pz0_5 pz0_6 pz0_7 pz0_8 pz0_9 pz0_10 pz0_11 pz0_12 pz0_13 pz0_14 pz0_18 pz0_19 pz0_22 pz0_23 pz0_29)), (z 1, aI V 3075 fz1)] := hD
    refine lv_aload_n hx hb dX10_night_21 rfl (lv_at hl 0 rfl) ?_
    refine lv_iload_n hx hb dX10_night_22 rfl (lv_at hl 1 rfl) ?_
    refine jnV (wr := [(z 17, aI V 7 f_8)]) (rnV (rest := []) ⟨hx, hb, hml, hown, hg⟩ (k_X10_goesNight_0 l V z a1 fz15 fz16 0 pz0_5 pz0_6 pz0_7 pz0_8 pz0_9 pz0_10 pz0_11 pz0_12 pz0_13 pz0_14 pz0_18 pz0_19 pz0_22 pz0_23 pz0_29 fz1 b_7 tfz16 bpz0_5 bpz0_6 bpz0_7 bpz0_8 bpz0_10 bpz0_11 bpz0_12 bpz0_13 bpz0_14 bpz0_18 bpz0_22 bpz0_29 tfz1 hf0) mt_X10_goesNight q_7_64 ⟨Nat.le_of_ble_eq_true rfl, Nat.le_of_ble_eq_true rfl⟩ hK hP hD hS hA hE [0, 1, 3, 4] rfl rfl 3 rfl rfl rfl rfl hl.1 rfl (Nat.le_of_ble_eq_true rfl) dX10_night_23 ⟨Nat.le_of_ble_eq_true rfl, Nat.le_of_ble_eq_true rfl⟩) hP hD hS hA [0, 1, 3, 4] [2] rfl rfl rfl (by decide) (fun  w H locs hw hP hD hS => ?_)
    obtain ⟨f_9, f_10, f_11, tf_10, tf_11, g_12, rfl⟩ := hw
    have hP : va_P V.1 vwCl [(z 17, aI V 7 f_8), (z 15, aI V 900 f_9), (z 16, aI V 6 f_10), (z 0, .inr (10, mo z 0 pz0_5 pz0_6 pz0_7 pz0_8 pz0_9 pz0_10 pz0_11 pz0_12 pz0_13 pz0_14 pz0_18 pz0_19 pz0_22 pz0_23 pz0_29)), (z 1, aI V 3075 f_11)] H := hP
    have hD : va_D A [(z 17, aI V 7 f_8), (z 15, aI V 900 f_9), (z 16, aI V 6 f_10), (z 0, .inr (10, mo z 0 pz0_5 pz0_6 pz0_7 pz0_8 pz0_9 pz0_10 pz0_11 pz0_12 pz0_13 pz0_14 pz0_18 pz0_19 pz0_22 pz0_23 pz0_29)), (z 1, aI V 3075 f_11)] := hD
    refine lv_aload_n hx hb dX10_night_26 rfl (lv_at hl 0 rfl) ?_
    refine jnV (wr := [(z 15, aI V 900 f_9), (z 16, aI V 6 f_10)]) (rnV (rest := []) ⟨hx, hb, hml, hown, hg⟩ (k_X10_notes_0 l V z f_8 0 pz0_5 pz0_6 pz0_7 pz0_8 pz0_9 pz0_10 pz0_11 pz0_12 pz0_13 pz0_14 pz0_18 pz0_19 pz0_22 pz0_23 pz0_29 f_11 tf_8 bpz0_5 bpz0_6 bpz0_7 bpz0_8 bpz0_10 bpz0_11 bpz0_12 bpz0_13 bpz0_14 bpz0_18 bpz0_22 bpz0_29 tf_11 g_12) mt_X10_notes q_7_72 ⟨Nat.le_of_ble_eq_true rfl, Nat.le_of_ble_eq_true rfl⟩ hK hP hD hS hA hE [0, 3, 4] rfl rfl 3 rfl rfl rfl rfl hl.1 rfl (Nat.le_of_ble_eq_true rfl) dX10_night_27 ⟨Nat.le_of_ble_eq_true rfl, Nat.le_of_ble_eq_true rfl⟩) hP hD hS hA [0, 3, 4] [1, 2] rfl rfl rfl (by decide) (fun  w H locs hw hP hD hS => ?_)
    obtain ⟨f_13, tf_13, g_14, rfl⟩ := hw
    have hP : va_P V.1 vwCl [(z 15, aI V 900 f_9), (z 16, aI V 6 f_10), (z 17, aI V 7 f_8), (z 0, .inr (10, mo z 0 pz0_5 pz0_6 pz0_7 pz0_8 pz0_9 pz0_10 pz0_11 pz0_12 pz0_13 pz0_14 pz0_18 pz0_19 pz0_22 pz0_23 pz0_29)), (z 1, aI V 3075 f_13)] H := hP
    have hD : va_D A [(z 15, aI V 900 f_9), (z 16, aI V 6 f_10), (z 17, aI V 7 f_8), (z 0, .inr (10, mo z 0 pz0_5 pz0_6 pz0_7 pz0_8 pz0_9 pz0_10 pz0_11 pz0_12 pz0_13 pz0_14 pz0_18 pz0_19 pz0_22 pz0_23 pz0_29)), (z 1, aI V 3075 f_13)] := hD
    refine lv_aload_n hx hb dX10_night_30 rfl (lv_at hl 0 rfl) ?_
    refine va_get (ci := 10) (v := .ref (z 1)) (C := RX10) (T := TX10) (N := 40) hx hb hg inX10 hown hK hP 3 rfl rfl 1 (by decide) (hg _ q_5_225) (fun _ h9 => h9) rfl dX10_night_31 ?_
    refine lv_bipush (v := 50) hx hb dX10_night_34 (by decide) ?_
    refine va_iald hx hb hK hP 4 0 rfl rfl (vin (by decide +kernel)) dX10_night_36 ?_
    refine lv_topi (fun x_15 ex_15 => ?_)
    have bx_15 : iv 0 15 x_15 := by rw [ex_15]; exact rdT (a := 50) (n := 1) tf_13 (iv_c (50 : Int32) (a := 50) (b := 50) (by decide)) (by decide) (by decide +kernel)
    have hP := subP (ws' := [(z 0, .inr (10, mo z 0 pz0_5 pz0_6 pz0_7 pz0_8 pz0_9 pz0_10 pz0_11 pz0_12 pz0_13 pz0_14 pz0_18 pz0_19 pz0_22 pz0_23 pz0_29)), (z 1, aI V 3075 f_13), (z 15, aI V 900 f_9), (z 16, aI V 6 f_10), (z 17, aI V 7 f_8)]) hP [3, 4, 0, 1, 2] rfl
    have hD := hD.sub (ws' := [(z 0, .inr (10, mo z 0 pz0_5 pz0_6 pz0_7 pz0_8 pz0_9 pz0_10 pz0_11 pz0_12 pz0_13 pz0_14 pz0_18 pz0_19 pz0_22 pz0_23 pz0_29)), (z 1, aI V 3075 f_13), (z 15, aI V 900 f_9), (z 16, aI V 6 f_10), (z 17, aI V 7 f_8)]) [3, 4, 0, 1, 2] rfl rfl
    exact fiI hx hb hr hlk hK hP hD hS dX10_night_37 (Nat.le_of_ble_eq_true rfl) (Nat.le_of_ble_eq_true rfl) (⟨0, f_13, f_9, f_10, f_8, tf_13, tf_10, tf_8, (iv_w bx_15 (by decide)), g_14, rfl⟩)
  · have b_16 : iv 0 0 r_2 := iv_q c_4 (iv_c (0 : Int32) (a := 0) (b := 0) (by decide))
    refine lv_bipush (v := (-11)) hx hb dX10_night_14 (by decide) ?_
    have hP := subP (ws' := [(z 0, .inr (10, mo z 0 pz0_5 pz0_6 pz0_7 pz0_8 pz0_9 pz0_10 pz0_11 pz0_12 pz0_13 pz0_14 pz0_18 pz0_19 pz0_22 pz0_23 pz0_29)), (z 1, aI V 3075 fz1), (z 15, aI V 900 fz15), (z 16, aI V 6 fz16), (z 17, aI V 7 fz17)]) hP [3, 4, 0, 1, 2] rfl
    have hD := hD.sub (ws' := [(z 0, .inr (10, mo z 0 pz0_5 pz0_6 pz0_7 pz0_8 pz0_9 pz0_10 pz0_11 pz0_12 pz0_13 pz0_14 pz0_18 pz0_19 pz0_22 pz0_23 pz0_29)), (z 1, aI V 3075 fz1), (z 15, aI V 900 fz15), (z 16, aI V 6 fz16), (z 17, aI V 7 fz17)]) [3, 4, 0, 1, 2] rfl rfl
    exact fiI hx hb hr hlk hK hP hD hS dX10_night_16 (Nat.le_of_ble_eq_true rfl) (Nat.le_of_ble_eq_true rfl) (⟨0, fz1, fz15, fz16, fz17, tfz1, tfz16, tfz17, (iv_c ((-11) : Int32) (by decide)), hf0, rfl⟩)
theorem dX10_nights_0 : decode cX10_nights 0 = .ok (.aload_n 0, 1) := by decide +kernel
theorem dX10_nights_1 : decode cX10_nights 1 = .ok (.iconst 0, 1) := by decide +kernel
theorem dX10_nights_2 : decode cX10_nights 2 = .ok (.putfield 1, 3) := by decide +kernel
theorem dX10_nights_5 : decode cX10_nights 5 = .ok (.iload_n 1, 1) := by decide +kernel
theorem dX10_nights_6 : decode cX10_nights 6 = .ok (.i2l, 1) := by decide +kernel
theorem dX10_nights_7 : decode cX10_nights 7 = .ok (.lconst 1, 1) := by decide +kernel
theorem q_7_80 : Cond.constantLong "BeaconDelayModel" 287 (99 : Int64) ∈ gw := gw_7 (i := 80) (by decide +kernel) rfl
theorem dX10_nights_8 : decode cX10_nights 8 = .ok (.ldc2_w 287, 3) := by decide +kernel
theorem dX10_nights_11 : decode cX10_nights 11 = .ok (.invokestatic 159, 3) := by decide +kernel
theorem dX10_nights_14 : decode cX10_nights 14 = .ok (.ifCond .ne 6, 3) := by decide +kernel
theorem dX10_nights_20 : decode cX10_nights 20 = .ok (.aload_n 0, 1) := by decide +kernel
theorem dX10_nights_21 : decode cX10_nights 21 = .ok (.invokevirtual 278, 3) := by decide +kernel
theorem dX10_nights_24 : decode cX10_nights 24 = .ok (.iconst 0, 1) := by decide +kernel
theorem dX10_nights_25 : decode cX10_nights 25 = .ok (.istore_n 2, 1) := by decide +kernel
theorem dX10_nights_26 : decode cX10_nights 26 = .ok (.iload_n 2, 1) := by decide +kernel
theorem dX10_nights_27 : decode cX10_nights 27 = .ok (.iload_n 1, 1) := by decide +kernel
theorem dX10_nights_28 : decode cX10_nights 28 = .ok (.if_icmp .ge 14, 3) := by decide +kernel
theorem dX10_nights_42 : decode cX10_nights 42 = .ok (.aload_n 0, 1) := by decide +kernel
theorem dX10_nights_43 : decode cX10_nights 43 = .ok (.invokevirtual 284, 3) := by decide +kernel
theorem dX10_nights_46 : decode cX10_nights 46 = .ok (.aload_n 0, 1) := by decide +kernel
theorem dX10_nights_47 : decode cX10_nights 47 = .ok (.getfield 13, 3) := by decide +kernel
theorem dX10_nights_50 : decode cX10_nights 50 = .ok (.bipush 50, 2) := by decide +kernel
theorem dX10_nights_52 : decode cX10_nights 52 = .ok (.iaload, 1) := by decide +kernel
theorem dX10_nights_53 : decode cX10_nights 53 = .ok (.ireturn, 1) := by decide +kernel
theorem dX10_nights_31 : decode cX10_nights 31 = .ok (.aload_n 0, 1) := by decide +kernel
theorem dX10_nights_32 : decode cX10_nights 32 = .ok (.iconst 0, 1) := by decide +kernel
theorem dX10_nights_33 : decode cX10_nights 33 = .ok (.invokevirtual 281, 3) := by decide +kernel
theorem dX10_nights_36 : decode cX10_nights 36 = .ok (.iinc 2 1, 3) := by decide +kernel
theorem dX10_nights_39 : decode cX10_nights 39 = .ok (.goto (-13), 3) := by decide +kernel
theorem dX10_nights_17 : decode cX10_nights 17 = .ok (.bipush (-3), 2) := by decide +kernel
theorem dX10_nights_19 : decode cX10_nights 19 = .ok (.ireturn, 1) := by decide +kernel
set_option maxHeartbeats 4000000 in
set_option maxRecDepth 100000 in
theorem k_X10_nights_0 (l : Launch) (V : GV) (z : Nat → Nat) (a1 : Int32) (pz0_0 : Int32) (pz0_5 : Int32) (pz0_6 : Int32) (pz0_7 : Int32) (pz0_8 : Int32) (pz0_9 : Int32) (pz0_10 : Int32) (pz0_11 : Int32) (pz0_12 : Int32) (pz0_13 : Int32) (pz0_14 : Int32) (pz0_18 : Int32) (pz0_19 : Int32) (pz0_22 : Int32) (pz0_23 : Int32) (pz0_29 : Int32) (fz1 : Nat → Int32) (fz15 : Nat → Int32) (fz16 : Nat → Int32) (fz17 : Nat → Int32) (bpz0_5 : iv 0 900 pz0_5) (bpz0_6 : iv 0 900 pz0_6) (bpz0_7 : iv 0 900 pz0_7) (bpz0_8 : iv 0 900 pz0_8) (bpz0_10 : iv 0 999 pz0_10) (bpz0_11 : iv 0 4 pz0_11) (bpz0_12 : iv 0 900 pz0_12) (bpz0_13 : iv 0 4 pz0_13) (bpz0_14 : iv (-1) 900 pz0_14) (bpz0_18 : iv 0 2 pz0_18) (bpz0_22 : iv 0 9999 pz0_22) (bpz0_29 : iv 0 10000 pz0_29) (tfz1 : ivT tA fz1) (tfz16 : ivT tW fz16) (tfz17 : ivT tS fz17) (hf0 : RW fz1) : Ct l V yX10_nights (.code yX10_nights cX10_nights 3 (some .int)) 6 [.ref (z 0), .int a1] [(z 0, .inr (10, mo z pz0_0 pz0_5 pz0_6 pz0_7 pz0_8 pz0_9 pz0_10 pz0_11 pz0_12 pz0_13 pz0_14 pz0_18 pz0_19 pz0_22 pz0_23 pz0_29)), (z 1, aI V 3075 fz1), (z 15, aI V 900 fz15), (z 16, aI V 6 fz16), (z 17, aI V 7 fz17)] 0 0 (QI V (fun (r : Int32) (w : va_W) => ∃ (v0 : Int32) (g1 : Nat → Int32) (g2 : Nat → Int32) (g3 : Nat → Int32) (g4 : Nat → Int32), (ivT tA g1) ∧ (ivT tW g3) ∧ (ivT tS g4) ∧ iv (-3) 15 r ∧ (RW g1) ∧ w = [(z 0, .inr (10, mo z v0 pz0_5 pz0_6 pz0_7 pz0_8 pz0_9 pz0_10 pz0_11 pz0_12 pz0_13 pz0_14 pz0_18 pz0_19 pz0_22 pz0_23 pz0_29)), (z 1, aI V 3075 g1), (z 15, aI V 900 g2), (z 16, aI V 6 g3), (z 17, aI V 7 g4)])) := by
  refine Ct.of (by decide) (Nat.le_of_ble_eq_true rfl) (fun p e s m below meth c A ls hx hb hr hml hown hlk hnm hg hP hK hD hE hA hS hl => ?_)
  have hl : lv_has ls 3 [(0, .ref (z 0)), (1, .int a1)] := hl
  refine lv_aload_n hx hb dX10_nights_0 rfl (lv_at hl 0 rfl) ?_
  refine lv_iconst (v := 0) hx hb dX10_nights_1 (by decide) ?_
  refine va_put (ci := 10) (v := .int 0) (ty := .int) (C := RX10) (T := TX10) (N := 40) hx hb hg inX10 tyX10 tyX10_ok nmX10 hown hK hP hD hS 0 rfl rfl 0 (by decide) (hg _ q_5_224) (fun _ h9 => h9) rfl (by decide +kernel) rfl rfl (Nat.le_of_ble_eq_true rfl) dX10_nights_2 (fun H locs hP hD hS => ?_)
  have hP : va_P V.1 vwCl [(z 0, .inr (10, mo z 0 pz0_5 pz0_6 pz0_7 pz0_8 pz0_9 pz0_10 pz0_11 pz0_12 pz0_13 pz0_14 pz0_18 pz0_19 pz0_22 pz0_23 pz0_29)), (z 1, aI V 3075 fz1), (z 15, aI V 900 fz15), (z 16, aI V 6 fz16), (z 17, aI V 7 fz17)] H := hP
  have hD : va_D A [(z 0, .inr (10, mo z 0 pz0_5 pz0_6 pz0_7 pz0_8 pz0_9 pz0_10 pz0_11 pz0_12 pz0_13 pz0_14 pz0_18 pz0_19 pz0_22 pz0_23 pz0_29)), (z 1, aI V 3075 fz1), (z 15, aI V 900 fz15), (z 16, aI V 6 fz16), (z 17, aI V 7 fz17)] := hD
  refine lv_iload_n hx hb dX10_nights_5 rfl (lv_at hl 1 rfl) ?_
  refine lv_i2l hx hb dX10_nights_6 rfl ?_
  refine lv_topl (fun j_1 ej_1 => ?_)
  refine lv_lconst (v := 1) hx hb dX10_nights_7 (by decide) ?_
  refine lv_ldc2 (v := 99) hx hb hown (hg _ q_7_80) dX10_nights_8 ?_
  refine jnI (wr := [(z 0, .inr (10, mo z 0 pz0_5 pz0_6 pz0_7 pz0_8 pz0_9 pz0_10 pz0_11 pz0_12 pz0_13 pz0_14 pz0_18 pz0_19 pz0_22 pz0_23 pz0_29)), (z 1, aI V 3075 fz1), (z 15, aI V 900 fz15), (z 16, aI V 6 fz16), (z 17, aI V 7 fz17)]) (rnS (rest := []) ⟨hx, hb, hml, hown, hg⟩ (k_X10_within_0 l V j_1 1 99) mt_X10_within q_6_114 ⟨Nat.le_of_ble_eq_true rfl, Nat.le_of_ble_eq_true rfl⟩ hK hP hD hS hA hE [] rfl rfl rfl hl.1 rfl (Nat.le_of_ble_eq_true rfl) dX10_nights_11 ⟨Nat.le_of_ble_eq_true rfl, Nat.le_of_ble_eq_true rfl⟩) hP hD hS hA [] [0, 1, 2, 3, 4] rfl rfl rfl (by decide) (fun r_2 w H locs hw hP hD hS => ?_)
  obtain ⟨br_2, g_3, g_4, g_5, rfl⟩ := hw
  have hP : va_P V.1 vwCl [(z 0, .inr (10, mo z 0 pz0_5 pz0_6 pz0_7 pz0_8 pz0_9 pz0_10 pz0_11 pz0_12 pz0_13 pz0_14 pz0_18 pz0_19 pz0_22 pz0_23 pz0_29)), (z 1, aI V 3075 fz1), (z 15, aI V 900 fz15), (z 16, aI V 6 fz16), (z 17, aI V 7 fz17)] H := hP
  have hD : va_D A [(z 0, .inr (10, mo z 0 pz0_5 pz0_6 pz0_7 pz0_8 pz0_9 pz0_10 pz0_11 pz0_12 pz0_13 pz0_14 pz0_18 pz0_19 pz0_22 pz0_23 pz0_29)), (z 1, aI V 3075 fz1), (z 15, aI V 900 fz15), (z 16, aI V 6 fz16), (z 17, aI V 7 fz17)] := hD
  refine lv_if_ne (tgt := 20) hx hb dX10_nights_14 (by decide) (fun c_6 => ?_) (fun c_6 => ?_)
  · have b_7 : iv 1 1 r_2 := iv_n0 c_6 br_2 (iv_c (0 : Int32) (a := 0) (b := 0) (by decide)) (by decide)
    have c_8 : (1 : Int64) ≤ j_1 := (g_4 (iv_eqp b_7 (iv_c (1 : Int32) (by decide))))
    have b_9 : ivL 1 9223372036854775807 j_1 := ivL_e2 c_8 (ivL_c (1 : Int64) (a := 1) (b := 1) (by decide)) (ivL_top j_1) (by decide)
    have b_10 : iv 1 2147483647 a1 := iv_cap (ivL_i ej_1 b_9) (iv_top a1) (by decide)
    have c_11 : j_1 ≤ 99 := (g_5 (iv_eqp b_7 (iv_c (1 : Int32) (by decide))))
    have b_12 : ivL 1 99 j_1 := ivL_e1 c_11 b_9 (ivL_c (99 : Int64) (a := 99) (b := 99) (by decide)) (by decide)
    have b_13 : iv 1 99 a1 := iv_cap (ivL_i ej_1 b_12) b_10 (by decide)
    refine lv_aload_n hx hb dX10_nights_20 rfl (lv_at hl 0 rfl) ?_
    refine jnV (wr := [(z 15, aI V 900 fz15), (z 16, aI V 6 fz16)]) (rnV (rest := []) ⟨hx, hb, hml, hown, hg⟩ (k_X10_stores_0 l V z fz17 0 pz0_5 pz0_6 pz0_7 pz0_8 pz0_9 pz0_10 pz0_11 pz0_12 pz0_13 pz0_14 pz0_18 pz0_19 pz0_22 pz0_23 pz0_29 fz1 tfz17 bpz0_5 bpz0_6 bpz0_7 bpz0_8 bpz0_10 bpz0_11 bpz0_12 bpz0_13 bpz0_14 bpz0_18 bpz0_22 bpz0_29 tfz1) mt_X10_stores q_7_60 ⟨Nat.le_of_ble_eq_true rfl, Nat.le_of_ble_eq_true rfl⟩ hK hP hD hS hA hE [4, 0, 1] rfl rfl 0 rfl rfl rfl rfl hl.1 rfl (Nat.le_of_ble_eq_true rfl) dX10_nights_21 ⟨Nat.le_of_ble_eq_true rfl, Nat.le_of_ble_eq_true rfl⟩) hP hD hS hA [4, 0, 1] [2, 3] rfl rfl rfl (by decide) (fun  w H locs hw hP hD hS => ?_)
    obtain ⟨f_14, tf_14, rfl⟩ := hw
    have hP : va_P V.1 vwCl [(z 15, aI V 900 fz15), (z 16, aI V 6 fz16), (z 17, aI V 7 f_14), (z 0, .inr (10, mo z 0 pz0_5 pz0_6 pz0_7 pz0_8 pz0_9 pz0_10 pz0_11 pz0_12 pz0_13 pz0_14 pz0_18 pz0_19 pz0_22 pz0_23 pz0_29)), (z 1, aI V 3075 fz1)] H := hP
    have hD : va_D A [(z 15, aI V 900 fz15), (z 16, aI V 6 fz16), (z 17, aI V 7 f_14), (z 0, .inr (10, mo z 0 pz0_5 pz0_6 pz0_7 pz0_8 pz0_9 pz0_10 pz0_11 pz0_12 pz0_13 pz0_14 pz0_18 pz0_19 pz0_22 pz0_23 pz0_29)), (z 1, aI V 3075 fz1)] := hD
    refine lv_iconst (v := 0) hx hb dX10_nights_24 (by decide) ?_
    refine lv_istore_n (lv' := [(2, .int 0), (0, .ref (z 0)), (1, .int a1)]) hx hb dX10_nights_25 rfl hl (by decide) rfl (fun ls hl => ?_)
    refine loopF (X := fun (n_19 : Nat) (H : Heap) (locs : List Loc) (ls : Array Slot) => ∃ (u_15 : Int32) (f_16 : Nat → Int32) (f_17 : Nat → Int32) (f_18 : Nat → Int32), (iv 0 2147483647 u_15) ∧ (ivT tW f_17) ∧ (ivT tA f_18) ∧ (RW f_18) ∧ n_19 = (2147483647 - (u_15 : Int32).toInt).toNat ∧ va_P V.1 vwCl [(z 15, aI V 900 f_16), (z 16, aI V 6 f_17), (z 17, aI V 7 f_14), (z 0, .inr (10, mo z 0 pz0_5 pz0_6 pz0_7 pz0_8 pz0_9 pz0_10 pz0_11 pz0_12 pz0_13 pz0_14 pz0_18 pz0_19 pz0_22 pz0_23 pz0_29)), (z 1, aI V 3075 f_18)] H ∧ va_D A [(z 15, aI V 900 f_16), (z 16, aI V 6 f_17), (z 17, aI V 7 f_14), (z 0, .inr (10, mo z 0 pz0_5 pz0_6 pz0_7 pz0_8 pz0_9 pz0_10 pz0_11 pz0_12 pz0_13 pz0_14 pz0_18 pz0_19 pz0_22 pz0_23 pz0_29)), (z 1, aI V 3075 f_18)] ∧ va_S A s.heap H locs ∧ lv_has ls 3 [(2, .int u_15), (0, .ref (z 0)), (1, .int a1)]) (g := fun ls => F0 m 26 ls []) (fun n_19 H locs ls hX ihn_19 => ?_) _ ⟨0, fz15, fz16, fz1, (iv_c (0 : Int32) (by decide)), tfz16, tfz1, hf0, rfl, hP, hD, hS, lv_sub hl [0, 1, 2] rfl⟩
    obtain ⟨u_15, f_16, f_17, f_18, bu_15, tf_17, tf_18, inn_19_0, en_19, hP, hD, hS, hl⟩ := hX
    refine lv_iload_n hx hb dX10_nights_26 rfl (lv_at hl 0 rfl) ?_
    refine lv_iload_n hx hb dX10_nights_27 rfl (lv_at hl 2 rfl) ?_
    refine lv_icmp_ge (tgt := 42) hx hb dX10_nights_28 (by decide) (fun c_20 => ?_) (fun c_20 => ?_)
    · have b_21 : iv 1 2147483647 u_15 := iv_e2 c_20 b_13 bu_15 (by decide)
      refine lv_aload_n hx hb dX10_nights_42 rfl (lv_at hl 1 rfl) ?_
      refine jnV (wr := [(z 15, aI V 900 f_16), (z 16, aI V 6 f_17)]) (rnV (rest := []) ⟨hx, hb, hml, hown, hg⟩ (k_X10_notes_0 l V z f_14 0 pz0_5 pz0_6 pz0_7 pz0_8 pz0_9 pz0_10 pz0_11 pz0_12 pz0_13 pz0_14 pz0_18 pz0_19 pz0_22 pz0_23 pz0_29 f_18 tf_14 bpz0_5 bpz0_6 bpz0_7 bpz0_8 bpz0_10 bpz0_11 bpz0_12 bpz0_13 bpz0_14 bpz0_18 bpz0_22 bpz0_29 tf_18 inn_19_0) mt_X10_notes q_7_72 ⟨Nat.le_of_ble_eq_true rfl, Nat.le_of_ble_eq_true rfl⟩ hK hP hD hS hA hE [2, 3, 4] rfl rfl 3 rfl rfl rfl rfl hl.1 rfl (Nat.le_of_ble_eq_true rfl) dX10_nights_43 ⟨Nat.le_of_ble_eq_true rfl, Nat.le_of_ble_eq_true rfl⟩) hP hD hS hA [2, 3, 4] [0, 1] rfl rfl rfl (by decide) (fun  w H locs hw hP hD hS => ?_)
      obtain ⟨f_22, tf_22, g_23, rfl⟩ := hw
      have hP : va_P V.1 vwCl [(z 15, aI V 900 f_16), (z 16, aI V 6 f_17), (z 17, aI V 7 f_14), (z 0, .inr (10, mo z 0 pz0_5 pz0_6 pz0_7 pz0_8 pz0_9 pz0_10 pz0_11 pz0_12 pz0_13 pz0_14 pz0_18 pz0_19 pz0_22 pz0_23 pz0_29)), (z 1, aI V 3075 f_22)] H := hP
      have hD : va_D A [(z 15, aI V 900 f_16), (z 16, aI V 6 f_17), (z 17, aI V 7 f_14), (z 0, .inr (10, mo z 0 pz0_5 pz0_6 pz0_7 pz0_8 pz0_9 pz0_10 pz0_11 pz0_12 pz0_13 pz0_14 pz0_18 pz0_19 pz0_22 pz0_23 pz0_29)), (z 1, aI V 3075 f_22)] := hD
      refine lv_aload_n hx hb dX10_nights_46 rfl (lv_at hl 1 rfl) ?_
      refine va_get (ci := 10) (v := .ref (z 1)) (C := RX10) (T := TX10) (N := 40) hx hb hg inX10 hown hK hP 3 rfl rfl 1 (by decide) (hg _ q_5_225) (fun _ h9 => h9) rfl dX10_nights_47 ?_
      refine lv_bipush (v := 50) hx hb dX10_nights_50 (by decide) ?_
      refine va_iald hx hb hK hP 4 0 rfl rfl (vin (by decide +kernel)) dX10_nights_52 ?_
      refine lv_topi (fun x_24 ex_24 => ?_)
      have bx_24 : iv 0 15 x_24 := by rw [ex_24]; exact rdT (a := 50) (n := 1) tf_22 (iv_c (50 : Int32) (a := 50) (b := 50) (by decide)) (by decide) (by decide +kernel)
      have hP := subP (ws' := [(z 0, .inr (10, mo z 0 pz0_5 pz0_6 pz0_7 pz0_8 pz0_9 pz0_10 pz0_11 pz0_12 pz0_13 pz0_14 pz0_18 pz0_19 pz0_22 pz0_23 pz0_29)), (z 1, aI V 3075 f_22), (z 15, aI V 900 f_16), (z 16, aI V 6 f_17), (z 17, aI V 7 f_14)]) hP [3, 4, 0, 1, 2] rfl
      have hD := hD.sub (ws' := [(z 0, .inr (10, mo z 0 pz0_5 pz0_6 pz0_7 pz0_8 pz0_9 pz0_10 pz0_11 pz0_12 pz0_13 pz0_14 pz0_18 pz0_19 pz0_22 pz0_23 pz0_29)), (z 1, aI V 3075 f_22), (z 15, aI V 900 f_16), (z 16, aI V 6 f_17), (z 17, aI V 7 f_14)]) [3, 4, 0, 1, 2] rfl rfl
      exact fiI hx hb hr hlk hK hP hD hS dX10_nights_53 (Nat.le_of_ble_eq_true rfl) (Nat.le_of_ble_eq_true rfl) (⟨0, f_22, f_16, f_17, f_14, tf_22, tf_17, tf_14, (iv_w bx_24 (by decide)), g_23, rfl⟩)
    · have b_25 : iv 0 98 u_15 := iv_l1 (Int32.not_le.mp c_20) bu_15 b_13 (by decide)
      refine lv_aload_n hx hb dX10_nights_31 rfl (lv_at hl 1 rfl) ?_
      refine lv_iconst (v := 0) hx hb dX10_nights_32 (by decide) ?_
      refine jnV (wr := [(z 17, aI V 7 f_14)]) (rnV (rest := []) ⟨hx, hb, hml, hown, hg⟩ (k_X10_goesNight_0 l V z 0 f_16 f_17 0 pz0_5 pz0_6 pz0_7 pz0_8 pz0_9 pz0_10 pz0_11 pz0_12 pz0_13 pz0_14 pz0_18 pz0_19 pz0_22 pz0_23 pz0_29 f_18 (iv_c (0 : Int32) (by decide)) tf_17 bpz0_5 bpz0_6 bpz0_7 bpz0_8 bpz0_10 bpz0_11 bpz0_12 bpz0_13 bpz0_14 bpz0_18 bpz0_22 bpz0_29 tf_18 inn_19_0) mt_X10_goesNight q_7_64 ⟨Nat.le_of_ble_eq_true rfl, Nat.le_of_ble_eq_true rfl⟩ hK hP hD hS hA hE [0, 1, 3, 4] rfl rfl 3 rfl rfl rfl rfl hl.1 rfl (Nat.le_of_ble_eq_true rfl) dX10_nights_33 ⟨Nat.le_of_ble_eq_true rfl, Nat.le_of_ble_eq_true rfl⟩) hP hD hS hA [0, 1, 3, 4] [2] rfl rfl rfl (by decide) (fun  w H locs hw hP hD hS => ?_)
      obtain ⟨f_26, f_27, f_28, tf_27, tf_28, g_29, rfl⟩ := hw
      have hP : va_P V.1 vwCl [(z 17, aI V 7 f_14), (z 15, aI V 900 f_26), (z 16, aI V 6 f_27), (z 0, .inr (10, mo z 0 pz0_5 pz0_6 pz0_7 pz0_8 pz0_9 pz0_10 pz0_11 pz0_12 pz0_13 pz0_14 pz0_18 pz0_19 pz0_22 pz0_23 pz0_29)), (z 1, aI V 3075 f_28)] H := hP
      have hD : va_D A [(z 17, aI V 7 f_14), (z 15, aI V 900 f_26), (z 16, aI V 6 f_27), (z 0, .inr (10, mo z 0 pz0_5 pz0_6 pz0_7 pz0_8 pz0_9 pz0_10 pz0_11 pz0_12 pz0_13 pz0_14 pz0_18 pz0_19 pz0_22 pz0_23 pz0_29)), (z 1, aI V 3075 f_28)] := hD
      obtain ⟨x_30, ex_30⟩ : ∃ z9 : Int32, z9 = u_15 + 1 := ⟨_, rfl⟩
      have bx_30 : iv 1 99 x_30 := by rw [ex_30]; exact iv_add b_25 (iv_c (1 : Int32) (a := 1) (b := 1) (by decide)) (by decide)
      refine lv_iinc (v := x_30) (lv' := [(2, .int x_30), (0, .ref (z 0)), (1, .int a1)]) hx hb dX10_nights_36 hl (k := 0) rfl (by rw [ex_30]; rfl) (by decide) rfl (fun ls hl => ?_)
      refine lv_goto (tgt := 26) hx hb dX10_nights_39 (by decide) ?_
      have hP := subP (ws' := [(z 15, aI V 900 f_26), (z 16, aI V 6 f_27), (z 17, aI V 7 f_14), (z 0, .inr (10, mo z 0 pz0_5 pz0_6 pz0_7 pz0_8 pz0_9 pz0_10 pz0_11 pz0_12 pz0_13 pz0_14 pz0_18 pz0_19 pz0_22 pz0_23 pz0_29)), (z 1, aI V 3075 f_28)]) hP [1, 2, 0, 3, 4] rfl
      have hD := hD.sub (ws' := [(z 15, aI V 900 f_26), (z 16, aI V 6 f_27), (z 17, aI V 7 f_14), (z 0, .inr (10, mo z 0 pz0_5 pz0_6 pz0_7 pz0_8 pz0_9 pz0_10 pz0_11 pz0_12 pz0_13 pz0_14 pz0_18 pz0_19 pz0_22 pz0_23 pz0_29)), (z 1, aI V 3075 f_28)]) [1, 2, 0, 3, 4] rfl rfl
      exact ihn_19 _ _ _ _ (by rw [en_19, ex_30]; exact mu_up b_25 (by decide)) ⟨x_30, f_26, f_27, f_28, (iv_w bx_30 (by decide)), tf_27, tf_28, g_29, rfl, hP, hD, hS, lv_sub hl [0, 1, 2] rfl⟩
  · have b_31 : iv 0 0 r_2 := iv_q c_6 (iv_c (0 : Int32) (a := 0) (b := 0) (by decide))
    refine lv_bipush (v := (-3)) hx hb dX10_nights_17 (by decide) ?_
    exact fiI hx hb hr hlk hK hP hD hS dX10_nights_19 (Nat.le_of_ble_eq_true rfl) (Nat.le_of_ble_eq_true rfl) (⟨0, fz1, fz15, fz16, fz17, tfz1, tfz16, tfz17, (iv_c ((-3) : Int32) (by decide)), hf0, rfl⟩)
theorem dX10_whySteal_0 : decode cX10_whySteal 0 = .ok (.aload_n 0, 1) := by decide +kernel
theorem dX10_whySteal_1 : decode cX10_whySteal 1 = .ok (.lload_n 1, 1) := by decide +kernel
theorem dX10_whySteal_2 : decode cX10_whySteal 2 = .ok (.invokevirtual 262, 3) := by decide +kernel
theorem dX10_whySteal_5 : decode cX10_whySteal 5 = .ok (.ifCond .ne 7, 3) := by decide +kernel
theorem dX10_whySteal_12 : decode cX10_whySteal 12 = .ok (.aload_n 0, 1) := by decide +kernel
theorem dX10_whySteal_13 : decode cX10_whySteal 13 = .ok (.getfield 13, 3) := by decide +kernel
theorem dX10_whySteal_16 : decode cX10_whySteal 16 = .ok (.bipush 46, 2) := by decide +kernel
theorem dX10_whySteal_18 : decode cX10_whySteal 18 = .ok (.lload_n 1, 1) := by decide +kernel
theorem dX10_whySteal_19 : decode cX10_whySteal 19 = .ok (.l2i, 1) := by decide +kernel
theorem dX10_whySteal_20 : decode cX10_whySteal 20 = .ok (.iadd, 1) := by decide +kernel
theorem dX10_whySteal_21 : decode cX10_whySteal 21 = .ok (.iaload, 1) := by decide +kernel
theorem dX10_whySteal_22 : decode cX10_whySteal 22 = .ok (.ifCond .ne 7, 3) := by decide +kernel
theorem dX10_whySteal_29 : decode cX10_whySteal 29 = .ok (.iconst 0, 1) := by decide +kernel
theorem dX10_whySteal_30 : decode cX10_whySteal 30 = .ok (.ireturn, 1) := by decide +kernel
theorem dX10_whySteal_25 : decode cX10_whySteal 25 = .ok (.iconst 2, 1) := by decide +kernel
theorem dX10_whySteal_26 : decode cX10_whySteal 26 = .ok (.goto 4, 3) := by decide +kernel
theorem dX10_whySteal_8 : decode cX10_whySteal 8 = .ok (.iconst 1, 1) := by decide +kernel
theorem dX10_whySteal_9 : decode cX10_whySteal 9 = .ok (.goto 21, 3) := by decide +kernel
set_option maxHeartbeats 4000000 in
set_option maxRecDepth 100000 in
theorem k_X10_whySteal_0 (l : Launch) (V : GV) (z : Nat → Nat) (k1 : Int64) (pz0_0 : Int32) (pz0_5 : Int32) (pz0_6 : Int32) (pz0_7 : Int32) (pz0_8 : Int32) (pz0_9 : Int32) (pz0_10 : Int32) (pz0_11 : Int32) (pz0_12 : Int32) (pz0_13 : Int32) (pz0_14 : Int32) (pz0_18 : Int32) (pz0_19 : Int32) (pz0_22 : Int32) (pz0_23 : Int32) (pz0_29 : Int32) (fz1 : Nat → Int32) (bpz0_5 : iv 0 900 pz0_5) (bpz0_6 : iv 0 900 pz0_6) (bpz0_7 : iv 0 900 pz0_7) (bpz0_8 : iv 0 900 pz0_8) (bpz0_10 : iv 0 999 pz0_10) (bpz0_11 : iv 0 4 pz0_11) (bpz0_12 : iv 0 900 pz0_12) (bpz0_13 : iv 0 4 pz0_13) (bpz0_14 : iv (-1) 900 pz0_14) (bpz0_18 : iv 0 2 pz0_18) (bpz0_22 : iv 0 9999 pz0_22) (bpz0_29 : iv 0 10000 pz0_29) (tfz1 : ivT tA fz1) : Ct l V yX10_whySteal (.code yX10_whySteal cX10_whySteal 3 (some .int)) 3 [.ref (z 0), .long k1] [(z 0, .inr (10, mo z pz0_0 pz0_5 pz0_6 pz0_7 pz0_8 pz0_9 pz0_10 pz0_11 pz0_12 pz0_13 pz0_14 pz0_18 pz0_19 pz0_22 pz0_23 pz0_29)), (z 1, aI V 3075 fz1)] 0 0 (QI V (fun (r : Int32) (w : va_W) => iv 0 2 r ∧ (r = 0 → SP fz1 (k1 : Int64).toInt) ∧ (r = 0 → ivL 0 3 k1) ∧ w = [(z 0, .inr (10, mo z pz0_0 pz0_5 pz0_6 pz0_7 pz0_8 pz0_9 pz0_10 pz0_11 pz0_12 pz0_13 pz0_14 pz0_18 pz0_19 pz0_22 pz0_23 pz0_29)), (z 1, aI V 3075 fz1)])) := by
  refine Ct.of (by decide) (Nat.le_of_ble_eq_true rfl) (fun p e s m below meth c A ls hx hb hr hml hown hlk hnm hg hP hK hD hE hA hS hl => ?_)
  have hl : lv_has ls 3 [(0, .ref (z 0)), (1, .long k1)] := hl
  refine lv_aload_n hx hb dX10_whySteal_0 rfl (lv_at hl 0 rfl) ?_
  refine lv_lload_n hx hb dX10_whySteal_1 rfl (lv_at hl 1 rfl) ?_
  refine jnI (wr := []) (rnV (rest := []) ⟨hx, hb, hml, hown, hg⟩ (k_X10_isHill_0 l V z k1 pz0_0 pz0_5 pz0_6 pz0_7 pz0_8 pz0_9 pz0_10 pz0_11 pz0_12 pz0_13 pz0_14 pz0_18 pz0_19 pz0_22 pz0_23 pz0_29 fz1 bpz0_5 bpz0_6 bpz0_7 bpz0_8 bpz0_10 bpz0_11 bpz0_12 bpz0_13 bpz0_14 bpz0_18 bpz0_22 bpz0_29 tfz1) mt_X10_isHill q_6_235 ⟨Nat.le_of_ble_eq_true rfl, Nat.le_of_ble_eq_true rfl⟩ hK hP hD hS hA hE [0, 1] rfl rfl 0 rfl rfl rfl rfl hl.1 rfl (Nat.le_of_ble_eq_true rfl) dX10_whySteal_2 ⟨Nat.le_of_ble_eq_true rfl, Nat.le_of_ble_eq_true rfl⟩) hP hD hS hA [0, 1] [] rfl rfl rfl (by decide) (fun r_1 w H locs hw hP hD hS => ?_)
  obtain ⟨br_1, g_2, rfl⟩ := hw
  have hP : va_P V.1 vwCl [(z 0, .inr (10, mo z pz0_0 pz0_5 pz0_6 pz0_7 pz0_8 pz0_9 pz0_10 pz0_11 pz0_12 pz0_13 pz0_14 pz0_18 pz0_19 pz0_22 pz0_23 pz0_29)), (z 1, aI V 3075 fz1)] H := hP
  have hD : va_D A [(z 0, .inr (10, mo z pz0_0 pz0_5 pz0_6 pz0_7 pz0_8 pz0_9 pz0_10 pz0_11 pz0_12 pz0_13 pz0_14 pz0_18 pz0_19 pz0_22 pz0_23 pz0_29)), (z 1, aI V 3075 fz1)] := hD
  refine lv_if_ne (tgt := 12) hx hb dX10_whySteal_5 (by decide) (fun c_3 => ?_) (fun c_3 => ?_)
  · have b_4 : iv 1 1 r_1 := iv_n0 c_3 br_1 (iv_c (0 : Int32) (a := 0) (b := 0) (by decide)) (by decide)
    have b_5 : ivL 0 3 k1 := ivL_cap (g_2 (iv_eqp b_4 (iv_c (1 : Int32) (by decide)))) (ivL_top k1) (by decide)
    refine lv_aload_n hx hb dX10_whySteal_12 rfl (lv_at hl 0 rfl) ?_
    refine va_get (ci := 10) (v := .ref (z 1)) (C := RX10) (T := TX10) (N := 40) hx hb hg inX10 hown hK hP 0 rfl rfl 1 (by decide) (hg _ q_5_225) (fun _ h9 => h9) rfl dX10_whySteal_13 ?_
    refine lv_bipush (v := 46) hx hb dX10_whySteal_16 (by decide) ?_
    refine lv_lload_n hx hb dX10_whySteal_18 rfl (lv_at hl 1 rfl) ?_
    refine lv_l2i hx hb dX10_whySteal_19 rfl ?_
    refine lv_topi (fun x_6 ex_6 => ?_)
    have bx_6 : iv 0 3 x_6 := by rw [ex_6]; exact iv_ofL b_5 (by decide)
    refine lv_iadd hx hb dX10_whySteal_20 ?_
    refine lv_topi (fun x_7 ex_7 => ?_)
    have bx_7 : iv 46 49 x_7 := by rw [ex_7]; exact iv_add (iv_c (46 : Int32) (a := 46) (b := 46) (by decide)) bx_6 (by decide)
    refine va_iald hx hb hK hP 1 0 rfl rfl (iv_in bx_7 (by decide)) dX10_whySteal_21 ?_
    refine lv_topi (fun x_8 ex_8 => ?_)
    have bx_8 : iv 0 4 x_8 := by rw [ex_8]; exact rdT (a := 46) (n := 4) tfz1 bx_7 (by decide) (by decide +kernel)
    refine lv_if_ne (tgt := 29) hx hb dX10_whySteal_22 (by decide) (fun c_9 => ?_) (fun c_9 => ?_)
    · have b_10 : iv 1 4 x_8 := iv_n0 c_9 bx_8 (iv_c (0 : Int32) (a := 0) (b := 0) (by decide)) (by decide)
      refine lv_iconst (v := 0) hx hb dX10_whySteal_29 (by decide) ?_
      exact fiI hx hb hr hlk hK hP hD hS dX10_whySteal_30 (Nat.le_of_ble_eq_true rfl) (Nat.le_of_ble_eq_true rfl) (⟨(iv_c (0 : Int32) (by decide)), (fun _ => SP_o b_5 (by decide) ex_6 ex_7 ex_8 bx_8 c_9), (fun _ => b_5), rfl⟩)
    · have b_11 : iv 0 0 x_8 := iv_q c_9 (iv_c (0 : Int32) (a := 0) (b := 0) (by decide))
      refine lv_iconst (v := 2) hx hb dX10_whySteal_25 (by decide) ?_
      refine lv_goto (tgt := 30) hx hb dX10_whySteal_26 (by decide) ?_
      exact fiI hx hb hr hlk hK hP hD hS dX10_whySteal_30 (Nat.le_of_ble_eq_true rfl) (Nat.le_of_ble_eq_true rfl) (⟨(iv_c (2 : Int32) (by decide)), (fun q9 => absurd q9 (by decide)), (fun q9 => absurd q9 (by decide)), rfl⟩)
  · have b_12 : iv 0 0 r_1 := iv_q c_3 (iv_c (0 : Int32) (a := 0) (b := 0) (by decide))
    refine lv_iconst (v := 1) hx hb dX10_whySteal_8 (by decide) ?_
    refine lv_goto (tgt := 30) hx hb dX10_whySteal_9 (by decide) ?_
    exact fiI hx hb hr hlk hK hP hD hS dX10_whySteal_30 (Nat.le_of_ble_eq_true rfl) (Nat.le_of_ble_eq_true rfl) (⟨(iv_c (1 : Int32) (by decide)), (fun q9 => absurd q9 (by decide)), (fun q9 => absurd q9 (by decide)), rfl⟩)
theorem dX10_steals_0 : decode cX10_steals 0 = .ok (.aload_n 0, 1) := by decide +kernel
theorem dX10_steals_1 : decode cX10_steals 1 = .ok (.getfield 13, 3) := by decide +kernel
theorem dX10_steals_4 : decode cX10_steals 4 = .ok (.bipush 46, 2) := by decide +kernel
theorem dX10_steals_6 : decode cX10_steals 6 = .ok (.iload_n 1, 1) := by decide +kernel
theorem dX10_steals_7 : decode cX10_steals 7 = .ok (.iadd, 1) := by decide +kernel
theorem dX10_steals_8 : decode cX10_steals 8 = .ok (.dup2, 1) := by decide +kernel
theorem dX10_steals_9 : decode cX10_steals 9 = .ok (.iaload, 1) := by decide +kernel
theorem dX10_steals_10 : decode cX10_steals 10 = .ok (.iconst 1, 1) := by decide +kernel
theorem dX10_steals_11 : decode cX10_steals 11 = .ok (.isub, 1) := by decide +kernel
theorem dX10_steals_12 : decode cX10_steals 12 = .ok (.iastore, 1) := by decide +kernel
theorem dX10_steals_13 : decode cX10_steals 13 = .ok (.aload_n 0, 1) := by decide +kernel
theorem dX10_steals_14 : decode cX10_steals 14 = .ok (.getfield 13, 3) := by decide +kernel
theorem dX10_steals_17 : decode cX10_steals 17 = .ok (.bipush 50, 2) := by decide +kernel
theorem dX10_steals_19 : decode cX10_steals 19 = .ok (.dup2, 1) := by decide +kernel
theorem dX10_steals_20 : decode cX10_steals 20 = .ok (.iaload, 1) := by decide +kernel
theorem dX10_steals_21 : decode cX10_steals 21 = .ok (.iconst 1, 1) := by decide +kernel
theorem dX10_steals_22 : decode cX10_steals 22 = .ok (.iload_n 1, 1) := by decide +kernel
theorem dX10_steals_23 : decode cX10_steals 23 = .ok (.ishl, 1) := by decide +kernel
theorem dX10_steals_24 : decode cX10_steals 24 = .ok (.ior, 1) := by decide +kernel
theorem dX10_steals_25 : decode cX10_steals 25 = .ok (.iastore, 1) := by decide +kernel
theorem dX10_steals_26 : decode cX10_steals 26 = .ok (.return_, 1) := by decide +kernel
set_option maxHeartbeats 4000000 in
set_option maxRecDepth 100000 in
theorem k_X10_steals_0 (l : Launch) (V : GV) (z : Nat → Nat) (a1 : Int32) (pz0_0 : Int32) (pz0_5 : Int32) (pz0_6 : Int32) (pz0_7 : Int32) (pz0_8 : Int32) (pz0_9 : Int32) (pz0_10 : Int32) (pz0_11 : Int32) (pz0_12 : Int32) (pz0_13 : Int32) (pz0_14 : Int32) (pz0_18 : Int32) (pz0_19 : Int32) (pz0_22 : Int32) (pz0_23 : Int32) (pz0_29 : Int32) (fz1 : Nat → Int32) (ba1 : iv 0 3 a1) (bpz0_5 : iv 0 900 pz0_5) (bpz0_6 : iv 0 900 pz0_6) (bpz0_7 : iv 0 900 pz0_7) (bpz0_8 : iv 0 900 pz0_8) (bpz0_10 : iv 0 999 pz0_10) (bpz0_11 : iv 0 4 pz0_11) (bpz0_12 : iv 0 900 pz0_12) (bpz0_13 : iv 0 4 pz0_13) (bpz0_14 : iv (-1) 900 pz0_14) (bpz0_18 : iv 0 2 pz0_18) (bpz0_22 : iv 0 9999 pz0_22) (bpz0_29 : iv 0 10000 pz0_29) (tfz1 : ivT tA fz1) (hf0 : RW fz1) (hf1 : SP fz1 (a1 : Int32).toInt) : Ct l V yX10_steals (.code yX10_steals cX10_steals 2 none) 1 [.ref (z 0), .int a1] [(z 0, .inr (10, mo z pz0_0 pz0_5 pz0_6 pz0_7 pz0_8 pz0_9 pz0_10 pz0_11 pz0_12 pz0_13 pz0_14 pz0_18 pz0_19 pz0_22 pz0_23 pz0_29)), (z 1, aI V 3075 fz1)] 0 0 (QV V (fun (w : va_W) => ∃ (g0 : Nat → Int32), (ivT tA g0) ∧ (RW g0) ∧ w = [(z 0, .inr (10, mo z pz0_0 pz0_5 pz0_6 pz0_7 pz0_8 pz0_9 pz0_10 pz0_11 pz0_12 pz0_13 pz0_14 pz0_18 pz0_19 pz0_22 pz0_23 pz0_29)), (z 1, aI V 3075 g0)])) := by
  refine Ct.of (by decide) (Nat.le_of_ble_eq_true rfl) (fun p e s m below meth c A ls hx hb hr hml hown hlk hnm hg hP hK hD hE hA hS hl => ?_)
  have hl : lv_has ls 2 [(0, .ref (z 0)), (1, .int a1)] := hl
  refine lv_aload_n hx hb dX10_steals_0 rfl (lv_at hl 0 rfl) ?_
  refine va_get (ci := 10) (v := .ref (z 1)) (C := RX10) (T := TX10) (N := 40) hx hb hg inX10 hown hK hP 0 rfl rfl 1 (by decide) (hg _ q_5_225) (fun _ h9 => h9) rfl dX10_steals_1 ?_
  refine lv_bipush (v := 46) hx hb dX10_steals_4 (by decide) ?_
  refine lv_iload_n hx hb dX10_steals_6 rfl (lv_at hl 1 rfl) ?_
  refine lv_iadd hx hb dX10_steals_7 ?_
  refine lv_topi (fun x_1 ex_1 => ?_)
  have bx_1 : iv 46 49 x_1 := by rw [ex_1]; exact iv_add (iv_c (46 : Int32) (a := 46) (b := 46) (by decide)) ba1 (by decide)
  refine lv_dup2_11 hx hb dX10_steals_8 rfl rfl ?_
  refine va_iald hx hb hK hP 1 0 rfl rfl (iv_in bx_1 (by decide)) dX10_steals_9 ?_
  refine lv_topi (fun x_2 ex_2 => ?_)
  have bx_2 : iv 0 4 x_2 := by rw [ex_2]; exact rdT (a := 46) (n := 4) tfz1 bx_1 (by decide) (by decide +kernel)
  have b_3 : iv 1 4 x_2 := SP_i hf1 ex_1 ba1 (by decide) ex_2 bx_2
  refine lv_iconst (v := 1) hx hb dX10_steals_10 (by decide) ?_
  refine lv_isub hx hb dX10_steals_11 ?_
  refine lv_topi (fun x_4 ex_4 => ?_)
  have bx_4 : iv 0 3 x_4 := by rw [ex_4]; exact iv_sub b_3 (iv_c (1 : Int32) (a := 1) (b := 1) (by decide)) (by decide)
  refine va_iast hx hb hK hP hD hS 1 0 rfl rfl (iv_in bx_1 (by decide)) dX10_steals_12 (fun H locs hP hD hS => ?_)
  obtain ⟨f_5, ef_5, tf_5, hP, hD⟩ : ∃ f_5 : Nat → Int32, f_5 = (upd fz1 (x_1 : Int32).toNatClampNeg x_4) ∧ (ivT tA f_5) ∧ va_P V.1 vwCl [(z 0, .inr (10, mo z pz0_0 pz0_5 pz0_6 pz0_7 pz0_8 pz0_9 pz0_10 pz0_11 pz0_12 pz0_13 pz0_14 pz0_18 pz0_19 pz0_22 pz0_23 pz0_29)), (z 1, aI V 3075 f_5)] H ∧ va_D A [(z 0, .inr (10, mo z pz0_0 pz0_5 pz0_6 pz0_7 pz0_8 pz0_9 pz0_10 pz0_11 pz0_12 pz0_13 pz0_14 pz0_18 pz0_19 pz0_22 pz0_23 pz0_29)), (z 1, aI V 3075 f_5)] := ⟨_, rfl, upT (lo := 0) (hi := 4) (a := 46) (n := 4) tfz1 bx_1 (by decide) (iv_w bx_4 (by decide)) (by decide +kernel), hP, hD⟩
  refine lv_aload_n hx hb dX10_steals_13 rfl (lv_at hl 0 rfl) ?_
  refine va_get (ci := 10) (v := .ref (z 1)) (C := RX10) (T := TX10) (N := 40) hx hb hg inX10 hown hK hP 0 rfl rfl 1 (by decide) (hg _ q_5_225) (fun _ h9 => h9) rfl dX10_steals_14 ?_
  refine lv_bipush (v := 50) hx hb dX10_steals_17 (by decide) ?_
  refine lv_dup2_11 hx hb dX10_steals_19 rfl rfl ?_
  refine va_iald hx hb hK hP 1 0 rfl rfl (vin (by decide +kernel)) dX10_steals_20 ?_
  refine tpi (y := fz1 (50 : Int32).toNatClampNeg) (show f_5 (50 : Int32).toNatClampNeg = fz1 (50 : Int32).toNatClampNeg from by rw [ef_5]; exact upd_ne (cl_ne (iv_c (50 : Int32) (a := 50) (b := 50) (by decide)) bx_1 (by decide))) ?_
  refine lv_topi (fun x_6 ex_6 => ?_)
  have bx_6 : iv 0 15 x_6 := by rw [ex_6]; exact rdT (a := 50) (n := 1) tfz1 (iv_c (50 : Int32) (a := 50) (b := 50) (by decide)) (by decide) (by decide +kernel)
  refine lv_iconst (v := 1) hx hb dX10_steals_21 (by decide) ?_
  refine lv_iload_n hx hb dX10_steals_22 rfl (lv_at hl 1 rfl) ?_
  refine lv_ishl hx hb dX10_steals_23 ?_
  refine lv_topi (fun x_7 ex_7 => ?_)
  have bx_7 : iv 1 8 x_7 := by rw [ex_7]; exact iv_shl1 ba1 (by decide)
  refine lv_ior hx hb dX10_steals_24 ?_
  refine lv_topi (fun x_8 ex_8 => ?_)
  have bx_8 : iv 0 15 x_8 := by rw [ex_8]; exact iv_or15 bx_6 bx_7 (by decide)
  refine va_iast hx hb hK hP hD hS 1 0 rfl rfl (vin (by decide +kernel)) dX10_steals_25 (fun H locs hP hD hS => ?_)
  obtain ⟨f_9, ef_9, tf_9, hP, hD⟩ : ∃ f_9 : Nat → Int32, f_9 = (upd f_5 (50 : Int32).toNatClampNeg x_8) ∧ (ivT tA f_9) ∧ va_P V.1 vwCl [(z 0, .inr (10, mo z pz0_0 pz0_5 pz0_6 pz0_7 pz0_8 pz0_9 pz0_10 pz0_11 pz0_12 pz0_13 pz0_14 pz0_18 pz0_19 pz0_22 pz0_23 pz0_29)), (z 1, aI V 3075 f_9)] H ∧ va_D A [(z 0, .inr (10, mo z pz0_0 pz0_5 pz0_6 pz0_7 pz0_8 pz0_9 pz0_10 pz0_11 pz0_12 pz0_13 pz0_14 pz0_18 pz0_19 pz0_22 pz0_23 pz0_29)), (z 1, aI V 3075 f_9)] := ⟨_, rfl, upT (lo := 0) (hi := 15) (a := 50) (n := 1) tf_5 (iv_c (50 : Int32) (a := 50) (b := 50) (by decide)) (by decide) bx_8 (by decide +kernel), hP, hD⟩
  exact fiV hx hb hr hlk hK hP hD hS dX10_steals_26 (Nat.le_of_ble_eq_true rfl) (Nat.le_of_ble_eq_true rfl) (⟨f_9, tf_9, (RW_up (RW_up hf0 bx_1 (by decide) ef_5) (iv_c (50 : Int32) (a := 50) (b := 50) (by decide)) (by decide) ef_9), rfl⟩)
theorem dX10_steal_0 : decode cX10_steal 0 = .ok (.aload_n 0, 1) := by decide +kernel
theorem dX10_steal_1 : decode cX10_steal 1 = .ok (.iconst 0, 1) := by decide +kernel
theorem dX10_steal_2 : decode cX10_steal 2 = .ok (.putfield 1, 3) := by decide +kernel
theorem dX10_steal_5 : decode cX10_steal 5 = .ok (.aload_n 0, 1) := by decide +kernel
theorem dX10_steal_6 : decode cX10_steal 6 = .ok (.iload_n 1, 1) := by decide +kernel
theorem dX10_steal_7 : decode cX10_steal 7 = .ok (.i2l, 1) := by decide +kernel
theorem q_7_88 : Cond.code yX10_whySteal prog_12_method_62_code 3 (some FieldType.int) ∈ gw := gw_7 (i := 88) (rfl) rfl
theorem q_7_87 : Cond.instanceMethod yX10_whySteal ∈ gw := gw_7 (i := 87) (by decide +kernel) rfl
theorem q_s_91 : Cond.selects "BeaconDelayModel" yX10_whySteal yX10_whySteal ∈ gw := gw_s (i := 91) (by decide +kernel) rfl
theorem mt_X10_whySteal : MtV yX10_whySteal cX10_whySteal 3 (some .int) 1 := ⟨⟨q_7_88, q_1_9, by decide +kernel, by decide +kernel, by decide +kernel⟩, q_7_87, q_s_91⟩
theorem q_7_85 : Cond.methodLink "BeaconDelayModel" 289 yX10_whySteal ∈ gw := gw_7 (i := 85) (by decide +kernel) rfl
theorem dX10_steal_8 : decode cX10_steal 8 = .ok (.invokevirtual 289, 3) := by decide +kernel
theorem dX10_steal_11 : decode cX10_steal 11 = .ok (.istore_n 2, 1) := by decide +kernel
theorem dX10_steal_12 : decode cX10_steal 12 = .ok (.iload_n 2, 1) := by decide +kernel
theorem dX10_steal_13 : decode cX10_steal 13 = .ok (.ifCond .eq 8, 3) := by decide +kernel
theorem dX10_steal_21 : decode cX10_steal 21 = .ok (.aload_n 0, 1) := by decide +kernel
theorem dX10_steal_22 : decode cX10_steal 22 = .ok (.invokevirtual 278, 3) := by decide +kernel
theorem dX10_steal_25 : decode cX10_steal 25 = .ok (.aload_n 0, 1) := by decide +kernel
theorem dX10_steal_26 : decode cX10_steal 26 = .ok (.iload_n 1, 1) := by decide +kernel
theorem q_7_92 : Cond.code yX10_steals prog_12_method_63_code 2 none ∈ gw := gw_7 (i := 92) (rfl) rfl
theorem q_7_91 : Cond.instanceMethod yX10_steals ∈ gw := gw_7 (i := 91) (by decide +kernel) rfl
theorem q_s_92 : Cond.selects "BeaconDelayModel" yX10_steals yX10_steals ∈ gw := gw_s (i := 92) (by decide +kernel) rfl
theorem mt_X10_steals : MtV yX10_steals cX10_steals 2 none 1 := ⟨⟨q_7_92, q_1_9, by decide +kernel, by decide +kernel, by decide +kernel⟩, q_7_91, q_s_92⟩
theorem q_7_89 : Cond.methodLink "BeaconDelayModel" 293 yX10_steals ∈ gw := gw_7 (i := 89) (by decide +kernel) rfl
theorem dX10_steal_27 : decode cX10_steal 27 = .ok (.invokevirtual 293, 3) := by decide +kernel
theorem dX10_steal_30 : decode cX10_steal 30 = .ok (.aload_n 0, 1) := by decide +kernel
theorem dX10_steal_31 : decode cX10_steal 31 = .ok (.invokevirtual 284, 3) := by decide +kernel
theorem dX10_steal_34 : decode cX10_steal 34 = .ok (.aload_n 0, 1) := by decide +kernel
theorem dX10_steal_35 : decode cX10_steal 35 = .ok (.getfield 13, 3) := by decide +kernel
theorem dX10_steal_38 : decode cX10_steal 38 = .ok (.bipush 46, 2) := by decide +kernel
theorem dX10_steal_40 : decode cX10_steal 40 = .ok (.iload_n 1, 1) := by decide +kernel
theorem dX10_steal_41 : decode cX10_steal 41 = .ok (.iadd, 1) := by decide +kernel
theorem dX10_steal_42 : decode cX10_steal 42 = .ok (.iaload, 1) := by decide +kernel
theorem dX10_steal_43 : decode cX10_steal 43 = .ok (.ireturn, 1) := by decide +kernel
theorem dX10_steal_16 : decode cX10_steal 16 = .ok (.bipush (-10), 2) := by decide +kernel
theorem dX10_steal_18 : decode cX10_steal 18 = .ok (.iload_n 2, 1) := by decide +kernel
theorem dX10_steal_19 : decode cX10_steal 19 = .ok (.isub, 1) := by decide +kernel
theorem dX10_steal_20 : decode cX10_steal 20 = .ok (.ireturn, 1) := by decide +kernel
set_option maxHeartbeats 4000000 in
set_option maxRecDepth 100000 in
theorem k_X10_steal_0 (l : Launch) (V : GV) (z : Nat → Nat) (a1 : Int32) (pz0_0 : Int32) (pz0_5 : Int32) (pz0_6 : Int32) (pz0_7 : Int32) (pz0_8 : Int32) (pz0_9 : Int32) (pz0_10 : Int32) (pz0_11 : Int32) (pz0_12 : Int32) (pz0_13 : Int32) (pz0_14 : Int32) (pz0_18 : Int32) (pz0_19 : Int32) (pz0_22 : Int32) (pz0_23 : Int32) (pz0_29 : Int32) (fz1 : Nat → Int32) (fz17 : Nat → Int32) (bpz0_5 : iv 0 900 pz0_5) (bpz0_6 : iv 0 900 pz0_6) (bpz0_7 : iv 0 900 pz0_7) (bpz0_8 : iv 0 900 pz0_8) (bpz0_10 : iv 0 999 pz0_10) (bpz0_11 : iv 0 4 pz0_11) (bpz0_12 : iv 0 900 pz0_12) (bpz0_13 : iv 0 4 pz0_13) (bpz0_14 : iv (-1) 900 pz0_14) (bpz0_18 : iv 0 2 pz0_18) (bpz0_22 : iv 0 9999 pz0_22) (bpz0_29 : iv 0 10000 pz0_29) (tfz1 : ivT tA fz1) (tfz17 : ivT tS fz17) (hf0 : RW fz1) : Ct l V yX10_steal (.code yX10_steal cX10_steal 3 (some .int)) 4 [.ref (z 0), .int a1] [(z 0, .inr (10, mo z pz0_0 pz0_5 pz0_6 pz0_7 pz0_8 pz0_9 pz0_10 pz0_11 pz0_12 pz0_13 pz0_14 pz0_18 pz0_19 pz0_22 pz0_23 pz0_29)), (z 1, aI V 3075 fz1), (z 17, aI V 7 fz17)] 0 0 (QI V (fun (r : Int32) (w : va_W) => ∃ (v0 : Int32) (g1 : Nat → Int32) (g2 : Nat → Int32), (ivT tA g1) ∧ (ivT tS g2) ∧ iv (-12) 4 r ∧ (RW g1) ∧ w = [(z 0, .inr (10, mo z v0 pz0_5 pz0_6 pz0_7 pz0_8 pz0_9 pz0_10 pz0_11 pz0_12 pz0_13 pz0_14 pz0_18 pz0_19 pz0_22 pz0_23 pz0_29)), (z 1, aI V 3075 g1), (z 17, aI V 7 g2)])) := by
  refine Ct.of (by decide) (Nat.le_of_ble_eq_true rfl) (fun p e s m below meth c A ls hx hb hr hml hown hlk hnm hg hP hK hD hE hA hS hl => ?_)
  have hl : lv_has ls 3 [(0, .ref (z 0)), (1, .int a1)] := hl
  refine lv_aload_n hx hb dX10_steal_0 rfl (lv_at hl 0 rfl) ?_
  refine lv_iconst (v := 0) hx hb dX10_steal_1 (by decide) ?_
  refine va_put (ci := 10) (v := .int 0) (ty := .int) (C := RX10) (T := TX10) (N := 40) hx hb hg inX10 tyX10 tyX10_ok nmX10 hown hK hP hD hS 0 rfl rfl 0 (by decide) (hg _ q_5_224) (fun _ h9 => h9) rfl (by decide +kernel) rfl rfl (Nat.le_of_ble_eq_true rfl) dX10_steal_2 (fun H locs hP hD hS => ?_)
  have hP : va_P V.1 vwCl [(z 0, .inr (10, mo z 0 pz0_5 pz0_6 pz0_7 pz0_8 pz0_9 pz0_10 pz0_11 pz0_12 pz0_13 pz0_14 pz0_18 pz0_19 pz0_22 pz0_23 pz0_29)), (z 1, aI V 3075 fz1), (z 17, aI V 7 fz17)] H := hP
  have hD : va_D A [(z 0, .inr (10, mo z 0 pz0_5 pz0_6 pz0_7 pz0_8 pz0_9 pz0_10 pz0_11 pz0_12 pz0_13 pz0_14 pz0_18 pz0_19 pz0_22 pz0_23 pz0_29)), (z 1, aI V 3075 fz1), (z 17, aI V 7 fz17)] := hD
  refine lv_aload_n hx hb dX10_steal_5 rfl (lv_at hl 0 rfl) ?_
  refine lv_iload_n hx hb dX10_steal_6 rfl (lv_at hl 1 rfl) ?_
  refine lv_i2l hx hb dX10_steal_7 rfl ?_
  refine lv_topl (fun j_1 ej_1 => ?_)
  refine jnI (wr := [(z 17, aI V 7 fz17)]) (rnV (rest := []) ⟨hx, hb, hml, hown, hg⟩ (k_X10_whySteal_0 l V z j_1 0 pz0_5 pz0_6 pz0_7 pz0_8 pz0_9 pz0_10 pz0_11 pz0_12 pz0_13 pz0_14 pz0_18 pz0_19 pz0_22 pz0_23 pz0_29 fz1 bpz0_5 bpz0_6 bpz0_7 bpz0_8 bpz0_10 bpz0_11 bpz0_12 bpz0_13 bpz0_14 bpz0_18 bpz0_22 bpz0_29 tfz1) mt_X10_whySteal q_7_85 ⟨Nat.le_of_ble_eq_true rfl, Nat.le_of_ble_eq_true rfl⟩ hK hP hD hS hA hE [0, 1] rfl rfl 0 rfl rfl rfl rfl hl.1 rfl (Nat.le_of_ble_eq_true rfl) dX10_steal_8 ⟨Nat.le_of_ble_eq_true rfl, Nat.le_of_ble_eq_true rfl⟩) hP hD hS hA [0, 1] [2] rfl rfl rfl (by decide) (fun r_2 w H locs hw hP hD hS => ?_)
  obtain ⟨br_2, g_3, g_4, rfl⟩ := hw
  have hP : va_P V.1 vwCl [(z 17, aI V 7 fz17), (z 0, .inr (10, mo z 0 pz0_5 pz0_6 pz0_7 pz0_8 pz0_9 pz0_10 pz0_11 pz0_12 pz0_13 pz0_14 pz0_18 pz0_19 pz0_22 pz0_23 pz0_29)), (z 1, aI V 3075 fz1)] H := hP
  have hD : va_D A [(z 17, aI V 7 fz17), (z 0, .inr (10, mo z 0 pz0_5 pz0_6 pz0_7 pz0_8 pz0_9 pz0_10 pz0_11 pz0_12 pz0_13 pz0_14 pz0_18 pz0_19 pz0_22 pz0_23 pz0_29)), (z 1, aI V 3075 fz1)] := hD
  refine lv_istore_n (lv' := [(2, .int r_2), (0, .ref (z 0)), (1, .int a1)]) hx hb dX10_steal_11 rfl hl (by decide) rfl (fun ls hl => ?_)
  refine lv_iload_n hx hb dX10_steal_12 rfl (lv_at hl 0 rfl) ?_
  refine lv_if_eq (tgt := 21) hx hb dX10_steal_13 (by decide) (fun c_5 => ?_) (fun c_5 => ?_)
  · have b_6 : iv 0 0 r_2 := iv_q c_5 (iv_c (0 : Int32) (a := 0) (b := 0) (by decide))
    have b_7 : ivL 0 3 j_1 := ivL_cap (g_4 (iv_eqp b_6 (iv_c (0 : Int32) (by decide)))) (ivL_top j_1) (by decide)
    have b_8 : iv 0 3 a1 := iv_cap (ivL_i ej_1 b_7) (iv_top a1) (by decide)
    refine lv_aload_n hx hb dX10_steal_21 rfl (lv_at hl 1 rfl) ?_
    refine jnV (wr := []) (rnV (rest := []) ⟨hx, hb, hml, hown, hg⟩ (k_X10_stores_0 l V z fz17 0 pz0_5 pz0_6 pz0_7 pz0_8 pz0_9 pz0_10 pz0_11 pz0_12 pz0_13 pz0_14 pz0_18 pz0_19 pz0_22 pz0_23 pz0_29 fz1 tfz17 bpz0_5 bpz0_6 bpz0_7 bpz0_8 bpz0_10 bpz0_11 bpz0_12 bpz0_13 bpz0_14 bpz0_18 bpz0_22 bpz0_29 tfz1) mt_X10_stores q_7_60 ⟨Nat.le_of_ble_eq_true rfl, Nat.le_of_ble_eq_true rfl⟩ hK hP hD hS hA hE [0, 1, 2] rfl rfl 1 rfl rfl rfl rfl hl.1 rfl (Nat.le_of_ble_eq_true rfl) dX10_steal_22 ⟨Nat.le_of_ble_eq_true rfl, Nat.le_of_ble_eq_true rfl⟩) hP hD hS hA [0, 1, 2] [] rfl rfl rfl (by decide) (fun  w H locs hw hP hD hS => ?_)
    obtain ⟨f_9, tf_9, rfl⟩ := hw
    have hP : va_P V.1 vwCl [(z 17, aI V 7 f_9), (z 0, .inr (10, mo z 0 pz0_5 pz0_6 pz0_7 pz0_8 pz0_9 pz0_10 pz0_11 pz0_12 pz0_13 pz0_14 pz0_18 pz0_19 pz0_22 pz0_23 pz0_29)), (z 1, aI V 3075 fz1)] H := hP
    have hD : va_D A [(z 17, aI V 7 f_9), (z 0, .inr (10, mo z 0 pz0_5 pz0_6 pz0_7 pz0_8 pz0_9 pz0_10 pz0_11 pz0_12 pz0_13 pz0_14 pz0_18 pz0_19 pz0_22 pz0_23 pz0_29)), (z 1, aI V 3075 fz1)] := hD
    refine lv_aload_n hx hb dX10_steal_25 rfl (lv_at hl 1 rfl) ?_
    refine lv_iload_n hx hb dX10_steal_26 rfl (lv_at hl 2 rfl) ?_
    refine jnV (wr := [(z 17, aI V 7 f_9)]) (rnV (rest := []) ⟨hx, hb, hml, hown, hg⟩ (k_X10_steals_0 l V z a1 0 pz0_5 pz0_6 pz0_7 pz0_8 pz0_9 pz0_10 pz0_11 pz0_12 pz0_13 pz0_14 pz0_18 pz0_19 pz0_22 pz0_23 pz0_29 fz1 b_8 bpz0_5 bpz0_6 bpz0_7 bpz0_8 bpz0_10 bpz0_11 bpz0_12 bpz0_13 bpz0_14 bpz0_18 bpz0_22 bpz0_29 tfz1 hf0 (by have q9 := (g_3 (iv_eqp b_6 (iv_c (0 : Int32) (by decide)))); rw [ej_1, toI64] at q9; exact q9)) mt_X10_steals q_7_89 ⟨Nat.le_of_ble_eq_true rfl, Nat.le_of_ble_eq_true rfl⟩ hK hP hD hS hA hE [1, 2] rfl rfl 1 rfl rfl rfl rfl hl.1 rfl (Nat.le_of_ble_eq_true rfl) dX10_steal_27 ⟨Nat.le_of_ble_eq_true rfl, Nat.le_of_ble_eq_true rfl⟩) hP hD hS hA [1, 2] [0] rfl rfl rfl (by decide) (fun  w H locs hw hP hD hS => ?_)
    obtain ⟨f_10, tf_10, g_11, rfl⟩ := hw
    have hP : va_P V.1 vwCl [(z 17, aI V 7 f_9), (z 0, .inr (10, mo z 0 pz0_5 pz0_6 pz0_7 pz0_8 pz0_9 pz0_10 pz0_11 pz0_12 pz0_13 pz0_14 pz0_18 pz0_19 pz0_22 pz0_23 pz0_29)), (z 1, aI V 3075 f_10)] H := hP
    have hD : va_D A [(z 17, aI V 7 f_9), (z 0, .inr (10, mo z 0 pz0_5 pz0_6 pz0_7 pz0_8 pz0_9 pz0_10 pz0_11 pz0_12 pz0_13 pz0_14 pz0_18 pz0_19 pz0_22 pz0_23 pz0_29)), (z 1, aI V 3075 f_10)] := hD
    refine lv_aload_n hx hb dX10_steal_30 rfl (lv_at hl 1 rfl) ?_
    refine jnV (wr := []) (rnV (rest := []) ⟨hx, hb, hml, hown, hg⟩ (k_X10_notes_0 l V z f_9 0 pz0_5 pz0_6 pz0_7 pz0_8 pz0_9 pz0_10 pz0_11 pz0_12 pz0_13 pz0_14 pz0_18 pz0_19 pz0_22 pz0_23 pz0_29 f_10 tf_9 bpz0_5 bpz0_6 bpz0_7 bpz0_8 bpz0_10 bpz0_11 bpz0_12 bpz0_13 bpz0_14 bpz0_18 bpz0_22 bpz0_29 tf_10 g_11) mt_X10_notes q_7_72 ⟨Nat.le_of_ble_eq_true rfl, Nat.le_of_ble_eq_true rfl⟩ hK hP hD hS hA hE [0, 1, 2] rfl rfl 1 rfl rfl rfl rfl hl.1 rfl (Nat.le_of_ble_eq_true rfl) dX10_steal_31 ⟨Nat.le_of_ble_eq_true rfl, Nat.le_of_ble_eq_true rfl⟩) hP hD hS hA [0, 1, 2] [] rfl rfl rfl (by decide) (fun  w H locs hw hP hD hS => ?_)
    obtain ⟨f_12, tf_12, g_13, rfl⟩ := hw
    have hP : va_P V.1 vwCl [(z 17, aI V 7 f_9), (z 0, .inr (10, mo z 0 pz0_5 pz0_6 pz0_7 pz0_8 pz0_9 pz0_10 pz0_11 pz0_12 pz0_13 pz0_14 pz0_18 pz0_19 pz0_22 pz0_23 pz0_29)), (z 1, aI V 3075 f_12)] H := hP
    have hD : va_D A [(z 17, aI V 7 f_9), (z 0, .inr (10, mo z 0 pz0_5 pz0_6 pz0_7 pz0_8 pz0_9 pz0_10 pz0_11 pz0_12 pz0_13 pz0_14 pz0_18 pz0_19 pz0_22 pz0_23 pz0_29)), (z 1, aI V 3075 f_12)] := hD
    refine lv_aload_n hx hb dX10_steal_34 rfl (lv_at hl 1 rfl) ?_
    refine va_get (ci := 10) (v := .ref (z 1)) (C := RX10) (T := TX10) (N := 40) hx hb hg inX10 hown hK hP 1 rfl rfl 1 (by decide) (hg _ q_5_225) (fun _ h9 => h9) rfl dX10_steal_35 ?_
    refine lv_bipush (v := 46) hx hb dX10_steal_38 (by decide) ?_
    refine lv_iload_n hx hb dX10_steal_40 rfl (lv_at hl 2 rfl) ?_
    refine lv_iadd hx hb dX10_steal_41 ?_
    refine lv_topi (fun x_14 ex_14 => ?_)
    have bx_14 : iv 46 49 x_14 := by rw [ex_14]; exact iv_add (iv_c (46 : Int32) (a := 46) (b := 46) (by decide)) b_8 (by decide)
    refine va_iald hx hb hK hP 2 0 rfl rfl (iv_in bx_14 (by decide)) dX10_steal_42 ?_
    refine lv_topi (fun x_15 ex_15 => ?_)
    have bx_15 : iv 0 4 x_15 := by rw [ex_15]; exact rdT (a := 46) (n := 4) tf_12 bx_14 (by decide) (by decide +kernel)
    have hP := subP (ws' := [(z 0, .inr (10, mo z 0 pz0_5 pz0_6 pz0_7 pz0_8 pz0_9 pz0_10 pz0_11 pz0_12 pz0_13 pz0_14 pz0_18 pz0_19 pz0_22 pz0_23 pz0_29)), (z 1, aI V 3075 f_12), (z 17, aI V 7 f_9)]) hP [1, 2, 0] rfl
    have hD := hD.sub (ws' := [(z 0, .inr (10, mo z 0 pz0_5 pz0_6 pz0_7 pz0_8 pz0_9 pz0_10 pz0_11 pz0_12 pz0_13 pz0_14 pz0_18 pz0_19 pz0_22 pz0_23 pz0_29)), (z 1, aI V 3075 f_12), (z 17, aI V 7 f_9)]) [1, 2, 0] rfl rfl
    exact fiI hx hb hr hlk hK hP hD hS dX10_steal_43 (Nat.le_of_ble_eq_true rfl) (Nat.le_of_ble_eq_true rfl) (⟨0, f_12, f_9, tf_12, tf_9, (iv_w bx_15 (by decide)), g_13, rfl⟩)
  · have b_16 : iv 1 2 r_2 := iv_n0 c_5 br_2 (iv_c (0 : Int32) (a := 0) (b := 0) (by decide)) (by decide)
    refine lv_bipush (v := (-10)) hx hb dX10_steal_16 (by decide) ?_
    refine lv_iload_n hx hb dX10_steal_18 rfl (lv_at hl 0 rfl) ?_
    refine lv_isub hx hb dX10_steal_19 ?_
    refine lv_topi (fun x_17 ex_17 => ?_)
    have bx_17 : iv (-12) (-11) x_17 := by rw [ex_17]; exact iv_sub (iv_c ((-10) : Int32) (a := (-10)) (b := (-10)) (by decide)) b_16 (by decide)
    have hP := subP (ws' := [(z 0, .inr (10, mo z 0 pz0_5 pz0_6 pz0_7 pz0_8 pz0_9 pz0_10 pz0_11 pz0_12 pz0_13 pz0_14 pz0_18 pz0_19 pz0_22 pz0_23 pz0_29)), (z 1, aI V 3075 fz1), (z 17, aI V 7 fz17)]) hP [1, 2, 0] rfl
    have hD := hD.sub (ws' := [(z 0, .inr (10, mo z 0 pz0_5 pz0_6 pz0_7 pz0_8 pz0_9 pz0_10 pz0_11 pz0_12 pz0_13 pz0_14 pz0_18 pz0_19 pz0_22 pz0_23 pz0_29)), (z 1, aI V 3075 fz1), (z 17, aI V 7 fz17)]) [1, 2, 0] rfl rfl
    exact fiI hx hb hr hlk hK hP hD hS dX10_steal_20 (Nat.le_of_ble_eq_true rfl) (Nat.le_of_ble_eq_true rfl) (⟨0, fz1, fz17, tfz1, tfz17, (iv_w bx_17 (by decide)), hf0, rfl⟩)
theorem dX10_weather_0 : decode cX10_weather 0 = .ok (.aload_n 0, 1) := by decide +kernel
theorem dX10_weather_1 : decode cX10_weather 1 = .ok (.iconst 0, 1) := by decide +kernel
theorem dX10_weather_2 : decode cX10_weather 2 = .ok (.putfield 1, 3) := by decide +kernel
theorem dX10_weather_5 : decode cX10_weather 5 = .ok (.iload_n 1, 1) := by decide +kernel
theorem dX10_weather_6 : decode cX10_weather 6 = .ok (.i2l, 1) := by decide +kernel
theorem dX10_weather_7 : decode cX10_weather 7 = .ok (.lconst 0, 1) := by decide +kernel
theorem q_7_97 : Cond.constantLong "BeaconDelayModel" 296 (9 : Int64) ∈ gw := gw_7 (i := 97) (by decide +kernel) rfl
theorem dX10_weather_8 : decode cX10_weather 8 = .ok (.ldc2_w 296, 3) := by decide +kernel
theorem dX10_weather_11 : decode cX10_weather 11 = .ok (.invokestatic 159, 3) := by decide +kernel
theorem dX10_weather_14 : decode cX10_weather 14 = .ok (.ifCond .ne 6, 3) := by decide +kernel
theorem dX10_weather_20 : decode cX10_weather 20 = .ok (.aload_n 0, 1) := by decide +kernel
theorem dX10_weather_21 : decode cX10_weather 21 = .ok (.invokevirtual 278, 3) := by decide +kernel
theorem dX10_weather_24 : decode cX10_weather 24 = .ok (.aload_n 0, 1) := by decide +kernel
theorem dX10_weather_25 : decode cX10_weather 25 = .ok (.getfield 13, 3) := by decide +kernel
theorem dX10_weather_28 : decode cX10_weather 28 = .ok (.bipush 51, 2) := by decide +kernel
theorem dX10_weather_30 : decode cX10_weather 30 = .ok (.iload_n 1, 1) := by decide +kernel
theorem dX10_weather_31 : decode cX10_weather 31 = .ok (.iastore, 1) := by decide +kernel
theorem dX10_weather_32 : decode cX10_weather 32 = .ok (.aload_n 0, 1) := by decide +kernel
theorem dX10_weather_33 : decode cX10_weather 33 = .ok (.invokevirtual 284, 3) := by decide +kernel
theorem dX10_weather_36 : decode cX10_weather 36 = .ok (.aload_n 0, 1) := by decide +kernel
theorem dX10_weather_37 : decode cX10_weather 37 = .ok (.getfield 36, 3) := by decide +kernel
theorem dX10_weather_40 : decode cX10_weather 40 = .ok (.iconst 5, 1) := by decide +kernel
theorem dX10_weather_41 : decode cX10_weather 41 = .ok (.iaload, 1) := by decide +kernel
theorem dX10_weather_42 : decode cX10_weather 42 = .ok (.ireturn, 1) := by decide +kernel
theorem dX10_weather_17 : decode cX10_weather 17 = .ok (.bipush (-11), 2) := by decide +kernel
theorem dX10_weather_19 : decode cX10_weather 19 = .ok (.ireturn, 1) := by decide +kernel
set_option maxHeartbeats 4000000 in
set_option maxRecDepth 100000 in
theorem k_X10_weather_0 (l : Launch) (V : GV) (z : Nat → Nat) (a1 : Int32) (pz0_0 : Int32) (pz0_5 : Int32) (pz0_6 : Int32) (pz0_7 : Int32) (pz0_8 : Int32) (pz0_9 : Int32) (pz0_10 : Int32) (pz0_11 : Int32) (pz0_12 : Int32) (pz0_13 : Int32) (pz0_14 : Int32) (pz0_18 : Int32) (pz0_19 : Int32) (pz0_22 : Int32) (pz0_23 : Int32) (pz0_29 : Int32) (fz1 : Nat → Int32) (fz17 : Nat → Int32) (bpz0_5 : iv 0 900 pz0_5) (bpz0_6 : iv 0 900 pz0_6) (bpz0_7 : iv 0 900 pz0_7) (bpz0_8 : iv 0 900 pz0_8) (bpz0_10 : iv 0 999 pz0_10) (bpz0_11 : iv 0 4 pz0_11) (bpz0_12 : iv 0 900 pz0_12) (bpz0_13 : iv 0 4 pz0_13) (bpz0_14 : iv (-1) 900 pz0_14) (bpz0_18 : iv 0 2 pz0_18) (bpz0_22 : iv 0 9999 pz0_22) (bpz0_29 : iv 0 10000 pz0_29) (tfz1 : ivT tA fz1) (tfz17 : ivT tS fz17) (hf0 : RW fz1) : Ct l V yX10_weather (.code yX10_weather cX10_weather 2 (some .int)) 2 [.ref (z 0), .int a1] [(z 0, .inr (10, mo z pz0_0 pz0_5 pz0_6 pz0_7 pz0_8 pz0_9 pz0_10 pz0_11 pz0_12 pz0_13 pz0_14 pz0_18 pz0_19 pz0_22 pz0_23 pz0_29)), (z 1, aI V 3075 fz1), (z 17, aI V 7 fz17)] 0 0 (QI V (fun (r : Int32) (w : va_W) => ∃ (v0 : Int32) (g1 : Nat → Int32) (g2 : Nat → Int32), (ivT tA g1) ∧ (ivT tS g2) ∧ iv (-11) 9 r ∧ (RW g1) ∧ w = [(z 0, .inr (10, mo z v0 pz0_5 pz0_6 pz0_7 pz0_8 pz0_9 pz0_10 pz0_11 pz0_12 pz0_13 pz0_14 pz0_18 pz0_19 pz0_22 pz0_23 pz0_29)), (z 1, aI V 3075 g1), (z 17, aI V 7 g2)])) := by
  refine Ct.of (by decide) (Nat.le_of_ble_eq_true rfl) (fun p e s m below meth c A ls hx hb hr hml hown hlk hnm hg hP hK hD hE hA hS hl => ?_)
  have hl : lv_has ls 2 [(0, .ref (z 0)), (1, .int a1)] := hl
  refine lv_aload_n hx hb dX10_weather_0 rfl (lv_at hl 0 rfl) ?_
  refine lv_iconst (v := 0) hx hb dX10_weather_1 (by decide) ?_
  refine va_put (ci := 10) (v := .int 0) (ty := .int) (C := RX10) (T := TX10) (N := 40) hx hb hg inX10 tyX10 tyX10_ok nmX10 hown hK hP hD hS 0 rfl rfl 0 (by decide) (hg _ q_5_224) (fun _ h9 => h9) rfl (by decide +kernel) rfl rfl (Nat.le_of_ble_eq_true rfl) dX10_weather_2 (fun H locs hP hD hS => ?_)
  have hP : va_P V.1 vwCl [(z 0, .inr (10, mo z 0 pz0_5 pz0_6 pz0_7 pz0_8 pz0_9 pz0_10 pz0_11 pz0_12 pz0_13 pz0_14 pz0_18 pz0_19 pz0_22 pz0_23 pz0_29)), (z 1, aI V 3075 fz1), (z 17, aI V 7 fz17)] H := hP
  have hD : va_D A [(z 0, .inr (10, mo z 0 pz0_5 pz0_6 pz0_7 pz0_8 pz0_9 pz0_10 pz0_11 pz0_12 pz0_13 pz0_14 pz0_18 pz0_19 pz0_22 pz0_23 pz0_29)), (z 1, aI V 3075 fz1), (z 17, aI V 7 fz17)] := hD
  refine lv_iload_n hx hb dX10_weather_5 rfl (lv_at hl 1 rfl) ?_
  refine lv_i2l hx hb dX10_weather_6 rfl ?_
  refine lv_topl (fun j_1 ej_1 => ?_)
  refine lv_lconst (v := 0) hx hb dX10_weather_7 (by decide) ?_
  refine lv_ldc2 (v := 9) hx hb hown (hg _ q_7_97) dX10_weather_8 ?_
  refine jnI (wr := [(z 0, .inr (10, mo z 0 pz0_5 pz0_6 pz0_7 pz0_8 pz0_9 pz0_10 pz0_11 pz0_12 pz0_13 pz0_14 pz0_18 pz0_19 pz0_22 pz0_23 pz0_29)), (z 1, aI V 3075 fz1), (z 17, aI V 7 fz17)]) (rnS (rest := []) ⟨hx, hb, hml, hown, hg⟩ (k_X10_within_0 l V j_1 0 9) mt_X10_within q_6_114 ⟨Nat.le_of_ble_eq_true rfl, Nat.le_of_ble_eq_true rfl⟩ hK hP hD hS hA hE [] rfl rfl rfl hl.1 rfl (Nat.le_of_ble_eq_true rfl) dX10_weather_11 ⟨Nat.le_of_ble_eq_true rfl, Nat.le_of_ble_eq_true rfl⟩) hP hD hS hA [] [0, 1, 2] rfl rfl rfl (by decide) (fun r_2 w H locs hw hP hD hS => ?_)
  obtain ⟨br_2, g_3, g_4, g_5, rfl⟩ := hw
  have hP : va_P V.1 vwCl [(z 0, .inr (10, mo z 0 pz0_5 pz0_6 pz0_7 pz0_8 pz0_9 pz0_10 pz0_11 pz0_12 pz0_13 pz0_14 pz0_18 pz0_19 pz0_22 pz0_23 pz0_29)), (z 1, aI V 3075 fz1), (z 17, aI V 7 fz17)] H := hP
  have hD : va_D A [(z 0, .inr (10, mo z 0 pz0_5 pz0_6 pz0_7 pz0_8 pz0_9 pz0_10 pz0_11 pz0_12 pz0_13 pz0_14 pz0_18 pz0_19 pz0_22 pz0_23 pz0_29)), (z 1, aI V 3075 fz1), (z 17, aI V 7 fz17)] := hD
  refine lv_if_ne (tgt := 20) hx hb dX10_weather_14 (by decide) (fun c_6 => ?_) (fun c_6 => ?_)
  · have b_7 : iv 1 1 r_2 := iv_n0 c_6 br_2 (iv_c (0 : Int32) (a := 0) (b := 0) (by decide)) (by decide)
    have c_8 : (0 : Int64) ≤ j_1 := (g_4 (iv_eqp b_7 (iv_c (1 : Int32) (by decide))))
    have b_9 : ivL 0 9223372036854775807 j_1 := ivL_e2 c_8 (ivL_c (0 : Int64) (a := 0) (b := 0) (by decide)) (ivL_top j_1) (by decide)
    have b_10 : iv 0 2147483647 a1 := iv_cap (ivL_i ej_1 b_9) (iv_top a1) (by decide)
    have c_11 : j_1 ≤ 9 := (g_5 (iv_eqp b_7 (iv_c (1 : Int32) (by decide))))
    have b_12 : ivL 0 9 j_1 := ivL_e1 c_11 b_9 (ivL_c (9 : Int64) (a := 9) (b := 9) (by decide)) (by decide)
    have b_13 : iv 0 9 a1 := iv_cap (ivL_i ej_1 b_12) b_10 (by decide)
    refine lv_aload_n hx hb dX10_weather_20 rfl (lv_at hl 0 rfl) ?_
    refine jnV (wr := []) (rnV (rest := []) ⟨hx, hb, hml, hown, hg⟩ (k_X10_stores_0 l V z fz17 0 pz0_5 pz0_6 pz0_7 pz0_8 pz0_9 pz0_10 pz0_11 pz0_12 pz0_13 pz0_14 pz0_18 pz0_19 pz0_22 pz0_23 pz0_29 fz1 tfz17 bpz0_5 bpz0_6 bpz0_7 bpz0_8 bpz0_10 bpz0_11 bpz0_12 bpz0_13 bpz0_14 bpz0_18 bpz0_22 bpz0_29 tfz1) mt_X10_stores q_7_60 ⟨Nat.le_of_ble_eq_true rfl, Nat.le_of_ble_eq_true rfl⟩ hK hP hD hS hA hE [2, 0, 1] rfl rfl 0 rfl rfl rfl rfl hl.1 rfl (Nat.le_of_ble_eq_true rfl) dX10_weather_21 ⟨Nat.le_of_ble_eq_true rfl, Nat.le_of_ble_eq_true rfl⟩) hP hD hS hA [2, 0, 1] [] rfl rfl rfl (by decide) (fun  w H locs hw hP hD hS => ?_)
    obtain ⟨f_14, tf_14, rfl⟩ := hw
    have hP : va_P V.1 vwCl [(z 17, aI V 7 f_14), (z 0, .inr (10, mo z 0 pz0_5 pz0_6 pz0_7 pz0_8 pz0_9 pz0_10 pz0_11 pz0_12 pz0_13 pz0_14 pz0_18 pz0_19 pz0_22 pz0_23 pz0_29)), (z 1, aI V 3075 fz1)] H := hP
    have hD : va_D A [(z 17, aI V 7 f_14), (z 0, .inr (10, mo z 0 pz0_5 pz0_6 pz0_7 pz0_8 pz0_9 pz0_10 pz0_11 pz0_12 pz0_13 pz0_14 pz0_18 pz0_19 pz0_22 pz0_23 pz0_29)), (z 1, aI V 3075 fz1)] := hD
    refine lv_aload_n hx hb dX10_weather_24 rfl (lv_at hl 0 rfl) ?_
    refine va_get (ci := 10) (v := .ref (z 1)) (C := RX10) (T := TX10) (N := 40) hx hb hg inX10 hown hK hP 1 rfl rfl 1 (by decide) (hg _ q_5_225) (fun _ h9 => h9) rfl dX10_weather_25 ?_
    refine lv_bipush (v := 51) hx hb dX10_weather_28 (by decide) ?_
    refine lv_iload_n hx hb dX10_weather_30 rfl (lv_at hl 1 rfl) ?_
    refine va_iast hx hb hK hP hD hS 2 0 rfl rfl (vin (by decide +kernel)) dX10_weather_31 (fun H locs hP hD hS => ?_)
    obtain ⟨f_15, ef_15, tf_15, hP, hD⟩ : ∃ f_15 : Nat → Int32, f_15 = (upd fz1 (51 : Int32).toNatClampNeg a1) ∧ (ivT tA f_15) ∧ va_P V.1 vwCl [(z 17, aI V 7 f_14), (z 0, .inr (10, mo z 0 pz0_5 pz0_6 pz0_7 pz0_8 pz0_9 pz0_10 pz0_11 pz0_12 pz0_13 pz0_14 pz0_18 pz0_19 pz0_22 pz0_23 pz0_29)), (z 1, aI V 3075 f_15)] H ∧ va_D A [(z 17, aI V 7 f_14), (z 0, .inr (10, mo z 0 pz0_5 pz0_6 pz0_7 pz0_8 pz0_9 pz0_10 pz0_11 pz0_12 pz0_13 pz0_14 pz0_18 pz0_19 pz0_22 pz0_23 pz0_29)), (z 1, aI V 3075 f_15)] := ⟨_, rfl, upT (lo := 0) (hi := 9) (a := 51) (n := 1) tfz1 (iv_c (51 : Int32) (a := 51) (b := 51) (by decide)) (by decide) b_13 (by decide +kernel), hP, hD⟩
    refine lv_aload_n hx hb dX10_weather_32 rfl (lv_at hl 0 rfl) ?_
    refine jnV (wr := []) (rnV (rest := []) ⟨hx, hb, hml, hown, hg⟩ (k_X10_notes_0 l V z f_14 0 pz0_5 pz0_6 pz0_7 pz0_8 pz0_9 pz0_10 pz0_11 pz0_12 pz0_13 pz0_14 pz0_18 pz0_19 pz0_22 pz0_23 pz0_29 f_15 tf_14 bpz0_5 bpz0_6 bpz0_7 bpz0_8 bpz0_10 bpz0_11 bpz0_12 bpz0_13 bpz0_14 bpz0_18 bpz0_22 bpz0_29 tf_15 (RW_up hf0 (iv_c (51 : Int32) (a := 51) (b := 51) (by decide)) (by decide) ef_15)) mt_X10_notes q_7_72 ⟨Nat.le_of_ble_eq_true rfl, Nat.le_of_ble_eq_true rfl⟩ hK hP hD hS hA hE [0, 1, 2] rfl rfl 1 rfl rfl rfl rfl hl.1 rfl (Nat.le_of_ble_eq_true rfl) dX10_weather_33 ⟨Nat.le_of_ble_eq_true rfl, Nat.le_of_ble_eq_true rfl⟩) hP hD hS hA [0, 1, 2] [] rfl rfl rfl (by decide) (fun  w H locs hw hP hD hS => ?_)
    obtain ⟨f_16, tf_16, g_17, rfl⟩ := hw
    have hP : va_P V.1 vwCl [(z 17, aI V 7 f_14), (z 0, .inr (10, mo z 0 pz0_5 pz0_6 pz0_7 pz0_8 pz0_9 pz0_10 pz0_11 pz0_12 pz0_13 pz0_14 pz0_18 pz0_19 pz0_22 pz0_23 pz0_29)), (z 1, aI V 3075 f_16)] H := hP
    have hD : va_D A [(z 17, aI V 7 f_14), (z 0, .inr (10, mo z 0 pz0_5 pz0_6 pz0_7 pz0_8 pz0_9 pz0_10 pz0_11 pz0_12 pz0_13 pz0_14 pz0_18 pz0_19 pz0_22 pz0_23 pz0_29)), (z 1, aI V 3075 f_16)] := hD
    refine lv_aload_n hx hb dX10_weather_36 rfl (lv_at hl 0 rfl) ?_
    refine va_get (ci := 10) (v := .ref (z 17)) (C := RX10) (T := TX10) (N := 40) hx hb hg inX10 hown hK hP 1 rfl rfl 17 (by decide) (hg _ q_6_1) (fun _ h9 => h9) rfl dX10_weather_37 ?_
    refine lv_iconst (v := 5) hx hb dX10_weather_40 (by decide) ?_
    refine va_iald hx hb hK hP 0 0 rfl rfl (vin (by decide +kernel)) dX10_weather_41 ?_
    refine lv_topi (fun x_18 ex_18 => ?_)
    have bx_18 : iv 0 9 x_18 := by rw [ex_18]; exact rdT (a := 5) (n := 1) tf_14 (iv_c (5 : Int32) (a := 5) (b := 5) (by decide)) (by decide) (by decide +kernel)
    have hP := subP (ws' := [(z 0, .inr (10, mo z 0 pz0_5 pz0_6 pz0_7 pz0_8 pz0_9 pz0_10 pz0_11 pz0_12 pz0_13 pz0_14 pz0_18 pz0_19 pz0_22 pz0_23 pz0_29)), (z 1, aI V 3075 f_16), (z 17, aI V 7 f_14)]) hP [1, 2, 0] rfl
    have hD := hD.sub (ws' := [(z 0, .inr (10, mo z 0 pz0_5 pz0_6 pz0_7 pz0_8 pz0_9 pz0_10 pz0_11 pz0_12 pz0_13 pz0_14 pz0_18 pz0_19 pz0_22 pz0_23 pz0_29)), (z 1, aI V 3075 f_16), (z 17, aI V 7 f_14)]) [1, 2, 0] rfl rfl
    exact fiI hx hb hr hlk hK hP hD hS dX10_weather_42 (Nat.le_of_ble_eq_true rfl) (Nat.le_of_ble_eq_true rfl) (⟨0, f_16, f_14, tf_16, tf_14, (iv_w bx_18 (by decide)), g_17, rfl⟩)
  · have b_19 : iv 0 0 r_2 := iv_q c_6 (iv_c (0 : Int32) (a := 0) (b := 0) (by decide))
    refine lv_bipush (v := (-11)) hx hb dX10_weather_17 (by decide) ?_
    exact fiI hx hb hr hlk hK hP hD hS dX10_weather_19 (Nat.le_of_ble_eq_true rfl) (Nat.le_of_ble_eq_true rfl) (⟨0, fz1, fz17, tfz1, tfz17, (iv_c ((-11) : Int32) (by decide)), hf0, rfl⟩)
theorem dX10_undo_0 : decode cX10_undo 0 = .ok (.aload_n 0, 1) := by decide +kernel
theorem dX10_undo_1 : decode cX10_undo 1 = .ok (.iconst 0, 1) := by decide +kernel
theorem dX10_undo_2 : decode cX10_undo 2 = .ok (.putfield 1, 3) := by decide +kernel
theorem dX10_undo_5 : decode cX10_undo 5 = .ok (.iload_n 1, 1) := by decide +kernel
theorem dX10_undo_6 : decode cX10_undo 6 = .ok (.i2l, 1) := by decide +kernel
theorem dX10_undo_7 : decode cX10_undo 7 = .ok (.lconst 1, 1) := by decide +kernel
theorem q_7_102 : Cond.constantLong "BeaconDelayModel" 298 (10 : Int64) ∈ gw := gw_7 (i := 102) (by decide +kernel) rfl
theorem dX10_undo_8 : decode cX10_undo 8 = .ok (.ldc2_w 298, 3) := by decide +kernel
theorem dX10_undo_11 : decode cX10_undo 11 = .ok (.invokestatic 159, 3) := by decide +kernel
theorem dX10_undo_14 : decode cX10_undo 14 = .ok (.ifCond .eq 14, 3) := by decide +kernel
theorem dX10_undo_28 : decode cX10_undo 28 = .ok (.bipush (-3), 2) := by decide +kernel
theorem dX10_undo_30 : decode cX10_undo 30 = .ok (.ireturn, 1) := by decide +kernel
theorem dX10_undo_17 : decode cX10_undo 17 = .ok (.iload_n 1, 1) := by decide +kernel
theorem dX10_undo_18 : decode cX10_undo 18 = .ok (.aload_n 0, 1) := by decide +kernel
theorem dX10_undo_19 : decode cX10_undo 19 = .ok (.getfield 13, 3) := by decide +kernel
theorem dX10_undo_22 : decode cX10_undo 22 = .ok (.bipush 53, 2) := by decide +kernel
theorem dX10_undo_24 : decode cX10_undo 24 = .ok (.iaload, 1) := by decide +kernel
theorem dX10_undo_25 : decode cX10_undo 25 = .ok (.if_icmp .le 6, 3) := by decide +kernel
theorem dX10_undo_31 : decode cX10_undo 31 = .ok (.aload_n 0, 1) := by decide +kernel
theorem dX10_undo_32 : decode cX10_undo 32 = .ok (.getfield 13, 3) := by decide +kernel
theorem dX10_undo_35 : decode cX10_undo 35 = .ok (.bipush 53, 2) := by decide +kernel
theorem dX10_undo_37 : decode cX10_undo 37 = .ok (.dup2, 1) := by decide +kernel
theorem dX10_undo_38 : decode cX10_undo 38 = .ok (.iaload, 1) := by decide +kernel
theorem dX10_undo_39 : decode cX10_undo 39 = .ok (.iload_n 1, 1) := by decide +kernel
theorem dX10_undo_40 : decode cX10_undo 40 = .ok (.isub, 1) := by decide +kernel
theorem dX10_undo_41 : decode cX10_undo 41 = .ok (.iastore, 1) := by decide +kernel
theorem dX10_undo_42 : decode cX10_undo 42 = .ok (.iconst 0, 1) := by decide +kernel
theorem dX10_undo_43 : decode cX10_undo 43 = .ok (.istore_n 2, 1) := by decide +kernel
theorem dX10_undo_44 : decode cX10_undo 44 = .ok (.iload_n 2, 1) := by decide +kernel
theorem dX10_undo_45 : decode cX10_undo 45 = .ok (.bipush 7, 2) := by decide +kernel
theorem dX10_undo_47 : decode cX10_undo 47 = .ok (.if_icmp .ge 38, 3) := by decide +kernel
theorem dX10_undo_50 : decode cX10_undo 50 = .ok (.aload_n 0, 1) := by decide +kernel
theorem dX10_undo_51 : decode cX10_undo 51 = .ok (.getfield 13, 3) := by decide +kernel
theorem dX10_undo_54 : decode cX10_undo 54 = .ok (.bipush 46, 2) := by decide +kernel
theorem dX10_undo_56 : decode cX10_undo 56 = .ok (.iload_n 2, 1) := by decide +kernel
theorem dX10_undo_57 : decode cX10_undo 57 = .ok (.iadd, 1) := by decide +kernel
theorem dX10_undo_58 : decode cX10_undo 58 = .ok (.aload_n 0, 1) := by decide +kernel
theorem dX10_undo_59 : decode cX10_undo 59 = .ok (.getfield 13, 3) := by decide +kernel
theorem dX10_undo_62 : decode cX10_undo 62 = .ok (.bipush 54, 2) := by decide +kernel
theorem dX10_undo_64 : decode cX10_undo 64 = .ok (.bipush 7, 2) := by decide +kernel
theorem dX10_undo_66 : decode cX10_undo 66 = .ok (.aload_n 0, 1) := by decide +kernel
theorem dX10_undo_67 : decode cX10_undo 67 = .ok (.getfield 13, 3) := by decide +kernel
theorem dX10_undo_70 : decode cX10_undo 70 = .ok (.bipush 53, 2) := by decide +kernel
theorem dX10_undo_72 : decode cX10_undo 72 = .ok (.iaload, 1) := by decide +kernel
theorem dX10_undo_73 : decode cX10_undo 73 = .ok (.imul, 1) := by decide +kernel
theorem dX10_undo_74 : decode cX10_undo 74 = .ok (.iadd, 1) := by decide +kernel
theorem dX10_undo_75 : decode cX10_undo 75 = .ok (.iload_n 2, 1) := by decide +kernel
theorem dX10_undo_76 : decode cX10_undo 76 = .ok (.iadd, 1) := by decide +kernel
theorem dX10_undo_77 : decode cX10_undo 77 = .ok (.iaload, 1) := by decide +kernel
theorem dX10_undo_78 : decode cX10_undo 78 = .ok (.iastore, 1) := by decide +kernel
theorem dX10_undo_79 : decode cX10_undo 79 = .ok (.iinc 2 1, 3) := by decide +kernel
theorem dX10_undo_82 : decode cX10_undo 82 = .ok (.goto (-38), 3) := by decide +kernel
theorem dX10_undo_85 : decode cX10_undo 85 = .ok (.aload_n 0, 1) := by decide +kernel
theorem dX10_undo_86 : decode cX10_undo 86 = .ok (.getfield 13, 3) := by decide +kernel
theorem dX10_undo_89 : decode cX10_undo 89 = .ok (.bipush 53, 2) := by decide +kernel
theorem dX10_undo_91 : decode cX10_undo 91 = .ok (.iaload, 1) := by decide +kernel
theorem dX10_undo_92 : decode cX10_undo 92 = .ok (.ireturn, 1) := by decide +kernel
set_option maxHeartbeats 4000000 in
set_option maxRecDepth 100000 in
theorem k_X10_undo_0 (l : Launch) (V : GV) (z : Nat → Nat) (a1 : Int32) (pz0_0 : Int32) (pz0_5 : Int32) (pz0_6 : Int32) (pz0_7 : Int32) (pz0_8 : Int32) (pz0_9 : Int32) (pz0_10 : Int32) (pz0_11 : Int32) (pz0_12 : Int32) (pz0_13 : Int32) (pz0_14 : Int32) (pz0_18 : Int32) (pz0_19 : Int32) (pz0_22 : Int32) (pz0_23 : Int32) (pz0_29 : Int32) (fz1 : Nat → Int32) (bpz0_5 : iv 0 900 pz0_5) (bpz0_6 : iv 0 900 pz0_6) (bpz0_7 : iv 0 900 pz0_7) (bpz0_8 : iv 0 900 pz0_8) (bpz0_10 : iv 0 999 pz0_10) (bpz0_11 : iv 0 4 pz0_11) (bpz0_12 : iv 0 900 pz0_12) (bpz0_13 : iv 0 4 pz0_13) (bpz0_14 : iv (-1) 900 pz0_14) (bpz0_18 : iv 0 2 pz0_18) (bpz0_22 : iv 0 9999 pz0_22) (bpz0_29 : iv 0 10000 pz0_29) (tfz1 : ivT tA fz1) (hf0 : RW fz1) : Ct l V yX10_undo (.code yX10_undo cX10_undo 3 (some .int)) 2 [.ref (z 0), .int a1] [(z 0, .inr (10, mo z pz0_0 pz0_5 pz0_6 pz0_7 pz0_8 pz0_9 pz0_10 pz0_11 pz0_12 pz0_13 pz0_14 pz0_18 pz0_19 pz0_22 pz0_23 pz0_29)), (z 1, aI V 3075 fz1)] 0 0 (QI V (fun (r : Int32) (w : va_W) => ∃ (v0 : Int32) (g1 : Nat → Int32), (ivT tA g1) ∧ iv (-3) 9 r ∧ (RW g1) ∧ w = [(z 0, .inr (10, mo z v0 pz0_5 pz0_6 pz0_7 pz0_8 pz0_9 pz0_10 pz0_11 pz0_12 pz0_13 pz0_14 pz0_18 pz0_19 pz0_22 pz0_23 pz0_29)), (z 1, aI V 3075 g1)])) := by
  refine Ct.of (by decide) (Nat.le_of_ble_eq_true rfl) (fun p e s m below meth c A ls hx hb hr hml hown hlk hnm hg hP hK hD hE hA hS hl => ?_)
  have hl : lv_has ls 3 [(0, .ref (z 0)), (1, .int a1)] := hl
  refine lv_aload_n hx hb dX10_undo_0 rfl (lv_at hl 0 rfl) ?_
  refine lv_iconst (v := 0) hx hb dX10_undo_1 (by decide) ?_
  refine va_put (ci := 10) (v := .int 0) (ty := .int) (C := RX10) (T := TX10) (N := 40) hx hb hg inX10 tyX10 tyX10_ok nmX10 hown hK hP hD hS 0 rfl rfl 0 (by decide) (hg _ q_5_224) (fun _ h9 => h9) rfl (by decide +kernel) rfl rfl (Nat.le_of_ble_eq_true rfl) dX10_undo_2 (fun H locs hP hD hS => ?_)
  have hP : va_P V.1 vwCl [(z 0, .inr (10, mo z 0 pz0_5 pz0_6 pz0_7 pz0_8 pz0_9 pz0_10 pz0_11 pz0_12 pz0_13 pz0_14 pz0_18 pz0_19 pz0_22 pz0_23 pz0_29)), (z 1, aI V 3075 fz1)] H := hP
  have hD : va_D A [(z 0, .inr (10, mo z 0 pz0_5 pz0_6 pz0_7 pz0_8 pz0_9 pz0_10 pz0_11 pz0_12 pz0_13 pz0_14 pz0_18 pz0_19 pz0_22 pz0_23 pz0_29)), (z 1, aI V 3075 fz1)] := hD
  refine lv_iload_n hx hb dX10_undo_5 rfl (lv_at hl 1 rfl) ?_
  refine lv_i2l hx hb dX10_undo_6 rfl ?_
  refine lv_topl (fun j_1 ej_1 => ?_)
  refine lv_lconst (v := 1) hx hb dX10_undo_7 (by decide) ?_
  refine lv_ldc2 (v := 10) hx hb hown (hg _ q_7_102) dX10_undo_8 ?_
  refine jnI (wr := [(z 0, .inr (10, mo z 0 pz0_5 pz0_6 pz0_7 pz0_8 pz0_9 pz0_10 pz0_11 pz0_12 pz0_13 pz0_14 pz0_18 pz0_19 pz0_22 pz0_23 pz0_29)), (z 1, aI V 3075 fz1)]) (rnS (rest := []) ⟨hx, hb, hml, hown, hg⟩ (k_X10_within_0 l V j_1 1 10) mt_X10_within q_6_114 ⟨Nat.le_of_ble_eq_true rfl, Nat.le_of_ble_eq_true rfl⟩ hK hP hD hS hA hE [] rfl rfl rfl hl.1 rfl (Nat.le_of_ble_eq_true rfl) dX10_undo_11 ⟨Nat.le_of_ble_eq_true rfl, Nat.le_of_ble_eq_true rfl⟩) hP hD hS hA [] [0, 1] rfl rfl rfl (by decide) (fun r_2 w H locs hw hP hD hS => ?_)
  obtain ⟨br_2, g_3, g_4, g_5, rfl⟩ := hw
  have hP : va_P V.1 vwCl [(z 0, .inr (10, mo z 0 pz0_5 pz0_6 pz0_7 pz0_8 pz0_9 pz0_10 pz0_11 pz0_12 pz0_13 pz0_14 pz0_18 pz0_19 pz0_22 pz0_23 pz0_29)), (z 1, aI V 3075 fz1)] H := hP
  have hD : va_D A [(z 0, .inr (10, mo z 0 pz0_5 pz0_6 pz0_7 pz0_8 pz0_9 pz0_10 pz0_11 pz0_12 pz0_13 pz0_14 pz0_18 pz0_19 pz0_22 pz0_23 pz0_29)), (z 1, aI V 3075 fz1)] := hD
  refine lv_if_eq (tgt := 28) hx hb dX10_undo_14 (by decide) (fun c_6 => ?_) (fun c_6 => ?_)
  · have b_7 : iv 0 0 r_2 := iv_q c_6 (iv_c (0 : Int32) (a := 0) (b := 0) (by decide))
    refine lv_bipush (v := (-3)) hx hb dX10_undo_28 (by decide) ?_
    exact fiI hx hb hr hlk hK hP hD hS dX10_undo_30 (Nat.le_of_ble_eq_true rfl) (Nat.le_of_ble_eq_true rfl) (⟨0, fz1, tfz1, (iv_c ((-3) : Int32) (by decide)), hf0, rfl⟩)
  · have b_8 : iv 1 1 r_2 := iv_n0 c_6 br_2 (iv_c (0 : Int32) (a := 0) (b := 0) (by decide)) (by decide)
    have c_9 : (1 : Int64) ≤ j_1 := (g_4 (iv_eqp b_8 (iv_c (1 : Int32) (by decide))))
    have b_10 : ivL 1 9223372036854775807 j_1 := ivL_e2 c_9 (ivL_c (1 : Int64) (a := 1) (b := 1) (by decide)) (ivL_top j_1) (by decide)
    have b_11 : iv 1 2147483647 a1 := iv_cap (ivL_i ej_1 b_10) (iv_top a1) (by decide)
    have c_12 : j_1 ≤ 10 := (g_5 (iv_eqp b_8 (iv_c (1 : Int32) (by decide))))
    have b_13 : ivL 1 10 j_1 := ivL_e1 c_12 b_10 (ivL_c (10 : Int64) (a := 10) (b := 10) (by decide)) (by decide)
    have b_14 : iv 1 10 a1 := iv_cap (ivL_i ej_1 b_13) b_11 (by decide)
    refine lv_iload_n hx hb dX10_undo_17 rfl (lv_at hl 1 rfl) ?_
    refine lv_aload_n hx hb dX10_undo_18 rfl (lv_at hl 0 rfl) ?_
    refine va_get (ci := 10) (v := .ref (z 1)) (C := RX10) (T := TX10) (N := 40) hx hb hg inX10 hown hK hP 0 rfl rfl 1 (by decide) (hg _ q_5_225) (fun _ h9 => h9) rfl dX10_undo_19 ?_
    refine lv_bipush (v := 53) hx hb dX10_undo_22 (by decide) ?_
    refine va_iald hx hb hK hP 1 0 rfl rfl (vin (by decide +kernel)) dX10_undo_24 ?_
    refine lv_topi (fun x_15 ex_15 => ?_)
    have bx_15 : iv 0 10 x_15 := by rw [ex_15]; exact rdT (a := 53) (n := 1) tfz1 (iv_c (53 : Int32) (a := 53) (b := 53) (by decide)) (by decide) (by decide +kernel)
    refine lv_icmp_le (tgt := 31) hx hb dX10_undo_25 (by decide) (fun c_16 => ?_) (fun c_16 => ?_)
    · have b_17 : iv 1 10 x_15 := iv_e2 c_16 b_14 bx_15 (by decide)
      refine lv_aload_n hx hb dX10_undo_31 rfl (lv_at hl 0 rfl) ?_
      refine va_get (ci := 10) (v := .ref (z 1)) (C := RX10) (T := TX10) (N := 40) hx hb hg inX10 hown hK hP 0 rfl rfl 1 (by decide) (hg _ q_5_225) (fun _ h9 => h9) rfl dX10_undo_32 ?_
      refine lv_bipush (v := 53) hx hb dX10_undo_35 (by decide) ?_
      refine lv_dup2_11 hx hb dX10_undo_37 rfl rfl ?_
      refine va_iald hx hb hK hP 1 0 rfl rfl (vin (by decide +kernel)) dX10_undo_38 ?_
      refine tpi (y := x_15) ex_15.symm ?_
      refine lv_iload_n hx hb dX10_undo_39 rfl (lv_at hl 1 rfl) ?_
      refine lv_isub hx hb dX10_undo_40 ?_
      refine lv_topi (fun x_18 ex_18 => ?_)
      have bx_18 : iv 0 9 x_18 := by rw [ex_18]; exact iv_subl c_16 b_17 b_14 (by decide)
      refine va_iast hx hb hK hP hD hS 1 0 rfl rfl (vin (by decide +kernel)) dX10_undo_41 (fun H locs hP hD hS => ?_)
      obtain ⟨f_19, ef_19, tf_19, hP, hD⟩ : ∃ f_19 : Nat → Int32, f_19 = (upd fz1 (53 : Int32).toNatClampNeg x_18) ∧ (ivT tA f_19) ∧ va_P V.1 vwCl [(z 0, .inr (10, mo z 0 pz0_5 pz0_6 pz0_7 pz0_8 pz0_9 pz0_10 pz0_11 pz0_12 pz0_13 pz0_14 pz0_18 pz0_19 pz0_22 pz0_23 pz0_29)), (z 1, aI V 3075 f_19)] H ∧ va_D A [(z 0, .inr (10, mo z 0 pz0_5 pz0_6 pz0_7 pz0_8 pz0_9 pz0_10 pz0_11 pz0_12 pz0_13 pz0_14 pz0_18 pz0_19 pz0_22 pz0_23 pz0_29)), (z 1, aI V 3075 f_19)] := ⟨_, rfl, upT (lo := 0) (hi := 10) (a := 53) (n := 1) tfz1 (iv_c (53 : Int32) (a := 53) (b := 53) (by decide)) (by decide) (iv_w bx_18 (by decide)) (by decide +kernel), hP, hD⟩
      refine lv_iconst (v := 0) hx hb dX10_undo_42 (by decide) ?_
      refine lv_istore_n (lv' := [(2, .int 0), (0, .ref (z 0)), (1, .int a1)]) hx hb dX10_undo_43 rfl hl (by decide) rfl (fun ls hl => ?_)
      refine lv_iload_n hx hb dX10_undo_44 rfl (lv_at hl 0 rfl) ?_
      refine lv_bipush (v := 7) hx hb dX10_undo_45 (by decide) ?_
      refine lv_icmp_ge (tgt := 85) hx hb dX10_undo_47 (by decide) (fun c_21 => absurd c_21 (by decide)) (fun _ => ?_)
      refine lv_aload_n hx hb dX10_undo_50 rfl (lv_at hl 1 rfl) ?_
      refine va_get (ci := 10) (v := .ref (z 1)) (C := RX10) (T := TX10) (N := 40) hx hb hg inX10 hown hK hP 0 rfl rfl 1 (by decide) (hg _ q_5_225) (fun _ h9 => h9) rfl dX10_undo_51 ?_
      refine lv_bipush (v := 46) hx hb dX10_undo_54 (by decide) ?_
      refine lv_iload_n hx hb dX10_undo_56 rfl (lv_at hl 0 rfl) ?_
      refine lv_iadd hx hb dX10_undo_57 ?_
      refine tpi (y := 46) (by decide +kernel) ?_
      refine lv_aload_n hx hb dX10_undo_58 rfl (lv_at hl 1 rfl) ?_
      refine va_get (ci := 10) (v := .ref (z 1)) (C := RX10) (T := TX10) (N := 40) hx hb hg inX10 hown hK hP 0 rfl rfl 1 (by decide) (hg _ q_5_225) (fun _ h9 => h9) rfl dX10_undo_59 ?_
      refine lv_bipush (v := 54) hx hb dX10_undo_62 (by decide) ?_
      refine lv_bipush (v := 7) hx hb dX10_undo_64 (by decide) ?_
      refine lv_aload_n hx hb dX10_undo_66 rfl (lv_at hl 1 rfl) ?_
      refine va_get (ci := 10) (v := .ref (z 1)) (C := RX10) (T := TX10) (N := 40) hx hb hg inX10 hown hK hP 0 rfl rfl 1 (by decide) (hg _ q_5_225) (fun _ h9 => h9) rfl dX10_undo_67 ?_
      refine lv_bipush (v := 53) hx hb dX10_undo_70 (by decide) ?_
      refine va_iald hx hb hK hP 1 0 rfl rfl (vin (by decide +kernel)) dX10_undo_72 ?_
      refine tpi (y := x_18) (show f_19 (53 : Int32).toNatClampNeg = x_18 from by rw [ef_19]; exact upd_at) ?_
      refine lv_imul hx hb dX10_undo_73 ?_
      refine lv_topi (fun x_22 ex_22 => ?_)
      have bx_22 : iv 0 63 x_22 := by rw [ex_22]; exact iv_cmul (iv_c (7 : Int32) (a := 7) (b := 7) (by decide)) bx_18 (by decide)
      refine lv_iadd hx hb dX10_undo_74 ?_
      refine lv_topi (fun x_23 ex_23 => ?_)
      have bx_23 : iv 54 117 x_23 := by rw [ex_23]; exact iv_add (iv_c (54 : Int32) (a := 54) (b := 54) (by decide)) bx_22 (by decide)
      refine lv_iload_n hx hb dX10_undo_75 rfl (lv_at hl 0 rfl) ?_
      refine lv_iadd hx hb dX10_undo_76 ?_
      refine lv_topi (fun x_24 ex_24 => ?_)
      have bx_24 : iv 54 117 x_24 := by rw [ex_24]; exact iv_add bx_23 (iv_c (0 : Int32) (a := 0) (b := 0) (by decide)) (by decide)
      refine va_iald hx hb hK hP 1 0 rfl rfl (iv_in bx_24 (by decide)) dX10_undo_77 ?_
      refine tpi (y := fz1 (x_24 : Int32).toNatClampNeg) (show f_19 (x_24 : Int32).toNatClampNeg = fz1 (x_24 : Int32).toNatClampNeg from by rw [ef_19]; exact upd_ne (cl_ne bx_24 (iv_c (53 : Int32) (a := 53) (b := 53) (by decide)) (by decide))) ?_
      refine lv_topi (fun x_25 ex_25 => ?_)
      have bx_25 : iv 0 4 x_25 := by rw [ex_25]; exact (by have q_x_22 := toInt_mulC (k := 7) ex_22 bx_18 (by decide) (by decide); have q_x_23 := toInt_add ex_23 (iv_c (54 : Int32) (a := 54) (b := 54) (by decide)) bx_22 (by decide); have k_x_23 : (54 : Int32).toInt = 54 := (by decide); have q_x_24 := toInt_add ex_24 bx_23 (iv_c (0 : Int32) (a := 0) (b := 0) (by decide)) (by decide); have k_x_24 : (0 : Int32).toInt = 0 := (by decide); exact rdS (c := 54) (k := 7) (a := 0) (n := 10) tfz1 (show _ = 54 + 7 * (x_18 : Int32).toInt by omega) bx_18 (by decide) (by decide +kernel))
      refine va_iast hx hb hK hP hD hS 1 0 rfl rfl (vin (by decide +kernel)) dX10_undo_78 (fun H locs hP hD hS => ?_)
      obtain ⟨f_26, ef_26, tf_26, hP, hD⟩ : ∃ f_26 : Nat → Int32, f_26 = (upd f_19 (46 : Int32).toNatClampNeg x_25) ∧ (ivT tA f_26) ∧ va_P V.1 vwCl [(z 0, .inr (10, mo z 0 pz0_5 pz0_6 pz0_7 pz0_8 pz0_9 pz0_10 pz0_11 pz0_12 pz0_13 pz0_14 pz0_18 pz0_19 pz0_22 pz0_23 pz0_29)), (z 1, aI V 3075 f_26)] H ∧ va_D A [(z 0, .inr (10, mo z 0 pz0_5 pz0_6 pz0_7 pz0_8 pz0_9 pz0_10 pz0_11 pz0_12 pz0_13 pz0_14 pz0_18 pz0_19 pz0_22 pz0_23 pz0_29)), (z 1, aI V 3075 f_26)] := ⟨_, rfl, upT (lo := 0) (hi := 4) (a := 46) (n := 1) tf_19 (iv_c (46 : Int32) (a := 46) (b := 46) (by decide)) (by decide) bx_25 (by decide +kernel), hP, hD⟩
      refine lv_iinc (v := 1) (lv' := [(2, .int 1), (0, .ref (z 0)), (1, .int a1)]) hx hb dX10_undo_79 hl (k := 0) rfl (by decide +kernel) (by decide) rfl (fun ls hl => ?_)
      refine lv_goto (tgt := 44) hx hb dX10_undo_82 (by decide) ?_
      refine lv_iload_n hx hb dX10_undo_44 rfl (lv_at hl 0 rfl) ?_
      refine lv_bipush (v := 7) hx hb dX10_undo_45 (by decide) ?_
      refine lv_icmp_ge (tgt := 85) hx hb dX10_undo_47 (by decide) (fun c_28 => absurd c_28 (by decide)) (fun _ => ?_)
      refine lv_aload_n hx hb dX10_undo_50 rfl (lv_at hl 1 rfl) ?_
      refine va_get (ci := 10) (v := .ref (z 1)) (C := RX10) (T := TX10) (N := 40) hx hb hg inX10 hown hK hP 0 rfl rfl 1 (by decide) (hg _ q_5_225) (fun _ h9 => h9) rfl dX10_undo_51 ?_
      refine lv_bipush (v := 46) hx hb dX10_undo_54 (by decide) ?_
      refine lv_iload_n hx hb dX10_undo_56 rfl (lv_at hl 0 rfl) ?_
      refine lv_iadd hx hb dX10_undo_57 ?_
      refine tpi (y := 47) (by decide +kernel) ?_
      refine lv_aload_n hx hb dX10_undo_58 rfl (lv_at hl 1 rfl) ?_
      refine va_get (ci := 10) (v := .ref (z 1)) (C := RX10) (T := TX10) (N := 40) hx hb hg inX10 hown hK hP 0 rfl rfl 1 (by decide) (hg _ q_5_225) (fun _ h9 => h9) rfl dX10_undo_59 ?_
      refine lv_bipush (v := 54) hx hb dX10_undo_62 (by decide) ?_
      refine lv_bipush (v := 7) hx hb dX10_undo_64 (by decide) ?_
      refine lv_aload_n hx hb dX10_undo_66 rfl (lv_at hl 1 rfl) ?_
      refine va_get (ci := 10) (v := .ref (z 1)) (C := RX10) (T := TX10) (N := 40) hx hb hg inX10 hown hK hP 0 rfl rfl 1 (by decide) (hg _ q_5_225) (fun _ h9 => h9) rfl dX10_undo_67 ?_
      refine lv_bipush (v := 53) hx hb dX10_undo_70 (by decide) ?_
      refine va_iald hx hb hK hP 1 0 rfl rfl (vin (by decide +kernel)) dX10_undo_72 ?_
      refine tpi (y := x_18) ((show f_26 (53 : Int32).toNatClampNeg = f_19 (53 : Int32).toNatClampNeg from by rw [ef_26]; exact upd_ne (cl_ne (iv_c (53 : Int32) (a := 53) (b := 53) (by decide)) (iv_c (46 : Int32) (a := 46) (b := 46) (by decide)) (by decide))).trans (show f_19 (53 : Int32).toNatClampNeg = x_18 from by rw [ef_19]; exact upd_at)) ?_
      refine lv_imul hx hb dX10_undo_73 ?_
      refine tpi (y := x_22) ex_22.symm ?_
      refine lv_iadd hx hb dX10_undo_74 ?_
      refine tpi (y := x_23) ex_23.symm ?_
      refine lv_iload_n hx hb dX10_undo_75 rfl (lv_at hl 0 rfl) ?_
      refine lv_iadd hx hb dX10_undo_76 ?_
      refine lv_topi (fun x_29 ex_29 => ?_)
      have bx_29 : iv 55 118 x_29 := by rw [ex_29]; exact iv_add bx_23 (iv_c (1 : Int32) (a := 1) (b := 1) (by decide)) (by decide)
      refine va_iald hx hb hK hP 1 0 rfl rfl (iv_in bx_29 (by decide)) dX10_undo_77 ?_
      refine tpi (y := fz1 (x_29 : Int32).toNatClampNeg) ((show f_26 (x_29 : Int32).toNatClampNeg = f_19 (x_29 : Int32).toNatClampNeg from by rw [ef_26]; exact upd_ne (cl_ne bx_29 (iv_c (46 : Int32) (a := 46) (b := 46) (by decide)) (by decide))).trans (show f_19 (x_29 : Int32).toNatClampNeg = fz1 (x_29 : Int32).toNatClampNeg from by rw [ef_19]; exact upd_ne (cl_ne bx_29 (iv_c (53 : Int32) (a := 53) (b := 53) (by decide)) (by decide)))) ?_
      refine lv_topi (fun x_30 ex_30 => ?_)
      have bx_30 : iv 0 4 x_30 := by rw [ex_30]; exact (by have q_x_22 := toInt_mulC (k := 7) ex_22 bx_18 (by decide) (by decide); have q_x_23 := toInt_add ex_23 (iv_c (54 : Int32) (a := 54) (b := 54) (by decide)) bx_22 (by decide); have k_x_23 : (54 : Int32).toInt = 54 := (by decide); have q_x_29 := toInt_add ex_29 bx_23 (iv_c (1 : Int32) (a := 1) (b := 1) (by decide)) (by decide); have k_x_29 : (1 : Int32).toInt = 1 := (by decide); exact rdS (c := 55) (k := 7) (a := 0) (n := 10) tfz1 (show _ = 55 + 7 * (x_18 : Int32).toInt by omega) bx_18 (by decide) (by decide +kernel))
      refine va_iast hx hb hK hP hD hS 1 0 rfl rfl (vin (by decide +kernel)) dX10_undo_78 (fun H locs hP hD hS => ?_)
      obtain ⟨f_31, ef_31, tf_31, hP, hD⟩ : ∃ f_31 : Nat → Int32, f_31 = (upd f_26 (47 : Int32).toNatClampNeg x_30) ∧ (ivT tA f_31) ∧ va_P V.1 vwCl [(z 0, .inr (10, mo z 0 pz0_5 pz0_6 pz0_7 pz0_8 pz0_9 pz0_10 pz0_11 pz0_12 pz0_13 pz0_14 pz0_18 pz0_19 pz0_22 pz0_23 pz0_29)), (z 1, aI V 3075 f_31)] H ∧ va_D A [(z 0, .inr (10, mo z 0 pz0_5 pz0_6 pz0_7 pz0_8 pz0_9 pz0_10 pz0_11 pz0_12 pz0_13 pz0_14 pz0_18 pz0_19 pz0_22 pz0_23 pz0_29)), (z 1, aI V 3075 f_31)] := ⟨_, rfl, upT (lo := 0) (hi := 4) (a := 47) (n := 1) tf_26 (iv_c (47 : Int32) (a := 47) (b := 47) (by decide)) (by decide) bx_30 (by decide +kernel), hP, hD⟩
      refine lv_iinc (v := 2) (lv' := [(2, .int 2), (0, .ref (z 0)), (1, .int a1)]) hx hb dX10_undo_79 hl (k := 0) rfl (by decide +kernel) (by decide) rfl (fun ls hl => ?_)
      refine lv_goto (tgt := 44) hx hb dX10_undo_82 (by decide) ?_
      refine lv_iload_n hx hb dX10_undo_44 rfl (lv_at hl 0 rfl) ?_
      refine lv_bipush (v := 7) hx hb dX10_undo_45 (by decide) ?_
      refine lv_icmp_ge (tgt := 85) hx hb dX10_undo_47 (by decide) (fun c_33 => absurd c_33 (by decide)) (fun _ => ?_)
      refine lv_aload_n hx hb dX10_undo_50 rfl (lv_at hl 1 rfl) ?_
      refine va_get (ci := 10) (v := .ref (z 1)) (C := RX10) (T := TX10) (N := 40) hx hb hg inX10 hown hK hP 0 rfl rfl 1 (by decide) (hg _ q_5_225) (fun _ h9 => h9) rfl dX10_undo_51 ?_
      refine lv_bipush (v := 46) hx hb dX10_undo_54 (by decide) ?_
      refine lv_iload_n hx hb dX10_undo_56 rfl (lv_at hl 0 rfl) ?_
      refine lv_iadd hx hb dX10_undo_57 ?_
      refine tpi (y := 48) (by decide +kernel) ?_
      refine lv_aload_n hx hb dX10_undo_58 rfl (lv_at hl 1 rfl) ?_
      refine va_get (ci := 10) (v := .ref (z 1)) (C := RX10) (T := TX10) (N := 40) hx hb hg inX10 hown hK hP 0 rfl rfl 1 (by decide) (hg _ q_5_225) (fun _ h9 => h9) rfl dX10_undo_59 ?_
      refine lv_bipush (v := 54) hx hb dX10_undo_62 (by decide) ?_
      refine lv_bipush (v := 7) hx hb dX10_undo_64 (by decide) ?_
      refine lv_aload_n hx hb dX10_undo_66 rfl (lv_at hl 1 rfl) ?_
      refine va_get (ci := 10) (v := .ref (z 1)) (C := RX10) (T := TX10) (N := 40) hx hb hg inX10 hown hK hP 0 rfl rfl 1 (by decide) (hg _ q_5_225) (fun _ h9 => h9) rfl dX10_undo_67 ?_
      refine lv_bipush (v := 53) hx hb dX10_undo_70 (by decide) ?_
      refine va_iald hx hb hK hP 1 0 rfl rfl (vin (by decide +kernel)) dX10_undo_72 ?_
      refine tpi (y := x_18) (((show f_31 (53 : Int32).toNatClampNeg = f_26 (53 : Int32).toNatClampNeg from by rw [ef_31]; exact upd_ne (cl_ne (iv_c (53 : Int32) (a := 53) (b := 53) (by decide)) (iv_c (47 : Int32) (a := 47) (b := 47) (by decide)) (by decide))).trans (show f_26 (53 : Int32).toNatClampNeg = f_19 (53 : Int32).toNatClampNeg from by rw [ef_26]; exact upd_ne (cl_ne (iv_c (53 : Int32) (a := 53) (b := 53) (by decide)) (iv_c (46 : Int32) (a := 46) (b := 46) (by decide)) (by decide)))).trans (show f_19 (53 : Int32).toNatClampNeg = x_18 from by rw [ef_19]; exact upd_at)) ?_
      refine lv_imul hx hb dX10_undo_73 ?_
      refine tpi (y := x_22) ex_22.symm ?_
      refine lv_iadd hx hb dX10_undo_74 ?_
      refine tpi (y := x_23) ex_23.symm ?_
      refine lv_iload_n hx hb dX10_undo_75 rfl (lv_at hl 0 rfl) ?_
      refine lv_iadd hx hb dX10_undo_76 ?_
      refine lv_topi (fun x_34 ex_34 => ?_)
      have bx_34 : iv 56 119 x_34 := by rw [ex_34]; exact iv_add bx_23 (iv_c (2 : Int32) (a := 2) (b := 2) (by decide)) (by decide)
      refine va_iald hx hb hK hP 1 0 rfl rfl (iv_in bx_34 (by decide)) dX10_undo_77 ?_
      refine tpi (y := fz1 (x_34 : Int32).toNatClampNeg) (((show f_31 (x_34 : Int32).toNatClampNeg = f_26 (x_34 : Int32).toNatClampNeg from by rw [ef_31]; exact upd_ne (cl_ne bx_34 (iv_c (47 : Int32) (a := 47) (b := 47) (by decide)) (by decide))).trans (show f_26 (x_34 : Int32).toNatClampNeg = f_19 (x_34 : Int32).toNatClampNeg from by rw [ef_26]; exact upd_ne (cl_ne bx_34 (iv_c (46 : Int32) (a := 46) (b := 46) (by decide)) (by decide)))).trans (show f_19 (x_34 : Int32).toNatClampNeg = fz1 (x_34 : Int32).toNatClampNeg from by rw [ef_19]; exact upd_ne (cl_ne bx_34 (iv_c (53 : Int32) (a := 53) (b := 53) (by decide)) (by decide)))) ?_
      refine lv_topi (fun x_35 ex_35 => ?_)
      have bx_35 : iv 0 4 x_35 := by rw [ex_35]; exact (by have q_x_22 := toInt_mulC (k := 7) ex_22 bx_18 (by decide) (by decide); have q_x_23 := toInt_add ex_23 (iv_c (54 : Int32) (a := 54) (b := 54) (by decide)) bx_22 (by decide); have k_x_23 : (54 : Int32).toInt = 54 := (by decide); have q_x_34 := toInt_add ex_34 bx_23 (iv_c (2 : Int32) (a := 2) (b := 2) (by decide)) (by decide); have k_x_34 : (2 : Int32).toInt = 2 := (by decide); exact rdS (c := 56) (k := 7) (a := 0) (n := 10) tfz1 (show _ = 56 + 7 * (x_18 : Int32).toInt by omega) bx_18 (by decide) (by decide +kernel))
      refine va_iast hx hb hK hP hD hS 1 0 rfl rfl (vin (by decide +kernel)) dX10_undo_78 (fun H locs hP hD hS => ?_)
      obtain ⟨f_36, ef_36, tf_36, hP, hD⟩ : ∃ f_36 : Nat → Int32, f_36 = (upd f_31 (48 : Int32).toNatClampNeg x_35) ∧ (ivT tA f_36) ∧ va_P V.1 vwCl [(z 0, .inr (10, mo z 0 pz0_5 pz0_6 pz0_7 pz0_8 pz0_9 pz0_10 pz0_11 pz0_12 pz0_13 pz0_14 pz0_18 pz0_19 pz0_22 pz0_23 pz0_29)), (z 1, aI V 3075 f_36)] H ∧ va_D A [(z 0, .inr (10, mo z 0 pz0_5 pz0_6 pz0_7 pz0_8 pz0_9 pz0_10 pz0_11 pz0_12 pz0_13 pz0_14 pz0_18 pz0_19 pz0_22 pz0_23 pz0_29)), (z 1, aI V 3075 f_36)] := ⟨_, rfl, upT (lo := 0) (hi := 4) (a := 48) (n := 1) tf_31 (iv_c (48 : Int32) (a := 48) (b := 48) (by decide)) (by decide) bx_35 (by decide +kernel), hP, hD⟩
      refine lv_iinc (v := 3) (lv' := [(2, .int 3), (0, .ref (z 0)), (1, .int a1)]) hx hb dX10_undo_79 hl (k := 0) rfl (by decide +kernel) (by decide) rfl (fun ls hl => ?_)
      refine lv_goto (tgt := 44) hx hb dX10_undo_82 (by decide) ?_
      refine lv_iload_n hx hb dX10_undo_44 rfl (lv_at hl 0 rfl) ?_
      refine lv_bipush (v := 7) hx hb dX10_undo_45 (by decide) ?_
      refine lv_icmp_ge (tgt := 85) hx hb dX10_undo_47 (by decide) (fun c_38 => absurd c_38 (by decide)) (fun _ => ?_)
      refine lv_aload_n hx hb dX10_undo_50 rfl (lv_at hl 1 rfl) ?_
      refine va_get (ci := 10) (v := .ref (z 1)) (C := RX10) (T := TX10) (N := 40) hx hb hg inX10 hown hK hP 0 rfl rfl 1 (by decide) (hg _ q_5_225) (fun _ h9 => h9) rfl dX10_undo_51 ?_
      refine lv_bipush (v := 46) hx hb dX10_undo_54 (by decide) ?_
      refine lv_iload_n hx hb dX10_undo_56 rfl (lv_at hl 0 rfl) ?_
      refine lv_iadd hx hb dX10_undo_57 ?_
      refine tpi (y := 49) (by decide +kernel) ?_
      refine lv_aload_n hx hb dX10_undo_58 rfl (lv_at hl 1 rfl) ?_
      refine va_get (ci := 10) (v := .ref (z 1)) (C := RX10) (T := TX10) (N := 40) hx hb hg inX10 hown hK hP 0 rfl rfl 1 (by decide) (hg _ q_5_225) (fun _ h9 => h9) rfl dX10_undo_59 ?_
      refine lv_bipush (v := 54) hx hb dX10_undo_62 (by decide) ?_
      refine lv_bipush (v := 7) hx hb dX10_undo_64 (by decide) ?_
      refine lv_aload_n hx hb dX10_undo_66 rfl (lv_at hl 1 rfl) ?_
      refine va_get (ci := 10) (v := .ref (z 1)) (C := RX10) (T := TX10) (N := 40) hx hb hg inX10 hown hK hP 0 rfl rfl 1 (by decide) (hg _ q_5_225) (fun _ h9 => h9) rfl dX10_undo_67 ?_
      refine lv_bipush (v := 53) hx hb dX10_undo_70 (by decide) ?_
      refine va_iald hx hb hK hP 1 0 rfl rfl (vin (by decide +kernel)) dX10_undo_72 ?_
      refine tpi (y := x_18) ((((show f_36 (53 : Int32).toNatClampNeg = f_31 (53 : Int32).toNatClampNeg from by rw [ef_36]; exact upd_ne (cl_ne (iv_c (53 : Int32) (a := 53) (b := 53) (by decide)) (iv_c (48 : Int32) (a := 48) (b := 48) (by decide)) (by decide))).trans (show f_31 (53 : Int32).toNatClampNeg = f_26 (53 : Int32).toNatClampNeg from by rw [ef_31]; exact upd_ne (cl_ne (iv_c (53 : Int32) (a := 53) (b := 53) (by decide)) (iv_c (47 : Int32) (a := 47) (b := 47) (by decide)) (by decide)))).trans (show f_26 (53 : Int32).toNatClampNeg = f_19 (53 : Int32).toNatClampNeg from by rw [ef_26]; exact upd_ne (cl_ne (iv_c (53 : Int32) (a := 53) (b := 53) (by decide)) (iv_c (46 : Int32) (a := 46) (b := 46) (by decide)) (by decide)))).trans (show f_19 (53 : Int32).toNatClampNeg = x_18 from by rw [ef_19]; exact upd_at)) ?_
      refine lv_imul hx hb dX10_undo_73 ?_
      refine tpi (y := x_22) ex_22.symm ?_
      refine lv_iadd hx hb dX10_undo_74 ?_
      refine tpi (y := x_23) ex_23.symm ?_
      refine lv_iload_n hx hb dX10_undo_75 rfl (lv_at hl 0 rfl) ?_
      refine lv_iadd hx hb dX10_undo_76 ?_
      refine lv_topi (fun x_39 ex_39 => ?_)
      have bx_39 : iv 57 120 x_39 := by rw [ex_39]; exact iv_add bx_23 (iv_c (3 : Int32) (a := 3) (b := 3) (by decide)) (by decide)
      refine va_iald hx hb hK hP 1 0 rfl rfl (iv_in bx_39 (by decide)) dX10_undo_77 ?_
      refine tpi (y := fz1 (x_39 : Int32).toNatClampNeg) ((((show f_36 (x_39 : Int32).toNatClampNeg = f_31 (x_39 : Int32).toNatClampNeg from by rw [ef_36]; exact upd_ne (cl_ne bx_39 (iv_c (48 : Int32) (a := 48) (b := 48) (by decide)) (by decide))).trans (show f_31 (x_39 : Int32).toNatClampNeg = f_26 (x_39 : Int32).toNatClampNeg from by rw [ef_31]; exact upd_ne (cl_ne bx_39 (iv_c (47 : Int32) (a := 47) (b := 47) (by decide)) (by decide)))).trans (show f_26 (x_39 : Int32).toNatClampNeg = f_19 (x_39 : Int32).toNatClampNeg from by rw [ef_26]; exact upd_ne (cl_ne bx_39 (iv_c (46 : Int32) (a := 46) (b := 46) (by decide)) (by decide)))).trans (show f_19 (x_39 : Int32).toNatClampNeg = fz1 (x_39 : Int32).toNatClampNeg from by rw [ef_19]; exact upd_ne (cl_ne bx_39 (iv_c (53 : Int32) (a := 53) (b := 53) (by decide)) (by decide)))) ?_
      refine lv_topi (fun x_40 ex_40 => ?_)
      have bx_40 : iv 0 4 x_40 := by rw [ex_40]; exact (by have q_x_22 := toInt_mulC (k := 7) ex_22 bx_18 (by decide) (by decide); have q_x_23 := toInt_add ex_23 (iv_c (54 : Int32) (a := 54) (b := 54) (by decide)) bx_22 (by decide); have k_x_23 : (54 : Int32).toInt = 54 := (by decide); have q_x_39 := toInt_add ex_39 bx_23 (iv_c (3 : Int32) (a := 3) (b := 3) (by decide)) (by decide); have k_x_39 : (3 : Int32).toInt = 3 := (by decide); exact rdS (c := 57) (k := 7) (a := 0) (n := 10) tfz1 (show _ = 57 + 7 * (x_18 : Int32).toInt by omega) bx_18 (by decide) (by decide +kernel))
      refine va_iast hx hb hK hP hD hS 1 0 rfl rfl (vin (by decide +kernel)) dX10_undo_78 (fun H locs hP hD hS => ?_)
      obtain ⟨f_41, ef_41, tf_41, hP, hD⟩ : ∃ f_41 : Nat → Int32, f_41 = (upd f_36 (49 : Int32).toNatClampNeg x_40) ∧ (ivT tA f_41) ∧ va_P V.1 vwCl [(z 0, .inr (10, mo z 0 pz0_5 pz0_6 pz0_7 pz0_8 pz0_9 pz0_10 pz0_11 pz0_12 pz0_13 pz0_14 pz0_18 pz0_19 pz0_22 pz0_23 pz0_29)), (z 1, aI V 3075 f_41)] H ∧ va_D A [(z 0, .inr (10, mo z 0 pz0_5 pz0_6 pz0_7 pz0_8 pz0_9 pz0_10 pz0_11 pz0_12 pz0_13 pz0_14 pz0_18 pz0_19 pz0_22 pz0_23 pz0_29)), (z 1, aI V 3075 f_41)] := ⟨_, rfl, upT (lo := 0) (hi := 4) (a := 49) (n := 1) tf_36 (iv_c (49 : Int32) (a := 49) (b := 49) (by decide)) (by decide) bx_40 (by decide +kernel), hP, hD⟩
      refine lv_iinc (v := 4) (lv' := [(2, .int 4), (0, .ref (z 0)), (1, .int a1)]) hx hb dX10_undo_79 hl (k := 0) rfl (by decide +kernel) (by decide) rfl (fun ls hl => ?_)
      refine lv_goto (tgt := 44) hx hb dX10_undo_82 (by decide) ?_
      refine lv_iload_n hx hb dX10_undo_44 rfl (lv_at hl 0 rfl) ?_
      refine lv_bipush (v := 7) hx hb dX10_undo_45 (by decide) ?_
      refine lv_icmp_ge (tgt := 85) hx hb dX10_undo_47 (by decide) (fun c_43 => absurd c_43 (by decide)) (fun _ => ?_)
      refine lv_aload_n hx hb dX10_undo_50 rfl (lv_at hl 1 rfl) ?_
      refine va_get (ci := 10) (v := .ref (z 1)) (C := RX10) (T := TX10) (N := 40) hx hb hg inX10 hown hK hP 0 rfl rfl 1 (by decide) (hg _ q_5_225) (fun _ h9 => h9) rfl dX10_undo_51 ?_
      refine lv_bipush (v := 46) hx hb dX10_undo_54 (by decide) ?_
      refine lv_iload_n hx hb dX10_undo_56 rfl (lv_at hl 0 rfl) ?_
      refine lv_iadd hx hb dX10_undo_57 ?_
      refine tpi (y := 50) (by decide +kernel) ?_
      refine lv_aload_n hx hb dX10_undo_58 rfl (lv_at hl 1 rfl) ?_
      refine va_get (ci := 10) (v := .ref (z 1)) (C := RX10) (T := TX10) (N := 40) hx hb hg inX10 hown hK hP 0 rfl rfl 1 (by decide) (hg _ q_5_225) (fun _ h9 => h9) rfl dX10_undo_59 ?_
      refine lv_bipush (v := 54) hx hb dX10_undo_62 (by decide) ?_
      refine lv_bipush (v := 7) hx hb dX10_undo_64 (by decide) ?_
      refine lv_aload_n hx hb dX10_undo_66 rfl (lv_at hl 1 rfl) ?_
      refine va_get (ci := 10) (v := .ref (z 1)) (C := RX10) (T := TX10) (N := 40) hx hb hg inX10 hown hK hP 0 rfl rfl 1 (by decide) (hg _ q_5_225) (fun _ h9 => h9) rfl dX10_undo_67 ?_
      refine lv_bipush (v := 53) hx hb dX10_undo_70 (by decide) ?_
      refine va_iald hx hb hK hP 1 0 rfl rfl (vin (by decide +kernel)) dX10_undo_72 ?_
      refine tpi (y := x_18) (((((show f_41 (53 : Int32).toNatClampNeg = f_36 (53 : Int32).toNatClampNeg from by rw [ef_41]; exact upd_ne (cl_ne (iv_c (53 : Int32) (a := 53) (b := 53) (by decide)) (iv_c (49 : Int32) (a := 49) (b := 49) (by decide)) (by decide))).trans (show f_36 (53 : Int32).toNatClampNeg = f_31 (53 : Int32).toNatClampNeg from by rw [ef_36]; exact upd_ne (cl_ne (iv_c (53 : Int32) (a := 53) (b := 53) (by decide)) (iv_c (48 : Int32) (a := 48) (b := 48) (by decide)) (by decide)))).trans (show f_31 (53 : Int32).toNatClampNeg = f_26 (53 : Int32).toNatClampNeg from by rw [ef_31]; exact upd_ne (cl_ne (iv_c (53 : Int32) (a := 53) (b := 53) (by decide)) (iv_c (47 : Int32) (a := 47) (b := 47) (by decide)) (by decide)))).trans (show f_26 (53 : Int32).toNatClampNeg = f_19 (53 : Int32).toNatClampNeg from by rw [ef_26]; exact upd_ne (cl_ne (iv_c (53 : Int32) (a := 53) (b := 53) (by decide)) (iv_c (46 : Int32) (a := 46) (b := 46) (by decide)) (by decide)))).trans (show f_19 (53 : Int32).toNatClampNeg = x_18 from by rw [ef_19]; exact upd_at)) ?_
      refine lv_imul hx hb dX10_undo_73 ?_
      refine tpi (y := x_22) ex_22.symm ?_
      refine lv_iadd hx hb dX10_undo_74 ?_
      refine tpi (y := x_23) ex_23.symm ?_
      refine lv_iload_n hx hb dX10_undo_75 rfl (lv_at hl 0 rfl) ?_
      refine lv_iadd hx hb dX10_undo_76 ?_
      refine lv_topi (fun x_44 ex_44 => ?_)
      have bx_44 : iv 58 121 x_44 := by rw [ex_44]; exact iv_add bx_23 (iv_c (4 : Int32) (a := 4) (b := 4) (by decide)) (by decide)
      refine va_iald hx hb hK hP 1 0 rfl rfl (iv_in bx_44 (by decide)) dX10_undo_77 ?_
      refine tpi (y := fz1 (x_44 : Int32).toNatClampNeg) (((((show f_41 (x_44 : Int32).toNatClampNeg = f_36 (x_44 : Int32).toNatClampNeg from by rw [ef_41]; exact upd_ne (cl_ne bx_44 (iv_c (49 : Int32) (a := 49) (b := 49) (by decide)) (by decide))).trans (show f_36 (x_44 : Int32).toNatClampNeg = f_31 (x_44 : Int32).toNatClampNeg from by rw [ef_36]; exact upd_ne (cl_ne bx_44 (iv_c (48 : Int32) (a := 48) (b := 48) (by decide)) (by decide)))).trans (show f_31 (x_44 : Int32).toNatClampNeg = f_26 (x_44 : Int32).toNatClampNeg from by rw [ef_31]; exact upd_ne (cl_ne bx_44 (iv_c (47 : Int32) (a := 47) (b := 47) (by decide)) (by decide)))).trans (show f_26 (x_44 : Int32).toNatClampNeg = f_19 (x_44 : Int32).toNatClampNeg from by rw [ef_26]; exact upd_ne (cl_ne bx_44 (iv_c (46 : Int32) (a := 46) (b := 46) (by decide)) (by decide)))).trans (show f_19 (x_44 : Int32).toNatClampNeg = fz1 (x_44 : Int32).toNatClampNeg from by rw [ef_19]; exact upd_ne (cl_ne bx_44 (iv_c (53 : Int32) (a := 53) (b := 53) (by decide)) (by decide)))) ?_
      refine lv_topi (fun x_45 ex_45 => ?_)
      have bx_45 : iv 0 15 x_45 := by rw [ex_45]; exact (by have q_x_22 := toInt_mulC (k := 7) ex_22 bx_18 (by decide) (by decide); have q_x_23 := toInt_add ex_23 (iv_c (54 : Int32) (a := 54) (b := 54) (by decide)) bx_22 (by decide); have k_x_23 : (54 : Int32).toInt = 54 := (by decide); have q_x_44 := toInt_add ex_44 bx_23 (iv_c (4 : Int32) (a := 4) (b := 4) (by decide)) (by decide); have k_x_44 : (4 : Int32).toInt = 4 := (by decide); exact rdS (c := 58) (k := 7) (a := 0) (n := 10) tfz1 (show _ = 58 + 7 * (x_18 : Int32).toInt by omega) bx_18 (by decide) (by decide +kernel))
      refine va_iast hx hb hK hP hD hS 1 0 rfl rfl (vin (by decide +kernel)) dX10_undo_78 (fun H locs hP hD hS => ?_)
      obtain ⟨f_46, ef_46, tf_46, hP, hD⟩ : ∃ f_46 : Nat → Int32, f_46 = (upd f_41 (50 : Int32).toNatClampNeg x_45) ∧ (ivT tA f_46) ∧ va_P V.1 vwCl [(z 0, .inr (10, mo z 0 pz0_5 pz0_6 pz0_7 pz0_8 pz0_9 pz0_10 pz0_11 pz0_12 pz0_13 pz0_14 pz0_18 pz0_19 pz0_22 pz0_23 pz0_29)), (z 1, aI V 3075 f_46)] H ∧ va_D A [(z 0, .inr (10, mo z 0 pz0_5 pz0_6 pz0_7 pz0_8 pz0_9 pz0_10 pz0_11 pz0_12 pz0_13 pz0_14 pz0_18 pz0_19 pz0_22 pz0_23 pz0_29)), (z 1, aI V 3075 f_46)] := ⟨_, rfl, upT (lo := 0) (hi := 15) (a := 50) (n := 1) tf_41 (iv_c (50 : Int32) (a := 50) (b := 50) (by decide)) (by decide) bx_45 (by decide +kernel), hP, hD⟩
      refine lv_iinc (v := 5) (lv' := [(2, .int 5), (0, .ref (z 0)), (1, .int a1)]) hx hb dX10_undo_79 hl (k := 0) rfl (by decide +kernel) (by decide) rfl (fun ls hl => ?_)
      refine lv_goto (tgt := 44) hx hb dX10_undo_82 (by decide) ?_
      refine lv_iload_n hx hb dX10_undo_44 rfl (lv_at hl 0 rfl) ?_
      refine lv_bipush (v := 7) hx hb dX10_undo_45 (by decide) ?_
      refine lv_icmp_ge (tgt := 85) hx hb dX10_undo_47 (by decide) (fun c_48 => absurd c_48 (by decide)) (fun _ => ?_)
      refine lv_aload_n hx hb dX10_undo_50 rfl (lv_at hl 1 rfl) ?_
      refine va_get (ci := 10) (v := .ref (z 1)) (C := RX10) (T := TX10) (N := 40) hx hb hg inX10 hown hK hP 0 rfl rfl 1 (by decide) (hg _ q_5_225) (fun _ h9 => h9) rfl dX10_undo_51 ?_
      refine lv_bipush (v := 46) hx hb dX10_undo_54 (by decide) ?_
      refine lv_iload_n hx hb dX10_undo_56 rfl (lv_at hl 0 rfl) ?_
      refine lv_iadd hx hb dX10_undo_57 ?_
      refine tpi (y := 51) (by decide +kernel) ?_
      refine lv_aload_n hx hb dX10_undo_58 rfl (lv_at hl 1 rfl) ?_
      refine va_get (ci := 10) (v := .ref (z 1)) (C := RX10) (T := TX10) (N := 40) hx hb hg inX10 hown hK hP 0 rfl rfl 1 (by decide) (hg _ q_5_225) (fun _ h9 => h9) rfl dX10_undo_59 ?_
      refine lv_bipush (v := 54) hx hb dX10_undo_62 (by decide) ?_
      refine lv_bipush (v := 7) hx hb dX10_undo_64 (by decide) ?_
      refine lv_aload_n hx hb dX10_undo_66 rfl (lv_at hl 1 rfl) ?_
      refine va_get (ci := 10) (v := .ref (z 1)) (C := RX10) (T := TX10) (N := 40) hx hb hg inX10 hown hK hP 0 rfl rfl 1 (by decide) (hg _ q_5_225) (fun _ h9 => h9) rfl dX10_undo_67 ?_
      refine lv_bipush (v := 53) hx hb dX10_undo_70 (by decide) ?_
      refine va_iald hx hb hK hP 1 0 rfl rfl (vin (by decide +kernel)) dX10_undo_72 ?_
      refine tpi (y := x_18) ((((((show f_46 (53 : Int32).toNatClampNeg = f_41 (53 : Int32).toNatClampNeg from by rw [ef_46]; exact upd_ne (cl_ne (iv_c (53 : Int32) (a := 53) (b := 53) (by decide)) (iv_c (50 : Int32) (a := 50) (b := 50) (by decide)) (by decide))).trans (show f_41 (53 : Int32).toNatClampNeg = f_36 (53 : Int32).toNatClampNeg from by rw [ef_41]; exact upd_ne (cl_ne (iv_c (53 : Int32) (a := 53) (b := 53) (by decide)) (iv_c (49 : Int32) (a := 49) (b := 49) (by decide)) (by decide)))).trans (show f_36 (53 : Int32).toNatClampNeg = f_31 (53 : Int32).toNatClampNeg from by rw [ef_36]; exact upd_ne (cl_ne (iv_c (53 : Int32) (a := 53) (b := 53) (by decide)) (iv_c (48 : Int32) (a := 48) (b := 48) (by decide)) (by decide)))).trans (show f_31 (53 : Int32).toNatClampNeg = f_26 (53 : Int32).toNatClampNeg from by rw [ef_31]; exact upd_ne (cl_ne (iv_c (53 : Int32) (a := 53) (b := 53) (by decide)) (iv_c (47 : Int32) (a := 47) (b := 47) (by decide)) (by decide)))).trans (show f_26 (53 : Int32).toNatClampNeg = f_19 (53 : Int32).toNatClampNeg from by rw [ef_26]; exact upd_ne (cl_ne (iv_c (53 : Int32) (a := 53) (b := 53) (by decide)) (iv_c (46 : Int32) (a := 46) (b := 46) (by decide)) (by decide)))).trans (show f_19 (53 : Int32).toNatClampNeg = x_18 from by rw [ef_19]; exact upd_at)) ?_
      refine lv_imul hx hb dX10_undo_73 ?_
      refine tpi (y := x_22) ex_22.symm ?_
      refine lv_iadd hx hb dX10_undo_74 ?_
      refine tpi (y := x_23) ex_23.symm ?_
      refine lv_iload_n hx hb dX10_undo_75 rfl (lv_at hl 0 rfl) ?_
      refine lv_iadd hx hb dX10_undo_76 ?_
      refine lv_topi (fun x_49 ex_49 => ?_)
      have bx_49 : iv 59 122 x_49 := by rw [ex_49]; exact iv_add bx_23 (iv_c (5 : Int32) (a := 5) (b := 5) (by decide)) (by decide)
      refine va_iald hx hb hK hP 1 0 rfl rfl (iv_in bx_49 (by decide)) dX10_undo_77 ?_
      refine tpi (y := fz1 (x_49 : Int32).toNatClampNeg) ((((((show f_46 (x_49 : Int32).toNatClampNeg = f_41 (x_49 : Int32).toNatClampNeg from by rw [ef_46]; exact upd_ne (cl_ne bx_49 (iv_c (50 : Int32) (a := 50) (b := 50) (by decide)) (by decide))).trans (show f_41 (x_49 : Int32).toNatClampNeg = f_36 (x_49 : Int32).toNatClampNeg from by rw [ef_41]; exact upd_ne (cl_ne bx_49 (iv_c (49 : Int32) (a := 49) (b := 49) (by decide)) (by decide)))).trans (show f_36 (x_49 : Int32).toNatClampNeg = f_31 (x_49 : Int32).toNatClampNeg from by rw [ef_36]; exact upd_ne (cl_ne bx_49 (iv_c (48 : Int32) (a := 48) (b := 48) (by decide)) (by decide)))).trans (show f_31 (x_49 : Int32).toNatClampNeg = f_26 (x_49 : Int32).toNatClampNeg from by rw [ef_31]; exact upd_ne (cl_ne bx_49 (iv_c (47 : Int32) (a := 47) (b := 47) (by decide)) (by decide)))).trans (show f_26 (x_49 : Int32).toNatClampNeg = f_19 (x_49 : Int32).toNatClampNeg from by rw [ef_26]; exact upd_ne (cl_ne bx_49 (iv_c (46 : Int32) (a := 46) (b := 46) (by decide)) (by decide)))).trans (show f_19 (x_49 : Int32).toNatClampNeg = fz1 (x_49 : Int32).toNatClampNeg from by rw [ef_19]; exact upd_ne (cl_ne bx_49 (iv_c (53 : Int32) (a := 53) (b := 53) (by decide)) (by decide)))) ?_
      refine lv_topi (fun x_50 ex_50 => ?_)
      have bx_50 : iv 0 9 x_50 := by rw [ex_50]; exact (by have q_x_22 := toInt_mulC (k := 7) ex_22 bx_18 (by decide) (by decide); have q_x_23 := toInt_add ex_23 (iv_c (54 : Int32) (a := 54) (b := 54) (by decide)) bx_22 (by decide); have k_x_23 : (54 : Int32).toInt = 54 := (by decide); have q_x_49 := toInt_add ex_49 bx_23 (iv_c (5 : Int32) (a := 5) (b := 5) (by decide)) (by decide); have k_x_49 : (5 : Int32).toInt = 5 := (by decide); exact rdS (c := 59) (k := 7) (a := 0) (n := 10) tfz1 (show _ = 59 + 7 * (x_18 : Int32).toInt by omega) bx_18 (by decide) (by decide +kernel))
      refine va_iast hx hb hK hP hD hS 1 0 rfl rfl (vin (by decide +kernel)) dX10_undo_78 (fun H locs hP hD hS => ?_)
      obtain ⟨f_51, ef_51, tf_51, hP, hD⟩ : ∃ f_51 : Nat → Int32, f_51 = (upd f_46 (51 : Int32).toNatClampNeg x_50) ∧ (ivT tA f_51) ∧ va_P V.1 vwCl [(z 0, .inr (10, mo z 0 pz0_5 pz0_6 pz0_7 pz0_8 pz0_9 pz0_10 pz0_11 pz0_12 pz0_13 pz0_14 pz0_18 pz0_19 pz0_22 pz0_23 pz0_29)), (z 1, aI V 3075 f_51)] H ∧ va_D A [(z 0, .inr (10, mo z 0 pz0_5 pz0_6 pz0_7 pz0_8 pz0_9 pz0_10 pz0_11 pz0_12 pz0_13 pz0_14 pz0_18 pz0_19 pz0_22 pz0_23 pz0_29)), (z 1, aI V 3075 f_51)] := ⟨_, rfl, upT (lo := 0) (hi := 9) (a := 51) (n := 1) tf_46 (iv_c (51 : Int32) (a := 51) (b := 51) (by decide)) (by decide) bx_50 (by decide +kernel), hP, hD⟩
      refine lv_iinc (v := 6) (lv' := [(2, .int 6), (0, .ref (z 0)), (1, .int a1)]) hx hb dX10_undo_79 hl (k := 0) rfl (by decide +kernel) (by decide) rfl (fun ls hl => ?_)
      refine lv_goto (tgt := 44) hx hb dX10_undo_82 (by decide) ?_
      refine lv_iload_n hx hb dX10_undo_44 rfl (lv_at hl 0 rfl) ?_
      refine lv_bipush (v := 7) hx hb dX10_undo_45 (by decide) ?_
      refine lv_icmp_ge (tgt := 85) hx hb dX10_undo_47 (by decide) (fun c_53 => absurd c_53 (by decide)) (fun _ => ?_)
      refine lv_aload_n hx hb dX10_undo_50 rfl (lv_at hl 1 rfl) ?_
      refine va_get (ci := 10) (v := .ref (z 1)) (C := RX10) (T := TX10) (N := 40) hx hb hg inX10 hown hK hP 0 rfl rfl 1 (by decide) (hg _ q_5_225) (fun _ h9 => h9) rfl dX10_undo_51 ?_
      refine lv_bipush (v := 46) hx hb dX10_undo_54 (by decide) ?_
      refine lv_iload_n hx hb dX10_undo_56 rfl (lv_at hl 0 rfl) ?_
      refine lv_iadd hx hb dX10_undo_57 ?_
      refine tpi (y := 52) (by decide +kernel) ?_
      refine lv_aload_n hx hb dX10_undo_58 rfl (lv_at hl 1 rfl) ?_
      refine va_get (ci := 10) (v := .ref (z 1)) (C := RX10) (T := TX10) (N := 40) hx hb hg inX10 hown hK hP 0 rfl rfl 1 (by decide) (hg _ q_5_225) (fun _ h9 => h9) rfl dX10_undo_59 ?_
      refine lv_bipush (v := 54) hx hb dX10_undo_62 (by decide) ?_
      refine lv_bipush (v := 7) hx hb dX10_undo_64 (by decide) ?_
      refine lv_aload_n hx hb dX10_undo_66 rfl (lv_at hl 1 rfl) ?_
      refine va_get (ci := 10) (v := .ref (z 1)) (C := RX10) (T := TX10) (N := 40) hx hb hg inX10 hown hK hP 0 rfl rfl 1 (by decide) (hg _ q_5_225) (fun _ h9 => h9) rfl dX10_undo_67 ?_
      refine lv_bipush (v := 53) hx hb dX10_undo_70 (by decide) ?_
      refine va_iald hx hb hK hP 1 0 rfl rfl (vin (by decide +kernel)) dX10_undo_72 ?_
      refine tpi (y := x_18) (((((((show f_51 (53 : Int32).toNatClampNeg = f_46 (53 : Int32).toNatClampNeg from by rw [ef_51]; exact upd_ne (cl_ne (iv_c (53 : Int32) (a := 53) (b := 53) (by decide)) (iv_c (51 : Int32) (a := 51) (b := 51) (by decide)) (by decide))).trans (show f_46 (53 : Int32).toNatClampNeg = f_41 (53 : Int32).toNatClampNeg from by rw [ef_46]; exact upd_ne (cl_ne (iv_c (53 : Int32) (a := 53) (b := 53) (by decide)) (iv_c (50 : Int32) (a := 50) (b := 50) (by decide)) (by decide)))).trans (show f_41 (53 : Int32).toNatClampNeg = f_36 (53 : Int32).toNatClampNeg from by rw [ef_41]; exact upd_ne (cl_ne (iv_c (53 : Int32) (a := 53) (b := 53) (by decide)) (iv_c (49 : Int32) (a := 49) (b := 49) (by decide)) (by decide)))).trans (show f_36 (53 : Int32).toNatClampNeg = f_31 (53 : Int32).toNatClampNeg from by rw [ef_36]; exact upd_ne (cl_ne (iv_c (53 : Int32) (a := 53) (b := 53) (by decide)) (iv_c (48 : Int32) (a := 48) (b := 48) (by decide)) (by decide)))).trans (show f_31 (53 : Int32).toNatClampNeg = f_26 (53 : Int32).toNatClampNeg from by rw [ef_31]; exact upd_ne (cl_ne (iv_c (53 : Int32) (a := 53) (b := 53) (by decide)) (iv_c (47 : Int32) (a := 47) (b := 47) (by decide)) (by decide)))).trans (show f_26 (53 : Int32).toNatClampNeg = f_19 (53 : Int32).toNatClampNeg from by rw [ef_26]; exact upd_ne (cl_ne (iv_c (53 : Int32) (a := 53) (b := 53) (by decide)) (iv_c (46 : Int32) (a := 46) (b := 46) (by decide)) (by decide)))).trans (show f_19 (53 : Int32).toNatClampNeg = x_18 from by rw [ef_19]; exact upd_at)) ?_
      refine lv_imul hx hb dX10_undo_73 ?_
      refine tpi (y := x_22) ex_22.symm ?_
      refine lv_iadd hx hb dX10_undo_74 ?_
      refine tpi (y := x_23) ex_23.symm ?_
      refine lv_iload_n hx hb dX10_undo_75 rfl (lv_at hl 0 rfl) ?_
      refine lv_iadd hx hb dX10_undo_76 ?_
      refine lv_topi (fun x_54 ex_54 => ?_)
      have bx_54 : iv 60 123 x_54 := by rw [ex_54]; exact iv_add bx_23 (iv_c (6 : Int32) (a := 6) (b := 6) (by decide)) (by decide)
      refine va_iald hx hb hK hP 1 0 rfl rfl (iv_in bx_54 (by decide)) dX10_undo_77 ?_
      refine tpi (y := fz1 (x_54 : Int32).toNatClampNeg) (((((((show f_51 (x_54 : Int32).toNatClampNeg = f_46 (x_54 : Int32).toNatClampNeg from by rw [ef_51]; exact upd_ne (cl_ne bx_54 (iv_c (51 : Int32) (a := 51) (b := 51) (by decide)) (by decide))).trans (show f_46 (x_54 : Int32).toNatClampNeg = f_41 (x_54 : Int32).toNatClampNeg from by rw [ef_46]; exact upd_ne (cl_ne bx_54 (iv_c (50 : Int32) (a := 50) (b := 50) (by decide)) (by decide)))).trans (show f_41 (x_54 : Int32).toNatClampNeg = f_36 (x_54 : Int32).toNatClampNeg from by rw [ef_41]; exact upd_ne (cl_ne bx_54 (iv_c (49 : Int32) (a := 49) (b := 49) (by decide)) (by decide)))).trans (show f_36 (x_54 : Int32).toNatClampNeg = f_31 (x_54 : Int32).toNatClampNeg from by rw [ef_36]; exact upd_ne (cl_ne bx_54 (iv_c (48 : Int32) (a := 48) (b := 48) (by decide)) (by decide)))).trans (show f_31 (x_54 : Int32).toNatClampNeg = f_26 (x_54 : Int32).toNatClampNeg from by rw [ef_31]; exact upd_ne (cl_ne bx_54 (iv_c (47 : Int32) (a := 47) (b := 47) (by decide)) (by decide)))).trans (show f_26 (x_54 : Int32).toNatClampNeg = f_19 (x_54 : Int32).toNatClampNeg from by rw [ef_26]; exact upd_ne (cl_ne bx_54 (iv_c (46 : Int32) (a := 46) (b := 46) (by decide)) (by decide)))).trans (show f_19 (x_54 : Int32).toNatClampNeg = fz1 (x_54 : Int32).toNatClampNeg from by rw [ef_19]; exact upd_ne (cl_ne bx_54 (iv_c (53 : Int32) (a := 53) (b := 53) (by decide)) (by decide)))) ?_
      refine lv_topi (fun x_55 ex_55 => ?_)
      refine va_iast hx hb hK hP hD hS 1 0 rfl rfl (vin (by decide +kernel)) dX10_undo_78 (fun H locs hP hD hS => ?_)
      obtain ⟨f_56, ef_56, tf_56, hP, hD⟩ : ∃ f_56 : Nat → Int32, f_56 = (upd f_51 (52 : Int32).toNatClampNeg x_55) ∧ (ivT tA f_56) ∧ va_P V.1 vwCl [(z 0, .inr (10, mo z 0 pz0_5 pz0_6 pz0_7 pz0_8 pz0_9 pz0_10 pz0_11 pz0_12 pz0_13 pz0_14 pz0_18 pz0_19 pz0_22 pz0_23 pz0_29)), (z 1, aI V 3075 f_56)] H ∧ va_D A [(z 0, .inr (10, mo z 0 pz0_5 pz0_6 pz0_7 pz0_8 pz0_9 pz0_10 pz0_11 pz0_12 pz0_13 pz0_14 pz0_18 pz0_19 pz0_22 pz0_23 pz0_29)), (z 1, aI V 3075 f_56)] := ⟨_, rfl, upT (lo := (-2147483648)) (hi := 2147483647) (a := 52) (n := 1) tf_51 (iv_c (52 : Int32) (a := 52) (b := 52) (by decide)) (by decide) (iv_top x_55) (by decide +kernel), hP, hD⟩
      refine lv_iinc (v := 7) (lv' := [(2, .int 7), (0, .ref (z 0)), (1, .int a1)]) hx hb dX10_undo_79 hl (k := 0) rfl (by decide +kernel) (by decide) rfl (fun ls hl => ?_)
      refine lv_goto (tgt := 44) hx hb dX10_undo_82 (by decide) ?_
      refine lv_iload_n hx hb dX10_undo_44 rfl (lv_at hl 0 rfl) ?_
      refine lv_bipush (v := 7) hx hb dX10_undo_45 (by decide) ?_
      refine lv_icmp_ge (tgt := 85) hx hb dX10_undo_47 (by decide) (fun _ => ?_) (fun c_58 => absurd c_58 (by decide))
      refine lv_aload_n hx hb dX10_undo_85 rfl (lv_at hl 1 rfl) ?_
      refine va_get (ci := 10) (v := .ref (z 1)) (C := RX10) (T := TX10) (N := 40) hx hb hg inX10 hown hK hP 0 rfl rfl 1 (by decide) (hg _ q_5_225) (fun _ h9 => h9) rfl dX10_undo_86 ?_
      refine lv_bipush (v := 53) hx hb dX10_undo_89 (by decide) ?_
      refine va_iald hx hb hK hP 1 0 rfl rfl (vin (by decide +kernel)) dX10_undo_91 ?_
      refine tpi (y := x_18) ((((((((show f_56 (53 : Int32).toNatClampNeg = f_51 (53 : Int32).toNatClampNeg from by rw [ef_56]; exact upd_ne (cl_ne (iv_c (53 : Int32) (a := 53) (b := 53) (by decide)) (iv_c (52 : Int32) (a := 52) (b := 52) (by decide)) (by decide))).trans (show f_51 (53 : Int32).toNatClampNeg = f_46 (53 : Int32).toNatClampNeg from by rw [ef_51]; exact upd_ne (cl_ne (iv_c (53 : Int32) (a := 53) (b := 53) (by decide)) (iv_c (51 : Int32) (a := 51) (b := 51) (by decide)) (by decide)))).trans (show f_46 (53 : Int32).toNatClampNeg = f_41 (53 : Int32).toNatClampNeg from by rw [ef_46]; exact upd_ne (cl_ne (iv_c (53 : Int32) (a := 53) (b := 53) (by decide)) (iv_c (50 : Int32) (a := 50) (b := 50) (by decide)) (by decide)))).trans (show f_41 (53 : Int32).toNatClampNeg = f_36 (53 : Int32).toNatClampNeg from by rw [ef_41]; exact upd_ne (cl_ne (iv_c (53 : Int32) (a := 53) (b := 53) (by decide)) (iv_c (49 : Int32) (a := 49) (b := 49) (by decide)) (by decide)))).trans (show f_36 (53 : Int32).toNatClampNeg = f_31 (53 : Int32).toNatClampNeg from by rw [ef_36]; exact upd_ne (cl_ne (iv_c (53 : Int32) (a := 53) (b := 53) (by decide)) (iv_c (48 : Int32) (a := 48) (b := 48) (by decide)) (by decide)))).trans (show f_31 (53 : Int32).toNatClampNeg = f_26 (53 : Int32).toNatClampNeg from by rw [ef_31]; exact upd_ne (cl_ne (iv_c (53 : Int32) (a := 53) (b := 53) (by decide)) (iv_c (47 : Int32) (a := 47) (b := 47) (by decide)) (by decide)))).trans (show f_26 (53 : Int32).toNatClampNeg = f_19 (53 : Int32).toNatClampNeg from by rw [ef_26]; exact upd_ne (cl_ne (iv_c (53 : Int32) (a := 53) (b := 53) (by decide)) (iv_c (46 : Int32) (a := 46) (b := 46) (by decide)) (by decide)))).trans (show f_19 (53 : Int32).toNatClampNeg = x_18 from by rw [ef_19]; exact upd_at)) ?_
      exact fiI hx hb hr hlk hK hP hD hS dX10_undo_92 (Nat.le_of_ble_eq_true rfl) (Nat.le_of_ble_eq_true rfl) (⟨0, f_56, tf_56, (iv_w bx_18 (by decide)), (RW_up (RW_up (RW_up (RW_up (RW_up (RW_up (RW_up (RW_up hf0 (iv_c (53 : Int32) (a := 53) (b := 53) (by decide)) (by decide) ef_19) (iv_c (46 : Int32) (a := 46) (b := 46) (by decide)) (by decide) ef_26) (iv_c (47 : Int32) (a := 47) (b := 47) (by decide)) (by decide) ef_31) (iv_c (48 : Int32) (a := 48) (b := 48) (by decide)) (by decide) ef_36) (iv_c (49 : Int32) (a := 49) (b := 49) (by decide)) (by decide) ef_41) (iv_c (50 : Int32) (a := 50) (b := 50) (by decide)) (by decide) ef_46) (iv_c (51 : Int32) (a := 51) (b := 51) (by decide)) (by decide) ef_51) (iv_c (52 : Int32) (a := 52) (b := 52) (by decide)) (by decide) ef_56), rfl⟩)
    · have b_59 : iv 0 9 x_15 := iv_l1 (Int32.not_le.mp c_16) bx_15 b_14 (by decide)
      refine lv_bipush (v := (-3)) hx hb dX10_undo_28 (by decide) ?_
      exact fiI hx hb hr hlk hK hP hD hS dX10_undo_30 (Nat.le_of_ble_eq_true rfl) (Nat.le_of_ble_eq_true rfl) (⟨0, fz1, tfz1, (iv_c ((-3) : Int32) (by decide)), hf0, rfl⟩)
theorem dX10_noTray_0 : decode cX10_noTray 0 = .ok (.iload_n 1, 1) := by decide +kernel
theorem dX10_noTray_1 : decode cX10_noTray 1 = .ok (.i2l, 1) := by decide +kernel
theorem dX10_noTray_2 : decode cX10_noTray 2 = .ok (.lconst 0, 1) := by decide +kernel
theorem q_7_107 : Cond.constantLong "BeaconDelayModel" 315 (3 : Int64) ∈ gw := gw_7 (i := 107) (by decide +kernel) rfl
theorem dX10_noTray_3 : decode cX10_noTray 3 = .ok (.ldc2_w 315, 3) := by decide +kernel
theorem dX10_noTray_6 : decode cX10_noTray 6 = .ok (.invokestatic 159, 3) := by decide +kernel
theorem dX10_noTray_9 : decode cX10_noTray 9 = .ok (.ifCond .ne 8, 3) := by decide +kernel
theorem dX10_noTray_17 : decode cX10_noTray 17 = .ok (.aload_n 0, 1) := by decide +kernel
theorem q_6_21 : Cond.fieldLink "BeaconDelayModel" 84 "BeaconDelayModel" "rowSort" "[I" ∈ gw := gw_6 (i := 21) (by decide +kernel) rfl
theorem dX10_noTray_18 : decode cX10_noTray 18 = .ok (.getfield 84, 3) := by decide +kernel
theorem dX10_noTray_21 : decode cX10_noTray 21 = .ok (.iload_n 1, 1) := by decide +kernel
theorem dX10_noTray_22 : decode cX10_noTray 22 = .ok (.iaload, 1) := by decide +kernel
theorem dX10_noTray_23 : decode cX10_noTray 23 = .ok (.iconst (-1), 1) := by decide +kernel
theorem dX10_noTray_24 : decode cX10_noTray 24 = .ok (.if_icmp .ne 8, 3) := by decide +kernel
theorem dX10_noTray_32 : decode cX10_noTray 32 = .ok (.iconst 0, 1) := by decide +kernel
theorem dX10_noTray_33 : decode cX10_noTray 33 = .ok (.ireturn, 1) := by decide +kernel
theorem dX10_noTray_27 : decode cX10_noTray 27 = .ok (.bipush (-6), 2) := by decide +kernel
theorem dX10_noTray_29 : decode cX10_noTray 29 = .ok (.goto 4, 3) := by decide +kernel
theorem dX10_noTray_12 : decode cX10_noTray 12 = .ok (.bipush (-2), 2) := by decide +kernel
theorem dX10_noTray_14 : decode cX10_noTray 14 = .ok (.goto 19, 3) := by decide +kernel
set_option maxHeartbeats 4000000 in
set_option maxRecDepth 100000 in
theorem k_X10_noTray_0 (l : Launch) (V : GV) (z : Nat → Nat) (a1 : Int32) (pz0_0 : Int32) (pz0_5 : Int32) (pz0_6 : Int32) (pz0_7 : Int32) (pz0_8 : Int32) (pz0_9 : Int32) (pz0_10 : Int32) (pz0_11 : Int32) (pz0_12 : Int32) (pz0_13 : Int32) (pz0_14 : Int32) (pz0_18 : Int32) (pz0_19 : Int32) (pz0_22 : Int32) (pz0_23 : Int32) (pz0_29 : Int32) (fz37 : Nat → Int32) (bpz0_5 : iv 0 900 pz0_5) (bpz0_6 : iv 0 900 pz0_6) (bpz0_7 : iv 0 900 pz0_7) (bpz0_8 : iv 0 900 pz0_8) (bpz0_10 : iv 0 999 pz0_10) (bpz0_11 : iv 0 4 pz0_11) (bpz0_12 : iv 0 900 pz0_12) (bpz0_13 : iv 0 4 pz0_13) (bpz0_14 : iv (-1) 900 pz0_14) (bpz0_18 : iv 0 2 pz0_18) (bpz0_22 : iv 0 9999 pz0_22) (bpz0_29 : iv 0 10000 pz0_29) (tfz37 : ∀ j, iv (-1) 3 (fz37 j)) : Ct l V yX10_noTray (.code yX10_noTray cX10_noTray 2 (some .int)) 2 [.ref (z 0), .int a1] [(z 0, .inr (10, mo z pz0_0 pz0_5 pz0_6 pz0_7 pz0_8 pz0_9 pz0_10 pz0_11 pz0_12 pz0_13 pz0_14 pz0_18 pz0_19 pz0_22 pz0_23 pz0_29)), (z 37, aI V 4 fz37)] 0 0 (QI V (fun (r : Int32) (w : va_W) => iv (-6) 0 r ∧ (r = 0 → iv 0 3 a1) ∧ w = [(z 0, .inr (10, mo z pz0_0 pz0_5 pz0_6 pz0_7 pz0_8 pz0_9 pz0_10 pz0_11 pz0_12 pz0_13 pz0_14 pz0_18 pz0_19 pz0_22 pz0_23 pz0_29)), (z 37, aI V 4 fz37)])) := by
  refine Ct.of (by decide) (Nat.le_of_ble_eq_true rfl) (fun p e s m below meth c A ls hx hb hr hml hown hlk hnm hg hP hK hD hE hA hS hl => ?_)
  have hl : lv_has ls 2 [(0, .ref (z 0)), (1, .int a1)] := hl
  refine lv_iload_n hx hb dX10_noTray_0 rfl (lv_at hl 1 rfl) ?_
  refine lv_i2l hx hb dX10_noTray_1 rfl ?_
  refine lv_topl (fun j_1 ej_1 => ?_)
  refine lv_lconst (v := 0) hx hb dX10_noTray_2 (by decide) ?_
  refine lv_ldc2 (v := 3) hx hb hown (hg _ q_7_107) dX10_noTray_3 ?_
  refine jnI (wr := [(z 0, .inr (10, mo z pz0_0 pz0_5 pz0_6 pz0_7 pz0_8 pz0_9 pz0_10 pz0_11 pz0_12 pz0_13 pz0_14 pz0_18 pz0_19 pz0_22 pz0_23 pz0_29)), (z 37, aI V 4 fz37)]) (rnS (rest := []) ⟨hx, hb, hml, hown, hg⟩ (k_X10_within_0 l V j_1 0 3) mt_X10_within q_6_114 ⟨Nat.le_of_ble_eq_true rfl, Nat.le_of_ble_eq_true rfl⟩ hK hP hD hS hA hE [] rfl rfl rfl hl.1 rfl (Nat.le_of_ble_eq_true rfl) dX10_noTray_6 ⟨Nat.le_of_ble_eq_true rfl, Nat.le_of_ble_eq_true rfl⟩) hP hD hS hA [] [0, 1] rfl rfl rfl (by decide) (fun r_2 w H locs hw hP hD hS => ?_)
  obtain ⟨br_2, g_3, g_4, g_5, rfl⟩ := hw
  have hP : va_P V.1 vwCl [(z 0, .inr (10, mo z pz0_0 pz0_5 pz0_6 pz0_7 pz0_8 pz0_9 pz0_10 pz0_11 pz0_12 pz0_13 pz0_14 pz0_18 pz0_19 pz0_22 pz0_23 pz0_29)), (z 37, aI V 4 fz37)] H := hP
  have hD : va_D A [(z 0, .inr (10, mo z pz0_0 pz0_5 pz0_6 pz0_7 pz0_8 pz0_9 pz0_10 pz0_11 pz0_12 pz0_13 pz0_14 pz0_18 pz0_19 pz0_22 pz0_23 pz0_29)), (z 37, aI V 4 fz37)] := hD
  refine lv_if_ne (tgt := 17) hx hb dX10_noTray_9 (by decide) (fun c_6 => ?_) (fun c_6 => ?_)
  · have b_7 : iv 1 1 r_2 := iv_n0 c_6 br_2 (iv_c (0 : Int32) (a := 0) (b := 0) (by decide)) (by decide)
    have c_8 : (0 : Int64) ≤ j_1 := (g_4 (iv_eqp b_7 (iv_c (1 : Int32) (by decide))))
    have b_9 : ivL 0 9223372036854775807 j_1 := ivL_e2 c_8 (ivL_c (0 : Int64) (a := 0) (b := 0) (by decide)) (ivL_top j_1) (by decide)
    have b_10 : iv 0 2147483647 a1 := iv_cap (ivL_i ej_1 b_9) (iv_top a1) (by decide)
    have c_11 : j_1 ≤ 3 := (g_5 (iv_eqp b_7 (iv_c (1 : Int32) (by decide))))
    have b_12 : ivL 0 3 j_1 := ivL_e1 c_11 b_9 (ivL_c (3 : Int64) (a := 3) (b := 3) (by decide)) (by decide)
    have b_13 : iv 0 3 a1 := iv_cap (ivL_i ej_1 b_12) b_10 (by decide)
    refine lv_aload_n hx hb dX10_noTray_17 rfl (lv_at hl 0 rfl) ?_
    refine va_get (ci := 10) (v := .ref (z 37)) (C := RX10) (T := TX10) (N := 40) hx hb hg inX10 hown hK hP 0 rfl rfl 37 (by decide) (hg _ q_6_21) (fun _ h9 => h9) rfl dX10_noTray_18 ?_
    refine lv_iload_n hx hb dX10_noTray_21 rfl (lv_at hl 1 rfl) ?_
    refine va_iald hx hb hK hP 1 0 rfl rfl (iv_in b_13 (by decide)) dX10_noTray_22 ?_
    refine lv_topi (fun x_14 ex_14 => ?_)
    have bx_14 : iv (-1) 3 x_14 := by rw [ex_14]; exact tfz37 _
    refine lv_iconst (v := (-1)) hx hb dX10_noTray_23 (by decide) ?_
    refine lv_icmp_ne (tgt := 32) hx hb dX10_noTray_24 (by decide) (fun c_15 => ?_) (fun c_15 => ?_)
    · have b_16 : iv 0 3 x_14 := iv_n0 c_15 bx_14 (iv_c ((-1) : Int32) (a := (-1)) (b := (-1)) (by decide)) (by decide)
      refine lv_iconst (v := 0) hx hb dX10_noTray_32 (by decide) ?_
      exact fiI hx hb hr hlk hK hP hD hS dX10_noTray_33 (Nat.le_of_ble_eq_true rfl) (Nat.le_of_ble_eq_true rfl) (⟨(iv_c (0 : Int32) (by decide)), (fun _ => b_13), rfl⟩)
    · have b_17 : iv (-1) (-1) x_14 := iv_q c_15 (iv_c ((-1) : Int32) (a := (-1)) (b := (-1)) (by decide))
      refine lv_bipush (v := (-6)) hx hb dX10_noTray_27 (by decide) ?_
      refine lv_goto (tgt := 33) hx hb dX10_noTray_29 (by decide) ?_
      exact fiI hx hb hr hlk hK hP hD hS dX10_noTray_33 (Nat.le_of_ble_eq_true rfl) (Nat.le_of_ble_eq_true rfl) (⟨(iv_c ((-6) : Int32) (by decide)), (fun q9 => absurd q9 (by decide)), rfl⟩)
  · have b_18 : iv 0 0 r_2 := iv_q c_6 (iv_c (0 : Int32) (a := 0) (b := 0) (by decide))
    refine lv_bipush (v := (-2)) hx hb dX10_noTray_12 (by decide) ?_
    refine lv_goto (tgt := 33) hx hb dX10_noTray_14 (by decide) ?_
    exact fiI hx hb hr hlk hK hP hD hS dX10_noTray_33 (Nat.le_of_ble_eq_true rfl) (Nat.le_of_ble_eq_true rfl) (⟨(iv_c ((-2) : Int32) (by decide)), (fun q9 => absurd q9 (by decide)), rfl⟩)
theorem dX10_whyNot_0 : decode cX10_whyNot 0 = .ok (.lload_n 1, 1) := by decide +kernel
theorem dX10_whyNot_1 : decode cX10_whyNot 1 = .ok (.lconst 0, 1) := by decide +kernel
theorem dX10_whyNot_2 : decode cX10_whyNot 2 = .ok (.ldc2_w 296, 3) := by decide +kernel
theorem dX10_whyNot_5 : decode cX10_whyNot 5 = .ok (.invokestatic 159, 3) := by decide +kernel
theorem dX10_whyNot_8 : decode cX10_whyNot 8 = .ok (.ifCond .eq 17, 3) := by decide +kernel
theorem dX10_whyNot_25 : decode cX10_whyNot 25 = .ok (.lload_n 1, 1) := by decide +kernel
theorem dX10_whyNot_26 : decode cX10_whyNot 26 = .ok (.ldc2_w 298, 3) := by decide +kernel
theorem q_7_120 : Cond.constantLong "BeaconDelayModel" 300 (19 : Int64) ∈ gw := gw_7 (i := 120) (by decide +kernel) rfl
theorem dX10_whyNot_29 : decode cX10_whyNot 29 = .ok (.ldc2_w 300, 3) := by decide +kernel
theorem dX10_whyNot_32 : decode cX10_whyNot 32 = .ok (.invokestatic 159, 3) := by decide +kernel
theorem dX10_whyNot_35 : decode cX10_whyNot 35 = .ok (.ifCond .eq 15, 3) := by decide +kernel
theorem dX10_whyNot_50 : decode cX10_whyNot 50 = .ok (.lload_n 1, 1) := by decide +kernel
theorem q_7_121 : Cond.constantLong "BeaconDelayModel" 302 (20 : Int64) ∈ gw := gw_7 (i := 121) (by decide +kernel) rfl
theorem dX10_whyNot_51 : decode cX10_whyNot 51 = .ok (.ldc2_w 302, 3) := by decide +kernel
theorem q_7_122 : Cond.constantLong "BeaconDelayModel" 304 (29 : Int64) ∈ gw := gw_7 (i := 122) (by decide +kernel) rfl
theorem dX10_whyNot_54 : decode cX10_whyNot 54 = .ok (.ldc2_w 304, 3) := by decide +kernel
theorem dX10_whyNot_57 : decode cX10_whyNot 57 = .ok (.invokestatic 159, 3) := by decide +kernel
theorem dX10_whyNot_60 : decode cX10_whyNot 60 = .ok (.ifCond .eq 7, 3) := by decide +kernel
theorem dX10_whyNot_67 : decode cX10_whyNot 67 = .ok (.iconst 1, 1) := by decide +kernel
theorem dX10_whyNot_68 : decode cX10_whyNot 68 = .ok (.ireturn, 1) := by decide +kernel
theorem dX10_whyNot_63 : decode cX10_whyNot 63 = .ok (.iconst 0, 1) := by decide +kernel
theorem dX10_whyNot_64 : decode cX10_whyNot 64 = .ok (.goto 4, 3) := by decide +kernel
theorem dX10_whyNot_38 : decode cX10_whyNot 38 = .ok (.aload_n 0, 1) := by decide +kernel
theorem dX10_whyNot_39 : decode cX10_whyNot 39 = .ok (.lload_n 1, 1) := by decide +kernel
theorem dX10_whyNot_40 : decode cX10_whyNot 40 = .ok (.ldc2_w 298, 3) := by decide +kernel
theorem dX10_whyNot_43 : decode cX10_whyNot 43 = .ok (.lsub, 1) := by decide +kernel
theorem dX10_whyNot_44 : decode cX10_whyNot 44 = .ok (.invokevirtual 289, 3) := by decide +kernel
theorem dX10_whyNot_47 : decode cX10_whyNot 47 = .ok (.goto 21, 3) := by decide +kernel
theorem dX10_whyNot_11 : decode cX10_whyNot 11 = .ok (.aload_n 0, 1) := by decide +kernel
theorem dX10_whyNot_12 : decode cX10_whyNot 12 = .ok (.lload_n 1, 1) := by decide +kernel
theorem dX10_whyNot_13 : decode cX10_whyNot 13 = .ok (.invokevirtual 266, 3) := by decide +kernel
theorem dX10_whyNot_16 : decode cX10_whyNot 16 = .ok (.ifCond .eq 7, 3) := by decide +kernel
theorem dX10_whyNot_23 : decode cX10_whyNot 23 = .ok (.iconst 1, 1) := by decide +kernel
theorem dX10_whyNot_24 : decode cX10_whyNot 24 = .ok (.ireturn, 1) := by decide +kernel
theorem dX10_whyNot_19 : decode cX10_whyNot 19 = .ok (.iconst 0, 1) := by decide +kernel
theorem dX10_whyNot_20 : decode cX10_whyNot 20 = .ok (.goto 4, 3) := by decide +kernel
set_option maxHeartbeats 4000000 in
set_option maxRecDepth 100000 in
theorem k_X10_whyNot_0 (l : Launch) (V : GV) (z : Nat → Nat) (k1 : Int64) (pz0_0 : Int32) (pz0_5 : Int32) (pz0_6 : Int32) (pz0_7 : Int32) (pz0_8 : Int32) (pz0_9 : Int32) (pz0_10 : Int32) (pz0_11 : Int32) (pz0_12 : Int32) (pz0_13 : Int32) (pz0_14 : Int32) (pz0_18 : Int32) (pz0_19 : Int32) (pz0_22 : Int32) (pz0_23 : Int32) (pz0_29 : Int32) (fz1 : Nat → Int32) (bpz0_5 : iv 0 900 pz0_5) (bpz0_6 : iv 0 900 pz0_6) (bpz0_7 : iv 0 900 pz0_7) (bpz0_8 : iv 0 900 pz0_8) (bpz0_10 : iv 0 999 pz0_10) (bpz0_11 : iv 0 4 pz0_11) (bpz0_12 : iv 0 900 pz0_12) (bpz0_13 : iv 0 4 pz0_13) (bpz0_14 : iv (-1) 900 pz0_14) (bpz0_18 : iv 0 2 pz0_18) (bpz0_22 : iv 0 9999 pz0_22) (bpz0_29 : iv 0 10000 pz0_29) (tfz1 : ivT tA fz1) : Ct l V yX10_whyNot (.code yX10_whyNot cX10_whyNot 3 (some .int)) 4 [.ref (z 0), .long k1] [(z 0, .inr (10, mo z pz0_0 pz0_5 pz0_6 pz0_7 pz0_8 pz0_9 pz0_10 pz0_11 pz0_12 pz0_13 pz0_14 pz0_18 pz0_19 pz0_22 pz0_23 pz0_29)), (z 1, aI V 3075 fz1)] 0 0 (QI V (fun (r : Int32) (w : va_W) => iv 0 2 r ∧ (r = 0 → WN fz1 (k1 : Int64).toInt) ∧ (r = 0 → ivL 0 29 k1) ∧ w = [(z 0, .inr (10, mo z pz0_0 pz0_5 pz0_6 pz0_7 pz0_8 pz0_9 pz0_10 pz0_11 pz0_12 pz0_13 pz0_14 pz0_18 pz0_19 pz0_22 pz0_23 pz0_29)), (z 1, aI V 3075 fz1)])) := by
  refine Ct.of (by decide) (Nat.le_of_ble_eq_true rfl) (fun p e s m below meth c A ls hx hb hr hml hown hlk hnm hg hP hK hD hE hA hS hl => ?_)
  have hl : lv_has ls 3 [(0, .ref (z 0)), (1, .long k1)] := hl
  refine lv_lload_n hx hb dX10_whyNot_0 rfl (lv_at hl 1 rfl) ?_
  refine lv_lconst (v := 0) hx hb dX10_whyNot_1 (by decide) ?_
  refine lv_ldc2 (v := 9) hx hb hown (hg _ q_7_97) dX10_whyNot_2 ?_
  refine jnI (wr := [(z 0, .inr (10, mo z pz0_0 pz0_5 pz0_6 pz0_7 pz0_8 pz0_9 pz0_10 pz0_11 pz0_12 pz0_13 pz0_14 pz0_18 pz0_19 pz0_22 pz0_23 pz0_29)), (z 1, aI V 3075 fz1)]) (rnS (rest := []) ⟨hx, hb, hml, hown, hg⟩ (k_X10_within_0 l V k1 0 9) mt_X10_within q_6_114 ⟨Nat.le_of_ble_eq_true rfl, Nat.le_of_ble_eq_true rfl⟩ hK hP hD hS hA hE [] rfl rfl rfl hl.1 rfl (Nat.le_of_ble_eq_true rfl) dX10_whyNot_5 ⟨Nat.le_of_ble_eq_true rfl, Nat.le_of_ble_eq_true rfl⟩) hP hD hS hA [] [0, 1] rfl rfl rfl (by decide) (fun r_1 w H locs hw hP hD hS => ?_)
  obtain ⟨br_1, g_2, g_3, g_4, rfl⟩ := hw
  have hP : va_P V.1 vwCl [(z 0, .inr (10, mo z pz0_0 pz0_5 pz0_6 pz0_7 pz0_8 pz0_9 pz0_10 pz0_11 pz0_12 pz0_13 pz0_14 pz0_18 pz0_19 pz0_22 pz0_23 pz0_29)), (z 1, aI V 3075 fz1)] H := hP
  have hD : va_D A [(z 0, .inr (10, mo z pz0_0 pz0_5 pz0_6 pz0_7 pz0_8 pz0_9 pz0_10 pz0_11 pz0_12 pz0_13 pz0_14 pz0_18 pz0_19 pz0_22 pz0_23 pz0_29)), (z 1, aI V 3075 fz1)] := hD
  refine lv_if_eq (tgt := 25) hx hb dX10_whyNot_8 (by decide) (fun c_5 => ?_) (fun c_5 => ?_)
  · have b_6 : iv 0 0 r_1 := iv_q c_5 (iv_c (0 : Int32) (a := 0) (b := 0) (by decide))
    refine lv_lload_n hx hb dX10_whyNot_25 rfl (lv_at hl 1 rfl) ?_
    refine lv_ldc2 (v := 10) hx hb hown (hg _ q_7_102) dX10_whyNot_26 ?_
    refine lv_ldc2 (v := 19) hx hb hown (hg _ q_7_120) dX10_whyNot_29 ?_
    refine jnI (wr := [(z 0, .inr (10, mo z pz0_0 pz0_5 pz0_6 pz0_7 pz0_8 pz0_9 pz0_10 pz0_11 pz0_12 pz0_13 pz0_14 pz0_18 pz0_19 pz0_22 pz0_23 pz0_29)), (z 1, aI V 3075 fz1)]) (rnS (rest := []) ⟨hx, hb, hml, hown, hg⟩ (k_X10_within_0 l V k1 10 19) mt_X10_within q_6_114 ⟨Nat.le_of_ble_eq_true rfl, Nat.le_of_ble_eq_true rfl⟩ hK hP hD hS hA hE [] rfl rfl rfl hl.1 rfl (Nat.le_of_ble_eq_true rfl) dX10_whyNot_32 ⟨Nat.le_of_ble_eq_true rfl, Nat.le_of_ble_eq_true rfl⟩) hP hD hS hA [] [0, 1] rfl rfl rfl (by decide) (fun r_7 w H locs hw hP hD hS => ?_)
    obtain ⟨br_7, g_8, g_9, g_10, rfl⟩ := hw
    have hP : va_P V.1 vwCl [(z 0, .inr (10, mo z pz0_0 pz0_5 pz0_6 pz0_7 pz0_8 pz0_9 pz0_10 pz0_11 pz0_12 pz0_13 pz0_14 pz0_18 pz0_19 pz0_22 pz0_23 pz0_29)), (z 1, aI V 3075 fz1)] H := hP
    have hD : va_D A [(z 0, .inr (10, mo z pz0_0 pz0_5 pz0_6 pz0_7 pz0_8 pz0_9 pz0_10 pz0_11 pz0_12 pz0_13 pz0_14 pz0_18 pz0_19 pz0_22 pz0_23 pz0_29)), (z 1, aI V 3075 fz1)] := hD
    refine lv_if_eq (tgt := 50) hx hb dX10_whyNot_35 (by decide) (fun c_11 => ?_) (fun c_11 => ?_)
    · have b_12 : iv 0 0 r_7 := iv_q c_11 (iv_c (0 : Int32) (a := 0) (b := 0) (by decide))
      refine lv_lload_n hx hb dX10_whyNot_50 rfl (lv_at hl 1 rfl) ?_
      refine lv_ldc2 (v := 20) hx hb hown (hg _ q_7_121) dX10_whyNot_51 ?_
      refine lv_ldc2 (v := 29) hx hb hown (hg _ q_7_122) dX10_whyNot_54 ?_
      refine jnI (wr := [(z 0, .inr (10, mo z pz0_0 pz0_5 pz0_6 pz0_7 pz0_8 pz0_9 pz0_10 pz0_11 pz0_12 pz0_13 pz0_14 pz0_18 pz0_19 pz0_22 pz0_23 pz0_29)), (z 1, aI V 3075 fz1)]) (rnS (rest := []) ⟨hx, hb, hml, hown, hg⟩ (k_X10_within_0 l V k1 20 29) mt_X10_within q_6_114 ⟨Nat.le_of_ble_eq_true rfl, Nat.le_of_ble_eq_true rfl⟩ hK hP hD hS hA hE [] rfl rfl rfl hl.1 rfl (Nat.le_of_ble_eq_true rfl) dX10_whyNot_57 ⟨Nat.le_of_ble_eq_true rfl, Nat.le_of_ble_eq_true rfl⟩) hP hD hS hA [] [0, 1] rfl rfl rfl (by decide) (fun r_13 w H locs hw hP hD hS => ?_)
      obtain ⟨br_13, g_14, g_15, g_16, rfl⟩ := hw
      have hP : va_P V.1 vwCl [(z 0, .inr (10, mo z pz0_0 pz0_5 pz0_6 pz0_7 pz0_8 pz0_9 pz0_10 pz0_11 pz0_12 pz0_13 pz0_14 pz0_18 pz0_19 pz0_22 pz0_23 pz0_29)), (z 1, aI V 3075 fz1)] H := hP
      have hD : va_D A [(z 0, .inr (10, mo z pz0_0 pz0_5 pz0_6 pz0_7 pz0_8 pz0_9 pz0_10 pz0_11 pz0_12 pz0_13 pz0_14 pz0_18 pz0_19 pz0_22 pz0_23 pz0_29)), (z 1, aI V 3075 fz1)] := hD
      refine lv_if_eq (tgt := 67) hx hb dX10_whyNot_60 (by decide) (fun c_17 => ?_) (fun c_17 => ?_)
      · have b_18 : iv 0 0 r_13 := iv_q c_17 (iv_c (0 : Int32) (a := 0) (b := 0) (by decide))
        refine lv_iconst (v := 1) hx hb dX10_whyNot_67 (by decide) ?_
        exact fiI hx hb hr hlk hK hP hD hS dX10_whyNot_68 (Nat.le_of_ble_eq_true rfl) (Nat.le_of_ble_eq_true rfl) (⟨(iv_c (1 : Int32) (by decide)), (fun q9 => absurd q9 (by decide)), (fun q9 => absurd q9 (by decide)), rfl⟩)
      · have b_19 : iv 1 1 r_13 := iv_n0 c_17 br_13 (iv_c (0 : Int32) (a := 0) (b := 0) (by decide)) (by decide)
        have c_20 : (20 : Int64) ≤ k1 := (g_15 (iv_eqp b_19 (iv_c (1 : Int32) (by decide))))
        have b_21 : ivL 20 9223372036854775807 k1 := ivL_e2 c_20 (ivL_c (20 : Int64) (a := 20) (b := 20) (by decide)) (ivL_top k1) (by decide)
        have c_22 : k1 ≤ 29 := (g_16 (iv_eqp b_19 (iv_c (1 : Int32) (by decide))))
        have b_23 : ivL 20 29 k1 := ivL_e1 c_22 b_21 (ivL_c (29 : Int64) (a := 29) (b := 29) (by decide)) (by decide)
        refine lv_iconst (v := 0) hx hb dX10_whyNot_63 (by decide) ?_
        refine lv_goto (tgt := 68) hx hb dX10_whyNot_64 (by decide) ?_
        exact fiI hx hb hr hlk hK hP hD hS dX10_whyNot_68 (Nat.le_of_ble_eq_true rfl) (Nat.le_of_ble_eq_true rfl) (⟨(iv_c (0 : Int32) (by decide)), (fun _ => Or.inr (Or.inr (by have q9 := b_23; unfold ivL at q9; omega))), (fun _ => (ivL_w b_23 (by decide))), rfl⟩)
    · have b_24 : iv 1 1 r_7 := iv_n0 c_11 br_7 (iv_c (0 : Int32) (a := 0) (b := 0) (by decide)) (by decide)
      have c_25 : (10 : Int64) ≤ k1 := (g_9 (iv_eqp b_24 (iv_c (1 : Int32) (by decide))))
      have b_26 : ivL 10 9223372036854775807 k1 := ivL_e2 c_25 (ivL_c (10 : Int64) (a := 10) (b := 10) (by decide)) (ivL_top k1) (by decide)
      have c_27 : k1 ≤ 19 := (g_10 (iv_eqp b_24 (iv_c (1 : Int32) (by decide))))
      have b_28 : ivL 10 19 k1 := ivL_e1 c_27 b_26 (ivL_c (19 : Int64) (a := 19) (b := 19) (by decide)) (by decide)
      refine lv_aload_n hx hb dX10_whyNot_38 rfl (lv_at hl 0 rfl) ?_
      refine lv_lload_n hx hb dX10_whyNot_39 rfl (lv_at hl 1 rfl) ?_
      refine lv_ldc2 (v := 10) hx hb hown (hg _ q_7_102) dX10_whyNot_40 ?_
      refine lv_lsub hx hb dX10_whyNot_43 ?_
      refine lv_topl (fun j_29 ej_29 => ?_)
      have bj_29 : ivL 0 9 j_29 := by rw [ej_29]; exact ivL_sub b_28 (ivL_c (10 : Int64) (a := 10) (b := 10) (by decide)) (by decide)
      refine jnI (wr := []) (rnV (rest := []) ⟨hx, hb, hml, hown, hg⟩ (k_X10_whySteal_0 l V z j_29 pz0_0 pz0_5 pz0_6 pz0_7 pz0_8 pz0_9 pz0_10 pz0_11 pz0_12 pz0_13 pz0_14 pz0_18 pz0_19 pz0_22 pz0_23 pz0_29 fz1 bpz0_5 bpz0_6 bpz0_7 bpz0_8 bpz0_10 bpz0_11 bpz0_12 bpz0_13 bpz0_14 bpz0_18 bpz0_22 bpz0_29 tfz1) mt_X10_whySteal q_7_85 ⟨Nat.le_of_ble_eq_true rfl, Nat.le_of_ble_eq_true rfl⟩ hK hP hD hS hA hE [0, 1] rfl rfl 0 rfl rfl rfl rfl hl.1 rfl (Nat.le_of_ble_eq_true rfl) dX10_whyNot_44 ⟨Nat.le_of_ble_eq_true rfl, Nat.le_of_ble_eq_true rfl⟩) hP hD hS hA [0, 1] [] rfl rfl rfl (by decide) (fun r_30 w H locs hw hP hD hS => ?_)
      obtain ⟨br_30, g_31, g_32, rfl⟩ := hw
      have hP : va_P V.1 vwCl [(z 0, .inr (10, mo z pz0_0 pz0_5 pz0_6 pz0_7 pz0_8 pz0_9 pz0_10 pz0_11 pz0_12 pz0_13 pz0_14 pz0_18 pz0_19 pz0_22 pz0_23 pz0_29)), (z 1, aI V 3075 fz1)] H := hP
      have hD : va_D A [(z 0, .inr (10, mo z pz0_0 pz0_5 pz0_6 pz0_7 pz0_8 pz0_9 pz0_10 pz0_11 pz0_12 pz0_13 pz0_14 pz0_18 pz0_19 pz0_22 pz0_23 pz0_29)), (z 1, aI V 3075 fz1)] := hD
      refine lv_goto (tgt := 68) hx hb dX10_whyNot_47 (by decide) ?_
      have c_33 : r_30 = 0 ∨ r_30 = 1 ∨ r_30 = 2 := by have q9 := br_30; unfold iv at q9; simp only [tI_eq, (by decide : (0 : Int32).toInt = 0), (by decide : (1 : Int32).toInt = 1), (by decide : (2 : Int32).toInt = 2)]; omega
      rcases c_33 with rfl | rfl | rfl
      · have b_34 : ivL 0 3 j_29 := ivL_cap (g_32 rfl) bj_29 (by decide)
        have b_35 : ivL 10 13 k1 := ivL_subb ej_29 b_34 b_28 (by decide)
        exact fiI hx hb hr hlk hK hP hD hS dX10_whyNot_68 (Nat.le_of_ble_eq_true rfl) (Nat.le_of_ble_eq_true rfl) (⟨(iv_c (0 : Int32) (by decide)), (fun _ => Or.inr (Or.inl ⟨(show 10 ≤ (k1 : Int64).toInt ∧ (k1 : Int64).toInt ≤ 13 from (by have q9 := b_35; unfold ivL at q9; omega)).1, (show 10 ≤ (k1 : Int64).toInt ∧ (k1 : Int64).toInt ≤ 13 from (by have q9 := b_35; unfold ivL at q9; omega)).2, by have q9 := lsub_toInt ej_29 b_35 (by decide); rw [← q9]; exact (g_31 rfl)⟩)), (fun _ => (ivL_w b_35 (by decide))), rfl⟩)
      · exact fiI hx hb hr hlk hK hP hD hS dX10_whyNot_68 (Nat.le_of_ble_eq_true rfl) (Nat.le_of_ble_eq_true rfl) (⟨(iv_c (1 : Int32) (by decide)), (fun q9 => absurd q9 (by decide)), (fun q9 => absurd q9 (by decide)), rfl⟩)
      · exact fiI hx hb hr hlk hK hP hD hS dX10_whyNot_68 (Nat.le_of_ble_eq_true rfl) (Nat.le_of_ble_eq_true rfl) (⟨(iv_c (2 : Int32) (by decide)), (fun q9 => absurd q9 (by decide)), (fun q9 => absurd q9 (by decide)), rfl⟩)
  · have b_36 : iv 1 1 r_1 := iv_n0 c_5 br_1 (iv_c (0 : Int32) (a := 0) (b := 0) (by decide)) (by decide)
    have c_37 : (0 : Int64) ≤ k1 := (g_3 (iv_eqp b_36 (iv_c (1 : Int32) (by decide))))
    have b_38 : ivL 0 9223372036854775807 k1 := ivL_e2 c_37 (ivL_c (0 : Int64) (a := 0) (b := 0) (by decide)) (ivL_top k1) (by decide)
    have c_39 : k1 ≤ 9 := (g_4 (iv_eqp b_36 (iv_c (1 : Int32) (by decide))))
    have b_40 : ivL 0 9 k1 := ivL_e1 c_39 b_38 (ivL_c (9 : Int64) (a := 9) (b := 9) (by decide)) (by decide)
    refine lv_aload_n hx hb dX10_whyNot_11 rfl (lv_at hl 0 rfl) ?_
    refine lv_lload_n hx hb dX10_whyNot_12 rfl (lv_at hl 1 rfl) ?_
    refine jnI (wr := []) (rnV (rest := []) ⟨hx, hb, hml, hown, hg⟩ (k_X10_isNight_0 l V z k1 pz0_0 pz0_5 pz0_6 pz0_7 pz0_8 pz0_9 pz0_10 pz0_11 pz0_12 pz0_13 pz0_14 pz0_18 pz0_19 pz0_22 pz0_23 pz0_29 fz1 bpz0_5 bpz0_6 bpz0_7 bpz0_8 bpz0_10 bpz0_11 bpz0_12 bpz0_13 bpz0_14 bpz0_18 bpz0_22 bpz0_29 tfz1) mt_X10_isNight q_7_7 ⟨Nat.le_of_ble_eq_true rfl, Nat.le_of_ble_eq_true rfl⟩ hK hP hD hS hA hE [0, 1] rfl rfl 0 rfl rfl rfl rfl hl.1 rfl (Nat.le_of_ble_eq_true rfl) dX10_whyNot_13 ⟨Nat.le_of_ble_eq_true rfl, Nat.le_of_ble_eq_true rfl⟩) hP hD hS hA [0, 1] [] rfl rfl rfl (by decide) (fun r_41 w H locs hw hP hD hS => ?_)
    obtain ⟨br_41, g_42, rfl⟩ := hw
    have hP : va_P V.1 vwCl [(z 0, .inr (10, mo z pz0_0 pz0_5 pz0_6 pz0_7 pz0_8 pz0_9 pz0_10 pz0_11 pz0_12 pz0_13 pz0_14 pz0_18 pz0_19 pz0_22 pz0_23 pz0_29)), (z 1, aI V 3075 fz1)] H := hP
    have hD : va_D A [(z 0, .inr (10, mo z pz0_0 pz0_5 pz0_6 pz0_7 pz0_8 pz0_9 pz0_10 pz0_11 pz0_12 pz0_13 pz0_14 pz0_18 pz0_19 pz0_22 pz0_23 pz0_29)), (z 1, aI V 3075 fz1)] := hD
    refine lv_if_eq (tgt := 23) hx hb dX10_whyNot_16 (by decide) (fun c_43 => ?_) (fun c_43 => ?_)
    · have b_44 : iv 0 0 r_41 := iv_q c_43 (iv_c (0 : Int32) (a := 0) (b := 0) (by decide))
      refine lv_iconst (v := 1) hx hb dX10_whyNot_23 (by decide) ?_
      exact fiI hx hb hr hlk hK hP hD hS dX10_whyNot_24 (Nat.le_of_ble_eq_true rfl) (Nat.le_of_ble_eq_true rfl) (⟨(iv_c (1 : Int32) (by decide)), (fun q9 => absurd q9 (by decide)), (fun q9 => absurd q9 (by decide)), rfl⟩)
    · have b_45 : iv 1 1 r_41 := iv_n0 c_43 br_41 (iv_c (0 : Int32) (a := 0) (b := 0) (by decide)) (by decide)
      have b_46 : ivL 0 3 k1 := ivL_cap (g_42 (iv_eqp b_45 (iv_c (1 : Int32) (by decide)))) b_40 (by decide)
      refine lv_iconst (v := 0) hx hb dX10_whyNot_19 (by decide) ?_
      refine lv_goto (tgt := 24) hx hb dX10_whyNot_20 (by decide) ?_
      exact fiI hx hb hr hlk hK hP hD hS dX10_whyNot_24 (Nat.le_of_ble_eq_true rfl) (Nat.le_of_ble_eq_true rfl) (⟨(iv_c (0 : Int32) (by decide)), (fun _ => Or.inl (by have q9 := b_46; unfold ivL at q9; omega)), (fun _ => (ivL_w b_46 (by decide))), rfl⟩)
theorem dX10_does_0 : decode cX10_does 0 = .ok (.iload_n 1, 1) := by decide +kernel
theorem dX10_does_1 : decode cX10_does 1 = .ok (.bipush 10, 2) := by decide +kernel
theorem dX10_does_3 : decode cX10_does 3 = .ok (.if_icmp .ge 11, 3) := by decide +kernel
theorem dX10_does_14 : decode cX10_does 14 = .ok (.iload_n 1, 1) := by decide +kernel
theorem dX10_does_15 : decode cX10_does 15 = .ok (.bipush 20, 2) := by decide +kernel
theorem dX10_does_17 : decode cX10_does 17 = .ok (.if_icmp .ge 14, 3) := by decide +kernel
theorem dX10_does_31 : decode cX10_does 31 = .ok (.aload_n 0, 1) := by decide +kernel
theorem dX10_does_32 : decode cX10_does 32 = .ok (.getfield 13, 3) := by decide +kernel
theorem dX10_does_35 : decode cX10_does 35 = .ok (.bipush 51, 2) := by decide +kernel
theorem dX10_does_37 : decode cX10_does 37 = .ok (.iload_n 1, 1) := by decide +kernel
theorem dX10_does_38 : decode cX10_does 38 = .ok (.bipush 20, 2) := by decide +kernel
theorem dX10_does_40 : decode cX10_does 40 = .ok (.isub, 1) := by decide +kernel
theorem dX10_does_41 : decode cX10_does 41 = .ok (.iastore, 1) := by decide +kernel
theorem dX10_does_42 : decode cX10_does 42 = .ok (.return_, 1) := by decide +kernel
theorem dX10_does_20 : decode cX10_does 20 = .ok (.aload_n 0, 1) := by decide +kernel
theorem dX10_does_21 : decode cX10_does 21 = .ok (.iload_n 1, 1) := by decide +kernel
theorem dX10_does_22 : decode cX10_does 22 = .ok (.bipush 10, 2) := by decide +kernel
theorem dX10_does_24 : decode cX10_does 24 = .ok (.isub, 1) := by decide +kernel
theorem dX10_does_25 : decode cX10_does 25 = .ok (.invokevirtual 293, 3) := by decide +kernel
theorem dX10_does_28 : decode cX10_does 28 = .ok (.goto 14, 3) := by decide +kernel
theorem dX10_does_6 : decode cX10_does 6 = .ok (.aload_n 0, 1) := by decide +kernel
theorem dX10_does_7 : decode cX10_does 7 = .ok (.iload_n 1, 1) := by decide +kernel
theorem dX10_does_8 : decode cX10_does 8 = .ok (.invokevirtual 281, 3) := by decide +kernel
theorem dX10_does_11 : decode cX10_does 11 = .ok (.goto 31, 3) := by decide +kernel
set_option maxHeartbeats 4000000 in
set_option maxRecDepth 100000 in
theorem k_X10_does_0 (l : Launch) (V : GV) (z : Nat → Nat) (a1 : Int32) (fz15 : Nat → Int32) (fz16 : Nat → Int32) (pz0_0 : Int32) (pz0_5 : Int32) (pz0_6 : Int32) (pz0_7 : Int32) (pz0_8 : Int32) (pz0_9 : Int32) (pz0_10 : Int32) (pz0_11 : Int32) (pz0_12 : Int32) (pz0_13 : Int32) (pz0_14 : Int32) (pz0_18 : Int32) (pz0_19 : Int32) (pz0_22 : Int32) (pz0_23 : Int32) (pz0_29 : Int32) (fz1 : Nat → Int32) (ba1 : iv 0 29 a1) (tfz16 : ivT tW fz16) (bpz0_5 : iv 0 900 pz0_5) (bpz0_6 : iv 0 900 pz0_6) (bpz0_7 : iv 0 900 pz0_7) (bpz0_8 : iv 0 900 pz0_8) (bpz0_10 : iv 0 999 pz0_10) (bpz0_11 : iv 0 4 pz0_11) (bpz0_12 : iv 0 900 pz0_12) (bpz0_13 : iv 0 4 pz0_13) (bpz0_14 : iv (-1) 900 pz0_14) (bpz0_18 : iv 0 2 pz0_18) (bpz0_22 : iv 0 9999 pz0_22) (bpz0_29 : iv 0 10000 pz0_29) (tfz1 : ivT tA fz1) (hf0 : RW fz1) (hf1 : WN fz1 (a1 : Int32).toInt) : Ct l V yX10_does (.code yX10_does cX10_does 2 none) 6 [.ref (z 0), .int a1] [(z 15, aI V 900 fz15), (z 16, aI V 6 fz16), (z 0, .inr (10, mo z pz0_0 pz0_5 pz0_6 pz0_7 pz0_8 pz0_9 pz0_10 pz0_11 pz0_12 pz0_13 pz0_14 pz0_18 pz0_19 pz0_22 pz0_23 pz0_29)), (z 1, aI V 3075 fz1)] 0 0 (QV V (fun (w : va_W) => ∃ (g0 : Nat → Int32) (g1 : Nat → Int32) (g2 : Nat → Int32), (ivT tW g1) ∧ (ivT tA g2) ∧ (RW g2) ∧ w = [(z 15, aI V 900 g0), (z 16, aI V 6 g1), (z 0, .inr (10, mo z pz0_0 pz0_5 pz0_6 pz0_7 pz0_8 pz0_9 pz0_10 pz0_11 pz0_12 pz0_13 pz0_14 pz0_18 pz0_19 pz0_22 pz0_23 pz0_29)), (z 1, aI V 3075 g2)])) := by
  refine Ct.of (by decide) (Nat.le_of_ble_eq_true rfl) (fun p e s m below meth c A ls hx hb hr hml hown hlk hnm hg hP hK hD hE hA hS hl => ?_)
  have hl : lv_has ls 2 [(0, .ref (z 0)), (1, .int a1)] := hl
  refine lv_iload_n hx hb dX10_does_0 rfl (lv_at hl 1 rfl) ?_
  refine lv_bipush (v := 10) hx hb dX10_does_1 (by decide) ?_
  refine lv_icmp_ge (tgt := 14) hx hb dX10_does_3 (by decide) (fun c_1 => ?_) (fun c_1 => ?_)
  · have b_2 : iv 10 29 a1 := iv_e2 c_1 (iv_c (10 : Int32) (a := 10) (b := 10) (by decide)) ba1 (by decide)
    refine lv_iload_n hx hb dX10_does_14 rfl (lv_at hl 1 rfl) ?_
    refine lv_bipush (v := 20) hx hb dX10_does_15 (by decide) ?_
    refine lv_icmp_ge (tgt := 31) hx hb dX10_does_17 (by decide) (fun c_3 => ?_) (fun c_3 => ?_)
    · have b_4 : iv 20 29 a1 := iv_e2 c_3 (iv_c (20 : Int32) (a := 20) (b := 20) (by decide)) b_2 (by decide)
      refine lv_aload_n hx hb dX10_does_31 rfl (lv_at hl 0 rfl) ?_
      refine va_get (ci := 10) (v := .ref (z 1)) (C := RX10) (T := TX10) (N := 40) hx hb hg inX10 hown hK hP 2 rfl rfl 1 (by decide) (hg _ q_5_225) (fun _ h9 => h9) rfl dX10_does_32 ?_
      refine lv_bipush (v := 51) hx hb dX10_does_35 (by decide) ?_
      refine lv_iload_n hx hb dX10_does_37 rfl (lv_at hl 1 rfl) ?_
      refine lv_bipush (v := 20) hx hb dX10_does_38 (by decide) ?_
      refine lv_isub hx hb dX10_does_40 ?_
      refine lv_topi (fun x_5 ex_5 => ?_)
      have bx_5 : iv 0 9 x_5 := by rw [ex_5]; exact iv_subl c_3 b_4 (iv_c (20 : Int32) (a := 20) (b := 20) (by decide)) (by decide)
      refine va_iast hx hb hK hP hD hS 3 0 rfl rfl (vin (by decide +kernel)) dX10_does_41 (fun H locs hP hD hS => ?_)
      obtain ⟨f_6, ef_6, tf_6, hP, hD⟩ : ∃ f_6 : Nat → Int32, f_6 = (upd fz1 (51 : Int32).toNatClampNeg x_5) ∧ (ivT tA f_6) ∧ va_P V.1 vwCl [(z 15, aI V 900 fz15), (z 16, aI V 6 fz16), (z 0, .inr (10, mo z pz0_0 pz0_5 pz0_6 pz0_7 pz0_8 pz0_9 pz0_10 pz0_11 pz0_12 pz0_13 pz0_14 pz0_18 pz0_19 pz0_22 pz0_23 pz0_29)), (z 1, aI V 3075 f_6)] H ∧ va_D A [(z 15, aI V 900 fz15), (z 16, aI V 6 fz16), (z 0, .inr (10, mo z pz0_0 pz0_5 pz0_6 pz0_7 pz0_8 pz0_9 pz0_10 pz0_11 pz0_12 pz0_13 pz0_14 pz0_18 pz0_19 pz0_22 pz0_23 pz0_29)), (z 1, aI V 3075 f_6)] := ⟨_, rfl, upT (lo := 0) (hi := 9) (a := 51) (n := 1) tfz1 (iv_c (51 : Int32) (a := 51) (b := 51) (by decide)) (by decide) bx_5 (by decide +kernel), hP, hD⟩
      exact fiV hx hb hr hlk hK hP hD hS dX10_does_42 (Nat.le_of_ble_eq_true rfl) (Nat.le_of_ble_eq_true rfl) (⟨fz15, fz16, f_6, tfz16, tf_6, (RW_up hf0 (iv_c (51 : Int32) (a := 51) (b := 51) (by decide)) (by decide) ef_6), rfl⟩)
    · have b_7 : iv 10 19 a1 := iv_l1 (Int32.not_le.mp c_3) b_2 (iv_c (20 : Int32) (a := 20) (b := 20) (by decide)) (by decide)
      refine lv_aload_n hx hb dX10_does_20 rfl (lv_at hl 0 rfl) ?_
      refine lv_iload_n hx hb dX10_does_21 rfl (lv_at hl 1 rfl) ?_
      refine lv_bipush (v := 10) hx hb dX10_does_22 (by decide) ?_
      refine lv_isub hx hb dX10_does_24 ?_
      refine lv_topi (fun x_8 ex_8 => ?_)
      have bx_8 : iv 0 9 x_8 := by rw [ex_8]; exact iv_subl c_1 b_7 (iv_c (10 : Int32) (a := 10) (b := 10) (by decide)) (by decide)
      have qs_x_8 := isub_toInt ex_8 (c := 10) (n := 10) (by decide) b_7 (by decide)
      have b_9 : iv 0 3 x_8 := by have q9 := hf1; have q8 := b_7; unfold WN at q9; unfold iv at *; omega
      refine jnV (wr := [(z 15, aI V 900 fz15), (z 16, aI V 6 fz16)]) (rnV (rest := []) ⟨hx, hb, hml, hown, hg⟩ (k_X10_steals_0 l V z x_8 pz0_0 pz0_5 pz0_6 pz0_7 pz0_8 pz0_9 pz0_10 pz0_11 pz0_12 pz0_13 pz0_14 pz0_18 pz0_19 pz0_22 pz0_23 pz0_29 fz1 b_9 bpz0_5 bpz0_6 bpz0_7 bpz0_8 bpz0_10 bpz0_11 bpz0_12 bpz0_13 bpz0_14 bpz0_18 bpz0_22 bpz0_29 tfz1 hf0 (by have q9 := hf1; have q8 := b_7; unfold WN at q9; rw [qs_x_8]; unfold iv at q8; rcases q9 with q9 | q9 | q9; omega; exact q9.2.2; omega)) mt_X10_steals q_7_89 ⟨Nat.le_of_ble_eq_true rfl, Nat.le_of_ble_eq_true rfl⟩ hK hP hD hS hA hE [2, 3] rfl rfl 2 rfl rfl rfl rfl hl.1 rfl (Nat.le_of_ble_eq_true rfl) dX10_does_25 ⟨Nat.le_of_ble_eq_true rfl, Nat.le_of_ble_eq_true rfl⟩) hP hD hS hA [2, 3] [0, 1] rfl rfl rfl (by decide) (fun  w H locs hw hP hD hS => ?_)
      obtain ⟨f_10, tf_10, g_11, rfl⟩ := hw
      have hP : va_P V.1 vwCl [(z 15, aI V 900 fz15), (z 16, aI V 6 fz16), (z 0, .inr (10, mo z pz0_0 pz0_5 pz0_6 pz0_7 pz0_8 pz0_9 pz0_10 pz0_11 pz0_12 pz0_13 pz0_14 pz0_18 pz0_19 pz0_22 pz0_23 pz0_29)), (z 1, aI V 3075 f_10)] H := hP
      have hD : va_D A [(z 15, aI V 900 fz15), (z 16, aI V 6 fz16), (z 0, .inr (10, mo z pz0_0 pz0_5 pz0_6 pz0_7 pz0_8 pz0_9 pz0_10 pz0_11 pz0_12 pz0_13 pz0_14 pz0_18 pz0_19 pz0_22 pz0_23 pz0_29)), (z 1, aI V 3075 f_10)] := hD
      refine lv_goto (tgt := 42) hx hb dX10_does_28 (by decide) ?_
      exact fiV hx hb hr hlk hK hP hD hS dX10_does_42 (Nat.le_of_ble_eq_true rfl) (Nat.le_of_ble_eq_true rfl) (⟨fz15, fz16, f_10, tfz16, tf_10, g_11, rfl⟩)
  · have b_12 : iv 0 9 a1 := iv_l1 (Int32.not_le.mp c_1) ba1 (iv_c (10 : Int32) (a := 10) (b := 10) (by decide)) (by decide)
    have b_13 : iv 0 3 a1 := by have q9 := hf1; have q8 := b_12; unfold WN at q9; unfold iv at *; omega
    refine lv_aload_n hx hb dX10_does_6 rfl (lv_at hl 0 rfl) ?_
    refine lv_iload_n hx hb dX10_does_7 rfl (lv_at hl 1 rfl) ?_
    refine jnV (wr := []) (rnV (rest := []) ⟨hx, hb, hml, hown, hg⟩ (k_X10_goesNight_0 l V z a1 fz15 fz16 pz0_0 pz0_5 pz0_6 pz0_7 pz0_8 pz0_9 pz0_10 pz0_11 pz0_12 pz0_13 pz0_14 pz0_18 pz0_19 pz0_22 pz0_23 pz0_29 fz1 b_13 tfz16 bpz0_5 bpz0_6 bpz0_7 bpz0_8 bpz0_10 bpz0_11 bpz0_12 bpz0_13 bpz0_14 bpz0_18 bpz0_22 bpz0_29 tfz1 hf0) mt_X10_goesNight q_7_64 ⟨Nat.le_of_ble_eq_true rfl, Nat.le_of_ble_eq_true rfl⟩ hK hP hD hS hA hE [0, 1, 2, 3] rfl rfl 2 rfl rfl rfl rfl hl.1 rfl (Nat.le_of_ble_eq_true rfl) dX10_does_8 ⟨Nat.le_of_ble_eq_true rfl, Nat.le_of_ble_eq_true rfl⟩) hP hD hS hA [0, 1, 2, 3] [] rfl rfl rfl (by decide) (fun  w H locs hw hP hD hS => ?_)
    obtain ⟨f_14, f_15, f_16, tf_15, tf_16, g_17, rfl⟩ := hw
    have hP : va_P V.1 vwCl [(z 15, aI V 900 f_14), (z 16, aI V 6 f_15), (z 0, .inr (10, mo z pz0_0 pz0_5 pz0_6 pz0_7 pz0_8 pz0_9 pz0_10 pz0_11 pz0_12 pz0_13 pz0_14 pz0_18 pz0_19 pz0_22 pz0_23 pz0_29)), (z 1, aI V 3075 f_16)] H := hP
    have hD : va_D A [(z 15, aI V 900 f_14), (z 16, aI V 6 f_15), (z 0, .inr (10, mo z pz0_0 pz0_5 pz0_6 pz0_7 pz0_8 pz0_9 pz0_10 pz0_11 pz0_12 pz0_13 pz0_14 pz0_18 pz0_19 pz0_22 pz0_23 pz0_29)), (z 1, aI V 3075 f_16)] := hD
    refine lv_goto (tgt := 42) hx hb dX10_does_11 (by decide) ?_
    exact fiV hx hb hr hlk hK hP hD hS dX10_does_42 (Nat.le_of_ble_eq_true rfl) (Nat.le_of_ble_eq_true rfl) (⟨f_14, f_15, f_16, tf_15, tf_16, g_17, rfl⟩)
theorem dX10_tells_0 : decode cX10_tells 0 = .ok (.aload_n 0, 1) := by decide +kernel
theorem dX10_tells_1 : decode cX10_tells 1 = .ok (.iconst 0, 1) := by decide +kernel
theorem q_6_2 : Cond.fieldLink "BeaconDelayModel" 306 "BeaconDelayModel" "toldWhy" "I" ∈ gw := gw_6 (i := 2) (by decide +kernel) rfl
theorem dX10_tells_2 : decode cX10_tells 2 = .ok (.putfield 306, 3) := by decide +kernel
theorem dX10_tells_5 : decode cX10_tells 5 = .ok (.iconst 0, 1) := by decide +kernel
theorem dX10_tells_6 : decode cX10_tells 6 = .ok (.istore_n 2, 1) := by decide +kernel
theorem dX10_tells_7 : decode cX10_tells 7 = .ok (.iload_n 2, 1) := by decide +kernel
theorem dX10_tells_8 : decode cX10_tells 8 = .ok (.aload_n 0, 1) := by decide +kernel
theorem q_6_22 : Cond.fieldLink "BeaconDelayModel" 87 "BeaconDelayModel" "rowMany" "[I" ∈ gw := gw_6 (i := 22) (by decide +kernel) rfl
theorem dX10_tells_9 : decode cX10_tells 9 = .ok (.getfield 87, 3) := by decide +kernel
theorem dX10_tells_12 : decode cX10_tells 12 = .ok (.iload_n 1, 1) := by decide +kernel
theorem dX10_tells_13 : decode cX10_tells 13 = .ok (.iaload, 1) := by decide +kernel
theorem dX10_tells_14 : decode cX10_tells 14 = .ok (.if_icmp .ge 53, 3) := by decide +kernel
theorem dX10_tells_67 : decode cX10_tells 67 = .ok (.aload_n 0, 1) := by decide +kernel
theorem dX10_tells_68 : decode cX10_tells 68 = .ok (.getfield 87, 3) := by decide +kernel
theorem dX10_tells_71 : decode cX10_tells 71 = .ok (.iload_n 1, 1) := by decide +kernel
theorem dX10_tells_72 : decode cX10_tells 72 = .ok (.iaload, 1) := by decide +kernel
theorem dX10_tells_73 : decode cX10_tells 73 = .ok (.ireturn, 1) := by decide +kernel
theorem dX10_tells_17 : decode cX10_tells 17 = .ok (.aload_n 0, 1) := by decide +kernel
theorem dX10_tells_18 : decode cX10_tells 18 = .ok (.aload_n 0, 1) := by decide +kernel
theorem dX10_tells_19 : decode cX10_tells 19 = .ok (.aload_n 0, 1) := by decide +kernel
theorem q_6_23 : Cond.fieldLink "BeaconDelayModel" 90 "BeaconDelayModel" "numbers" "[J" ∈ gw := gw_6 (i := 23) (by decide +kernel) rfl
theorem dX10_tells_20 : decode cX10_tells 20 = .ok (.getfield 90, 3) := by decide +kernel
theorem dX10_tells_23 : decode cX10_tells 23 = .ok (.bipush 40, 2) := by decide +kernel
theorem dX10_tells_25 : decode cX10_tells 25 = .ok (.iload_n 1, 1) := by decide +kernel
theorem dX10_tells_26 : decode cX10_tells 26 = .ok (.imul, 1) := by decide +kernel
theorem dX10_tells_27 : decode cX10_tells 27 = .ok (.iload_n 2, 1) := by decide +kernel
theorem dX10_tells_28 : decode cX10_tells 28 = .ok (.iadd, 1) := by decide +kernel
theorem dX10_tells_29 : decode cX10_tells 29 = .ok (.laload, 1) := by decide +kernel
theorem q_7_119 : Cond.code yX10_whyNot prog_12_method_67_code 3 (some FieldType.int) ∈ gw := gw_7 (i := 119) (rfl) rfl
theorem q_7_118 : Cond.instanceMethod yX10_whyNot ∈ gw := gw_7 (i := 118) (by decide +kernel) rfl
theorem q_s_95 : Cond.selects "BeaconDelayModel" yX10_whyNot yX10_whyNot ∈ gw := gw_s (i := 95) (by decide +kernel) rfl
theorem mt_X10_whyNot : MtV yX10_whyNot cX10_whyNot 3 (some .int) 1 := ⟨⟨q_7_119, q_1_9, by decide +kernel, by decide +kernel, by decide +kernel⟩, q_7_118, q_s_95⟩
theorem q_7_116 : Cond.methodLink "BeaconDelayModel" 309 yX10_whyNot ∈ gw := gw_7 (i := 116) (by decide +kernel) rfl
theorem dX10_tells_30 : decode cX10_tells 30 = .ok (.invokevirtual 309, 3) := by decide +kernel
theorem dX10_tells_33 : decode cX10_tells 33 = .ok (.putfield 306, 3) := by decide +kernel
theorem dX10_tells_36 : decode cX10_tells 36 = .ok (.aload_n 0, 1) := by decide +kernel
theorem dX10_tells_37 : decode cX10_tells 37 = .ok (.getfield 306, 3) := by decide +kernel
theorem dX10_tells_40 : decode cX10_tells 40 = .ok (.ifCond .eq 5, 3) := by decide +kernel
theorem dX10_tells_45 : decode cX10_tells 45 = .ok (.aload_n 0, 1) := by decide +kernel
theorem dX10_tells_46 : decode cX10_tells 46 = .ok (.aload_n 0, 1) := by decide +kernel
theorem dX10_tells_47 : decode cX10_tells 47 = .ok (.getfield 90, 3) := by decide +kernel
theorem dX10_tells_50 : decode cX10_tells 50 = .ok (.bipush 40, 2) := by decide +kernel
theorem dX10_tells_52 : decode cX10_tells 52 = .ok (.iload_n 1, 1) := by decide +kernel
theorem dX10_tells_53 : decode cX10_tells 53 = .ok (.imul, 1) := by decide +kernel
theorem dX10_tells_54 : decode cX10_tells 54 = .ok (.iload_n 2, 1) := by decide +kernel
theorem dX10_tells_55 : decode cX10_tells 55 = .ok (.iadd, 1) := by decide +kernel
theorem dX10_tells_56 : decode cX10_tells 56 = .ok (.laload, 1) := by decide +kernel
theorem dX10_tells_57 : decode cX10_tells 57 = .ok (.l2i, 1) := by decide +kernel
theorem q_7_126 : Cond.code yX10_does prog_12_method_68_code 2 none ∈ gw := gw_7 (i := 126) (rfl) rfl
theorem q_7_125 : Cond.instanceMethod yX10_does ∈ gw := gw_7 (i := 125) (by decide +kernel) rfl
theorem q_s_96 : Cond.selects "BeaconDelayModel" yX10_does yX10_does ∈ gw := gw_s (i := 96) (by decide +kernel) rfl
theorem mt_X10_does : MtV yX10_does cX10_does 2 none 1 := ⟨⟨q_7_126, q_1_9, by decide +kernel, by decide +kernel, by decide +kernel⟩, q_7_125, q_s_96⟩
theorem q_7_123 : Cond.methodLink "BeaconDelayModel" 312 yX10_does ∈ gw := gw_7 (i := 123) (by decide +kernel) rfl
theorem dX10_tells_58 : decode cX10_tells 58 = .ok (.invokevirtual 312, 3) := by decide +kernel
theorem dX10_tells_61 : decode cX10_tells 61 = .ok (.iinc 2 1, 3) := by decide +kernel
theorem dX10_tells_64 : decode cX10_tells 64 = .ok (.goto (-57), 3) := by decide +kernel
theorem dX10_tells_43 : decode cX10_tells 43 = .ok (.iload_n 2, 1) := by decide +kernel
theorem dX10_tells_44 : decode cX10_tells 44 = .ok (.ireturn, 1) := by decide +kernel
set_option maxHeartbeats 4000000 in
set_option maxRecDepth 100000 in
theorem k_X10_tells_0 (l : Launch) (V : GV) (z : Nat → Nat) (a1 : Int32) (fz15 : Nat → Int32) (fz16 : Nat → Int32) (fz38 : Nat → Int32) (fz39 : Nat → Int64) (pz0_0 : Int32) (pz0_5 : Int32) (pz0_6 : Int32) (pz0_7 : Int32) (pz0_8 : Int32) (pz0_9 : Int32) (pz0_10 : Int32) (pz0_11 : Int32) (pz0_12 : Int32) (pz0_13 : Int32) (pz0_14 : Int32) (pz0_18 : Int32) (pz0_19 : Int32) (pz0_22 : Int32) (pz0_23 : Int32) (pz0_29 : Int32) (fz1 : Nat → Int32) (ba1 : iv 0 3 a1) (tfz16 : ivT tW fz16) (tfz38 : ∀ j, iv 0 40 (fz38 j)) (bpz0_5 : iv 0 900 pz0_5) (bpz0_6 : iv 0 900 pz0_6) (bpz0_7 : iv 0 900 pz0_7) (bpz0_8 : iv 0 900 pz0_8) (bpz0_10 : iv 0 999 pz0_10) (bpz0_11 : iv 0 4 pz0_11) (bpz0_12 : iv 0 900 pz0_12) (bpz0_13 : iv 0 4 pz0_13) (bpz0_14 : iv (-1) 900 pz0_14) (bpz0_18 : iv 0 2 pz0_18) (bpz0_22 : iv 0 9999 pz0_22) (bpz0_29 : iv 0 10000 pz0_29) (tfz1 : ivT tA fz1) (hf0 : RW fz1) : Ct l V yX10_tells (.code yX10_tells cX10_tells 3 (some .int)) 7 [.ref (z 0), .int a1] [(z 15, aI V 900 fz15), (z 16, aI V 6 fz16), (z 38, aI V 4 fz38), (z 39, aJ V 160 fz39), (z 0, .inr (10, mo z pz0_0 pz0_5 pz0_6 pz0_7 pz0_8 pz0_9 pz0_10 pz0_11 pz0_12 pz0_13 pz0_14 pz0_18 pz0_19 pz0_22 pz0_23 pz0_29)), (z 1, aI V 3075 fz1)] 0 0 (QI V (fun (r : Int32) (w : va_W) => ∃ (g0 : Nat → Int32) (g1 : Nat → Int32) (v2 : Int32) (g3 : Nat → Int32), (ivT tW g1) ∧ iv 0 2 v2 ∧ (ivT tA g3) ∧ iv 0 40 r ∧ (RW g3) ∧ w = [(z 15, aI V 900 g0), (z 16, aI V 6 g1), (z 38, aI V 4 fz38), (z 39, aJ V 160 fz39), (z 0, .inr (10, mo z pz0_0 pz0_5 pz0_6 pz0_7 pz0_8 pz0_9 pz0_10 pz0_11 pz0_12 pz0_13 pz0_14 v2 pz0_19 pz0_22 pz0_23 pz0_29)), (z 1, aI V 3075 g3)])) := by
  refine Ct.of (by decide) (Nat.le_of_ble_eq_true rfl) (fun p e s m below meth c A ls hx hb hr hml hown hlk hnm hg hP hK hD hE hA hS hl => ?_)
  have hl : lv_has ls 3 [(0, .ref (z 0)), (1, .int a1)] := hl
  refine lv_aload_n hx hb dX10_tells_0 rfl (lv_at hl 0 rfl) ?_
  refine lv_iconst (v := 0) hx hb dX10_tells_1 (by decide) ?_
  refine va_put (ci := 10) (v := .int 0) (ty := .int) (C := RX10) (T := TX10) (N := 40) hx hb hg inX10 tyX10 tyX10_ok nmX10 hown hK hP hD hS 4 rfl rfl 18 (by decide) (hg _ q_6_2) (fun _ h9 => h9) rfl (by decide +kernel) rfl rfl (Nat.le_of_ble_eq_true rfl) dX10_tells_2 (fun H locs hP hD hS => ?_)
  have hP : va_P V.1 vwCl [(z 15, aI V 900 fz15), (z 16, aI V 6 fz16), (z 38, aI V 4 fz38), (z 39, aJ V 160 fz39), (z 0, .inr (10, mo z pz0_0 pz0_5 pz0_6 pz0_7 pz0_8 pz0_9 pz0_10 pz0_11 pz0_12 pz0_13 pz0_14 0 pz0_19 pz0_22 pz0_23 pz0_29)), (z 1, aI V 3075 fz1)] H := hP
  have hD : va_D A [(z 15, aI V 900 fz15), (z 16, aI V 6 fz16), (z 38, aI V 4 fz38), (z 39, aJ V 160 fz39), (z 0, .inr (10, mo z pz0_0 pz0_5 pz0_6 pz0_7 pz0_8 pz0_9 pz0_10 pz0_11 pz0_12 pz0_13 pz0_14 0 pz0_19 pz0_22 pz0_23 pz0_29)), (z 1, aI V 3075 fz1)] := hD
  refine lv_iconst (v := 0) hx hb dX10_tells_5 (by decide) ?_
  refine lv_istore_n (lv' := [(2, .int 0), (0, .ref (z 0)), (1, .int a1)]) hx hb dX10_tells_6 rfl hl (by decide) rfl (fun ls hl => ?_)
  refine loopF (X := fun (n_6 : Nat) (H : Heap) (locs : List Loc) (ls : Array Slot) => ∃ (u_1 : Int32) (f_2 : Nat → Int32) (f_3 : Nat → Int32) (u_4 : Int32) (f_5 : Nat → Int32), (iv 0 40 u_1) ∧ (ivT tW f_3) ∧ (iv 0 2 u_4) ∧ (ivT tA f_5) ∧ (RW f_5) ∧ n_6 = (2147483647 - (u_1 : Int32).toInt).toNat ∧ va_P V.1 vwCl [(z 15, aI V 900 f_2), (z 16, aI V 6 f_3), (z 38, aI V 4 fz38), (z 39, aJ V 160 fz39), (z 0, .inr (10, mo z pz0_0 pz0_5 pz0_6 pz0_7 pz0_8 pz0_9 pz0_10 pz0_11 pz0_12 pz0_13 pz0_14 u_4 pz0_19 pz0_22 pz0_23 pz0_29)), (z 1, aI V 3075 f_5)] H ∧ va_D A [(z 15, aI V 900 f_2), (z 16, aI V 6 f_3), (z 38, aI V 4 fz38), (z 39, aJ V 160 fz39), (z 0, .inr (10, mo z pz0_0 pz0_5 pz0_6 pz0_7 pz0_8 pz0_9 pz0_10 pz0_11 pz0_12 pz0_13 pz0_14 u_4 pz0_19 pz0_22 pz0_23 pz0_29)), (z 1, aI V 3075 f_5)] ∧ va_S A s.heap H locs ∧ lv_has ls 3 [(2, .int u_1), (0, .ref (z 0)), (1, .int a1)]) (g := fun ls => F0 m 7 ls []) (fun n_6 H locs ls hX ihn_6 => ?_) _ ⟨0, fz15, fz16, 0, fz1, (iv_c (0 : Int32) (by decide)), tfz16, (iv_c (0 : Int32) (by decide)), tfz1, hf0, rfl, hP, hD, hS, lv_sub hl [0, 1, 2] rfl⟩
  obtain ⟨u_1, f_2, f_3, u_4, f_5, bu_1, tf_3, bu_4, tf_5, inn_6_0, en_6, hP, hD, hS, hl⟩ := hX
  refine lv_iload_n hx hb dX10_tells_7 rfl (lv_at hl 0 rfl) ?_
  refine lv_aload_n hx hb dX10_tells_8 rfl (lv_at hl 1 rfl) ?_
  refine va_get (ci := 10) (v := .ref (z 38)) (C := RX10) (T := TX10) (N := 40) hx hb hg inX10 hown hK hP 4 rfl rfl 38 (by decide) (hg _ q_6_22) (fun _ h9 => h9) rfl dX10_tells_9 ?_
  refine lv_iload_n hx hb dX10_tells_12 rfl (lv_at hl 2 rfl) ?_
  refine va_iald hx hb hK hP 2 0 rfl rfl (iv_in ba1 (by decide)) dX10_tells_13 ?_
  refine lv_topi (fun x_7 ex_7 => ?_)
  have bx_7 : iv 0 40 x_7 := by rw [ex_7]; exact tfz38 _
  refine lv_icmp_ge (tgt := 67) hx hb dX10_tells_14 (by decide) (fun c_8 => ?_) (fun c_8 => ?_)
  · refine lv_aload_n hx hb dX10_tells_67 rfl (lv_at hl 1 rfl) ?_
    refine va_get (ci := 10) (v := .ref (z 38)) (C := RX10) (T := TX10) (N := 40) hx hb hg inX10 hown hK hP 4 rfl rfl 38 (by decide) (hg _ q_6_22) (fun _ h9 => h9) rfl dX10_tells_68 ?_
    refine lv_iload_n hx hb dX10_tells_71 rfl (lv_at hl 2 rfl) ?_
    refine va_iald hx hb hK hP 2 0 rfl rfl (iv_in ba1 (by decide)) dX10_tells_72 ?_
    refine tpi (y := x_7) ex_7.symm ?_
    exact fiI hx hb hr hlk hK hP hD hS dX10_tells_73 (Nat.le_of_ble_eq_true rfl) (Nat.le_of_ble_eq_true rfl) (⟨f_2, f_3, u_4, f_5, tf_3, bu_4, tf_5, bx_7, inn_6_0, rfl⟩)
  · have b_9 : iv 0 39 u_1 := iv_l1 (Int32.not_le.mp c_8) bu_1 bx_7 (by decide)
    have b_10 : iv 1 40 x_7 := iv_l2 (Int32.not_le.mp c_8) bu_1 bx_7 (by decide)
    refine lv_aload_n hx hb dX10_tells_17 rfl (lv_at hl 1 rfl) ?_
    refine lv_aload_n hx hb dX10_tells_18 rfl (lv_at hl 1 rfl) ?_
    refine lv_aload_n hx hb dX10_tells_19 rfl (lv_at hl 1 rfl) ?_
    refine va_get (ci := 10) (v := .ref (z 39)) (C := RX10) (T := TX10) (N := 40) hx hb hg inX10 hown hK hP 4 rfl rfl 39 (by decide) (hg _ q_6_23) (fun _ h9 => h9) rfl dX10_tells_20 ?_
    refine lv_bipush (v := 40) hx hb dX10_tells_23 (by decide) ?_
    refine lv_iload_n hx hb dX10_tells_25 rfl (lv_at hl 2 rfl) ?_
    refine lv_imul hx hb dX10_tells_26 ?_
    refine lv_topi (fun x_11 ex_11 => ?_)
    have bx_11 : iv 0 120 x_11 := by rw [ex_11]; exact iv_cmul (iv_c (40 : Int32) (a := 40) (b := 40) (by decide)) ba1 (by decide)
    refine lv_iload_n hx hb dX10_tells_27 rfl (lv_at hl 0 rfl) ?_
    refine lv_iadd hx hb dX10_tells_28 ?_
    refine lv_topi (fun x_12 ex_12 => ?_)
    have bx_12 : iv 0 159 x_12 := by rw [ex_12]; exact iv_add bx_11 b_9 (by decide)
    refine va_lald hx hb hK hP 3 2 rfl rfl (iv_in bx_12 (by decide)) dX10_tells_29 ?_
    refine lv_topl (fun j_13 ej_13 => ?_)
    refine jnI (wr := [(z 15, aI V 900 f_2), (z 16, aI V 6 f_3), (z 38, aI V 4 fz38), (z 39, aJ V 160 fz39)]) (rnV (rest := [.ref (z 0)]) ⟨hx, hb, hml, hown, hg⟩ (k_X10_whyNot_0 l V z j_13 pz0_0 pz0_5 pz0_6 pz0_7 pz0_8 pz0_9 pz0_10 pz0_11 pz0_12 pz0_13 pz0_14 u_4 pz0_19 pz0_22 pz0_23 pz0_29 f_5 bpz0_5 bpz0_6 bpz0_7 bpz0_8 bpz0_10 bpz0_11 bpz0_12 bpz0_13 bpz0_14 bu_4 bpz0_22 bpz0_29 tf_5) mt_X10_whyNot q_7_116 ⟨Nat.le_of_ble_eq_true rfl, Nat.le_of_ble_eq_true rfl⟩ hK hP hD hS hA hE [4, 5] rfl rfl 4 rfl rfl rfl rfl hl.1 rfl (Nat.le_of_ble_eq_true rfl) dX10_tells_30 ⟨Nat.le_of_ble_eq_true rfl, Nat.le_of_ble_eq_true rfl⟩) hP hD hS hA [4, 5] [0, 1, 2, 3] rfl rfl rfl (by decide) (fun r_14 w H locs hw hP hD hS => ?_)
    obtain ⟨br_14, g_15, g_16, rfl⟩ := hw
    have hP : va_P V.1 vwCl [(z 15, aI V 900 f_2), (z 16, aI V 6 f_3), (z 38, aI V 4 fz38), (z 39, aJ V 160 fz39), (z 0, .inr (10, mo z pz0_0 pz0_5 pz0_6 pz0_7 pz0_8 pz0_9 pz0_10 pz0_11 pz0_12 pz0_13 pz0_14 u_4 pz0_19 pz0_22 pz0_23 pz0_29)), (z 1, aI V 3075 f_5)] H := hP
    have hD : va_D A [(z 15, aI V 900 f_2), (z 16, aI V 6 f_3), (z 38, aI V 4 fz38), (z 39, aJ V 160 fz39), (z 0, .inr (10, mo z pz0_0 pz0_5 pz0_6 pz0_7 pz0_8 pz0_9 pz0_10 pz0_11 pz0_12 pz0_13 pz0_14 u_4 pz0_19 pz0_22 pz0_23 pz0_29)), (z 1, aI V 3075 f_5)] := hD
    refine va_put (ci := 10) (v := .int r_14) (ty := .int) (C := RX10) (T := TX10) (N := 40) hx hb hg inX10 tyX10 tyX10_ok nmX10 hown hK hP hD hS 4 rfl rfl 18 (by decide) (hg _ q_6_2) (fun _ h9 => h9) rfl (by decide +kernel) rfl rfl (Nat.le_of_ble_eq_true rfl) dX10_tells_33 (fun H locs hP hD hS => ?_)
    have hP : va_P V.1 vwCl [(z 15, aI V 900 f_2), (z 16, aI V 6 f_3), (z 38, aI V 4 fz38), (z 39, aJ V 160 fz39), (z 0, .inr (10, mo z pz0_0 pz0_5 pz0_6 pz0_7 pz0_8 pz0_9 pz0_10 pz0_11 pz0_12 pz0_13 pz0_14 r_14 pz0_19 pz0_22 pz0_23 pz0_29)), (z 1, aI V 3075 f_5)] H := hP
    have hD : va_D A [(z 15, aI V 900 f_2), (z 16, aI V 6 f_3), (z 38, aI V 4 fz38), (z 39, aJ V 160 fz39), (z 0, .inr (10, mo z pz0_0 pz0_5 pz0_6 pz0_7 pz0_8 pz0_9 pz0_10 pz0_11 pz0_12 pz0_13 pz0_14 r_14 pz0_19 pz0_22 pz0_23 pz0_29)), (z 1, aI V 3075 f_5)] := hD
    refine lv_aload_n hx hb dX10_tells_36 rfl (lv_at hl 1 rfl) ?_
    refine va_get (ci := 10) (v := .int r_14) (C := RX10) (T := TX10) (N := 40) hx hb hg inX10 hown hK hP 4 rfl rfl 18 (by decide) (hg _ q_6_2) (fun _ h9 => h9) rfl dX10_tells_37 ?_
    refine lv_if_eq (tgt := 45) hx hb dX10_tells_40 (by decide) (fun c_17 => ?_) (fun c_17 => ?_)
    · have b_18 : iv 0 0 r_14 := iv_q c_17 (iv_c (0 : Int32) (a := 0) (b := 0) (by decide))
      have b_19 : ivL 0 29 j_13 := ivL_cap (g_16 (iv_eqp b_18 (iv_c (0 : Int32) (by decide)))) (ivL_top j_13) (by decide)
      refine lv_aload_n hx hb dX10_tells_45 rfl (lv_at hl 1 rfl) ?_
      refine lv_aload_n hx hb dX10_tells_46 rfl (lv_at hl 1 rfl) ?_
      refine va_get (ci := 10) (v := .ref (z 39)) (C := RX10) (T := TX10) (N := 40) hx hb hg inX10 hown hK hP 4 rfl rfl 39 (by decide) (hg _ q_6_23) (fun _ h9 => h9) rfl dX10_tells_47 ?_
      refine lv_bipush (v := 40) hx hb dX10_tells_50 (by decide) ?_
      refine lv_iload_n hx hb dX10_tells_52 rfl (lv_at hl 2 rfl) ?_
      refine lv_imul hx hb dX10_tells_53 ?_
      refine tpi (y := x_11) ex_11.symm ?_
      refine lv_iload_n hx hb dX10_tells_54 rfl (lv_at hl 0 rfl) ?_
      refine lv_iadd hx hb dX10_tells_55 ?_
      refine tpi (y := x_12) ex_12.symm ?_
      refine va_lald hx hb hK hP 3 2 rfl rfl (iv_in bx_12 (by decide)) dX10_tells_56 ?_
      refine tpl (y := j_13) ej_13.symm ?_
      refine lv_l2i hx hb dX10_tells_57 rfl ?_
      refine lv_topi (fun x_20 ex_20 => ?_)
      have bx_20 : iv 0 29 x_20 := by rw [ex_20]; exact iv_ofL b_19 (by decide)
      refine jnV (wr := [(z 38, aI V 4 fz38), (z 39, aJ V 160 fz39)]) (rnV (rest := []) ⟨hx, hb, hml, hown, hg⟩ (k_X10_does_0 l V z x_20 f_2 f_3 pz0_0 pz0_5 pz0_6 pz0_7 pz0_8 pz0_9 pz0_10 pz0_11 pz0_12 pz0_13 pz0_14 r_14 pz0_19 pz0_22 pz0_23 pz0_29 f_5 bx_20 tf_3 bpz0_5 bpz0_6 bpz0_7 bpz0_8 bpz0_10 bpz0_11 bpz0_12 bpz0_13 bpz0_14 (iv_w b_18 (by decide)) bpz0_22 bpz0_29 tf_5 inn_6_0 (by have q9 := (g_15 (iv_eqp b_18 (iv_c (0 : Int32) (by decide)))); rw [l2i_toInt ex_20 b_19 (by decide)]; exact q9)) mt_X10_does q_7_123 ⟨Nat.le_of_ble_eq_true rfl, Nat.le_of_ble_eq_true rfl⟩ hK hP hD hS hA hE [0, 1, 4, 5] rfl rfl 4 rfl rfl rfl rfl hl.1 rfl (Nat.le_of_ble_eq_true rfl) dX10_tells_58 ⟨Nat.le_of_ble_eq_true rfl, Nat.le_of_ble_eq_true rfl⟩) hP hD hS hA [0, 1, 4, 5] [2, 3] rfl rfl rfl (by decide) (fun  w H locs hw hP hD hS => ?_)
      obtain ⟨f_21, f_22, f_23, tf_22, tf_23, g_24, rfl⟩ := hw
      have hP : va_P V.1 vwCl [(z 38, aI V 4 fz38), (z 39, aJ V 160 fz39), (z 15, aI V 900 f_21), (z 16, aI V 6 f_22), (z 0, .inr (10, mo z pz0_0 pz0_5 pz0_6 pz0_7 pz0_8 pz0_9 pz0_10 pz0_11 pz0_12 pz0_13 pz0_14 r_14 pz0_19 pz0_22 pz0_23 pz0_29)), (z 1, aI V 3075 f_23)] H := hP
      have hD : va_D A [(z 38, aI V 4 fz38), (z 39, aJ V 160 fz39), (z 15, aI V 900 f_21), (z 16, aI V 6 f_22), (z 0, .inr (10, mo z pz0_0 pz0_5 pz0_6 pz0_7 pz0_8 pz0_9 pz0_10 pz0_11 pz0_12 pz0_13 pz0_14 r_14 pz0_19 pz0_22 pz0_23 pz0_29)), (z 1, aI V 3075 f_23)] := hD
      obtain ⟨x_25, ex_25⟩ : ∃ z9 : Int32, z9 = u_1 + 1 := ⟨_, rfl⟩
      have bx_25 : iv 1 40 x_25 := by rw [ex_25]; exact iv_add b_9 (iv_c (1 : Int32) (a := 1) (b := 1) (by decide)) (by decide)
      refine lv_iinc (v := x_25) (lv' := [(2, .int x_25), (0, .ref (z 0)), (1, .int a1)]) hx hb dX10_tells_61 hl (k := 0) rfl (by rw [ex_25]; rfl) (by decide) rfl (fun ls hl => ?_)
      refine lv_goto (tgt := 7) hx hb dX10_tells_64 (by decide) ?_
      have hP := subP (ws' := [(z 15, aI V 900 f_21), (z 16, aI V 6 f_22), (z 38, aI V 4 fz38), (z 39, aJ V 160 fz39), (z 0, .inr (10, mo z pz0_0 pz0_5 pz0_6 pz0_7 pz0_8 pz0_9 pz0_10 pz0_11 pz0_12 pz0_13 pz0_14 r_14 pz0_19 pz0_22 pz0_23 pz0_29)), (z 1, aI V 3075 f_23)]) hP [2, 3, 0, 1, 4, 5] rfl
      have hD := hD.sub (ws' := [(z 15, aI V 900 f_21), (z 16, aI V 6 f_22), (z 38, aI V 4 fz38), (z 39, aJ V 160 fz39), (z 0, .inr (10, mo z pz0_0 pz0_5 pz0_6 pz0_7 pz0_8 pz0_9 pz0_10 pz0_11 pz0_12 pz0_13 pz0_14 r_14 pz0_19 pz0_22 pz0_23 pz0_29)), (z 1, aI V 3075 f_23)]) [2, 3, 0, 1, 4, 5] rfl rfl
      exact ihn_6 _ _ _ _ (by rw [en_6, ex_25]; exact mu_up b_9 (by decide)) ⟨x_25, f_21, f_22, r_14, f_23, (iv_w bx_25 (by decide)), tf_22, (iv_w b_18 (by decide)), tf_23, g_24, rfl, hP, hD, hS, lv_sub hl [0, 1, 2] rfl⟩
    · have b_26 : iv 1 2 r_14 := iv_n0 c_17 br_14 (iv_c (0 : Int32) (a := 0) (b := 0) (by decide)) (by decide)
      refine lv_iload_n hx hb dX10_tells_43 rfl (lv_at hl 0 rfl) ?_
      exact fiI hx hb hr hlk hK hP hD hS dX10_tells_44 (Nat.le_of_ble_eq_true rfl) (Nat.le_of_ble_eq_true rfl) (⟨f_2, f_3, r_14, f_5, tf_3, (iv_w b_26 (by decide)), tf_5, (iv_w b_9 (by decide)), inn_6_0, rfl⟩)
theorem dX10_isAgain_0 : decode cX10_isAgain 0 = .ok (.iconst 0, 1) := by decide +kernel
theorem dX10_isAgain_1 : decode cX10_isAgain 1 = .ok (.istore_n 1, 1) := by decide +kernel
theorem dX10_isAgain_2 : decode cX10_isAgain 2 = .ok (.iload_n 1, 1) := by decide +kernel
theorem dX10_isAgain_3 : decode cX10_isAgain 3 = .ok (.bipush 7, 2) := by decide +kernel
theorem dX10_isAgain_5 : decode cX10_isAgain 5 = .ok (.if_icmp .ge 24, 3) := by decide +kernel
theorem dX10_isAgain_8 : decode cX10_isAgain 8 = .ok (.aload_n 0, 1) := by decide +kernel
theorem dX10_isAgain_9 : decode cX10_isAgain 9 = .ok (.getfield 13, 3) := by decide +kernel
theorem dX10_isAgain_12 : decode cX10_isAgain 12 = .ok (.bipush 46, 2) := by decide +kernel
theorem dX10_isAgain_14 : decode cX10_isAgain 14 = .ok (.iload_n 1, 1) := by decide +kernel
theorem dX10_isAgain_15 : decode cX10_isAgain 15 = .ok (.iadd, 1) := by decide +kernel
theorem dX10_isAgain_16 : decode cX10_isAgain 16 = .ok (.aload_n 0, 1) := by decide +kernel
theorem dX10_isAgain_17 : decode cX10_isAgain 17 = .ok (.getfield 36, 3) := by decide +kernel
theorem dX10_isAgain_20 : decode cX10_isAgain 20 = .ok (.iload_n 1, 1) := by decide +kernel
theorem dX10_isAgain_21 : decode cX10_isAgain 21 = .ok (.iaload, 1) := by decide +kernel
theorem dX10_isAgain_22 : decode cX10_isAgain 22 = .ok (.iastore, 1) := by decide +kernel
theorem dX10_isAgain_23 : decode cX10_isAgain 23 = .ok (.iinc 1 1, 3) := by decide +kernel
theorem dX10_isAgain_26 : decode cX10_isAgain 26 = .ok (.goto (-24), 3) := by decide +kernel
theorem dX10_isAgain_29 : decode cX10_isAgain 29 = .ok (.return_, 1) := by decide +kernel
set_option maxHeartbeats 4000000 in
set_option maxRecDepth 100000 in
theorem k_X10_isAgain_0 (l : Launch) (V : GV) (z : Nat → Nat) (fz17 : Nat → Int32) (pz0_0 : Int32) (pz0_5 : Int32) (pz0_6 : Int32) (pz0_7 : Int32) (pz0_8 : Int32) (pz0_9 : Int32) (pz0_10 : Int32) (pz0_11 : Int32) (pz0_12 : Int32) (pz0_13 : Int32) (pz0_14 : Int32) (pz0_18 : Int32) (pz0_19 : Int32) (pz0_22 : Int32) (pz0_23 : Int32) (pz0_29 : Int32) (fz1 : Nat → Int32) (tfz17 : ivT tS fz17) (bpz0_5 : iv 0 900 pz0_5) (bpz0_6 : iv 0 900 pz0_6) (bpz0_7 : iv 0 900 pz0_7) (bpz0_8 : iv 0 900 pz0_8) (bpz0_10 : iv 0 999 pz0_10) (bpz0_11 : iv 0 4 pz0_11) (bpz0_12 : iv 0 900 pz0_12) (bpz0_13 : iv 0 4 pz0_13) (bpz0_14 : iv (-1) 900 pz0_14) (bpz0_18 : iv 0 2 pz0_18) (bpz0_22 : iv 0 9999 pz0_22) (bpz0_29 : iv 0 10000 pz0_29) (tfz1 : ivT tA fz1) (hf0 : RW fz1) : Ct l V yX10_isAgain (.code yX10_isAgain cX10_isAgain 2 none) 1 [.ref (z 0)] [(z 17, aI V 7 fz17), (z 0, .inr (10, mo z pz0_0 pz0_5 pz0_6 pz0_7 pz0_8 pz0_9 pz0_10 pz0_11 pz0_12 pz0_13 pz0_14 pz0_18 pz0_19 pz0_22 pz0_23 pz0_29)), (z 1, aI V 3075 fz1)] 0 0 (QV V (fun (w : va_W) => ∃ (g0 : Nat → Int32), (ivT tA g0) ∧ (RW g0) ∧ w = [(z 17, aI V 7 fz17), (z 0, .inr (10, mo z pz0_0 pz0_5 pz0_6 pz0_7 pz0_8 pz0_9 pz0_10 pz0_11 pz0_12 pz0_13 pz0_14 pz0_18 pz0_19 pz0_22 pz0_23 pz0_29)), (z 1, aI V 3075 g0)])) := by
  refine Ct.of (by decide) (Nat.le_of_ble_eq_true rfl) (fun p e s m below meth c A ls hx hb hr hml hown hlk hnm hg hP hK hD hE hA hS hl => ?_)
  have hl : lv_has ls 2 [(0, .ref (z 0))] := hl
  refine lv_iconst (v := 0) hx hb dX10_isAgain_0 (by decide) ?_
  refine lv_istore_n (lv' := [(1, .int 0), (0, .ref (z 0))]) hx hb dX10_isAgain_1 rfl hl (by decide) rfl (fun ls hl => ?_)
  refine lv_iload_n hx hb dX10_isAgain_2 rfl (lv_at hl 0 rfl) ?_
  refine lv_bipush (v := 7) hx hb dX10_isAgain_3 (by decide) ?_
  refine lv_icmp_ge (tgt := 29) hx hb dX10_isAgain_5 (by decide) (fun c_2 => absurd c_2 (by decide)) (fun _ => ?_)
  refine lv_aload_n hx hb dX10_isAgain_8 rfl (lv_at hl 1 rfl) ?_
  refine va_get (ci := 10) (v := .ref (z 1)) (C := RX10) (T := TX10) (N := 40) hx hb hg inX10 hown hK hP 1 rfl rfl 1 (by decide) (hg _ q_5_225) (fun _ h9 => h9) rfl dX10_isAgain_9 ?_
  refine lv_bipush (v := 46) hx hb dX10_isAgain_12 (by decide) ?_
  refine lv_iload_n hx hb dX10_isAgain_14 rfl (lv_at hl 0 rfl) ?_
  refine lv_iadd hx hb dX10_isAgain_15 ?_
  refine tpi (y := 46) (by decide +kernel) ?_
  refine lv_aload_n hx hb dX10_isAgain_16 rfl (lv_at hl 1 rfl) ?_
  refine va_get (ci := 10) (v := .ref (z 17)) (C := RX10) (T := TX10) (N := 40) hx hb hg inX10 hown hK hP 1 rfl rfl 17 (by decide) (hg _ q_6_1) (fun _ h9 => h9) rfl dX10_isAgain_17 ?_
  refine lv_iload_n hx hb dX10_isAgain_20 rfl (lv_at hl 0 rfl) ?_
  refine va_iald hx hb hK hP 0 0 rfl rfl (vin (by decide +kernel)) dX10_isAgain_21 ?_
  refine lv_topi (fun x_3 ex_3 => ?_)
  have bx_3 : iv 0 4 x_3 := by rw [ex_3]; exact rdT (a := 0) (n := 1) tfz17 (iv_c (0 : Int32) (a := 0) (b := 0) (by decide)) (by decide) (by decide +kernel)
  refine va_iast hx hb hK hP hD hS 2 0 rfl rfl (vin (by decide +kernel)) dX10_isAgain_22 (fun H locs hP hD hS => ?_)
  obtain ⟨f_4, ef_4, tf_4, hP, hD⟩ : ∃ f_4 : Nat → Int32, f_4 = (upd fz1 (46 : Int32).toNatClampNeg x_3) ∧ (ivT tA f_4) ∧ va_P V.1 vwCl [(z 17, aI V 7 fz17), (z 0, .inr (10, mo z pz0_0 pz0_5 pz0_6 pz0_7 pz0_8 pz0_9 pz0_10 pz0_11 pz0_12 pz0_13 pz0_14 pz0_18 pz0_19 pz0_22 pz0_23 pz0_29)), (z 1, aI V 3075 f_4)] H ∧ va_D A [(z 17, aI V 7 fz17), (z 0, .inr (10, mo z pz0_0 pz0_5 pz0_6 pz0_7 pz0_8 pz0_9 pz0_10 pz0_11 pz0_12 pz0_13 pz0_14 pz0_18 pz0_19 pz0_22 pz0_23 pz0_29)), (z 1, aI V 3075 f_4)] := ⟨_, rfl, upT (lo := 0) (hi := 4) (a := 46) (n := 1) tfz1 (iv_c (46 : Int32) (a := 46) (b := 46) (by decide)) (by decide) bx_3 (by decide +kernel), hP, hD⟩
  refine lv_iinc (v := 1) (lv' := [(1, .int 1), (0, .ref (z 0))]) hx hb dX10_isAgain_23 hl (k := 0) rfl (by decide +kernel) (by decide) rfl (fun ls hl => ?_)
  refine lv_goto (tgt := 2) hx hb dX10_isAgain_26 (by decide) ?_
  refine lv_iload_n hx hb dX10_isAgain_2 rfl (lv_at hl 0 rfl) ?_
  refine lv_bipush (v := 7) hx hb dX10_isAgain_3 (by decide) ?_
  refine lv_icmp_ge (tgt := 29) hx hb dX10_isAgain_5 (by decide) (fun c_6 => absurd c_6 (by decide)) (fun _ => ?_)
  refine lv_aload_n hx hb dX10_isAgain_8 rfl (lv_at hl 1 rfl) ?_
  refine va_get (ci := 10) (v := .ref (z 1)) (C := RX10) (T := TX10) (N := 40) hx hb hg inX10 hown hK hP 1 rfl rfl 1 (by decide) (hg _ q_5_225) (fun _ h9 => h9) rfl dX10_isAgain_9 ?_
  refine lv_bipush (v := 46) hx hb dX10_isAgain_12 (by decide) ?_
  refine lv_iload_n hx hb dX10_isAgain_14 rfl (lv_at hl 0 rfl) ?_
  refine lv_iadd hx hb dX10_isAgain_15 ?_
  refine tpi (y := 47) (by decide +kernel) ?_
  refine lv_aload_n hx hb dX10_isAgain_16 rfl (lv_at hl 1 rfl) ?_
  refine va_get (ci := 10) (v := .ref (z 17)) (C := RX10) (T := TX10) (N := 40) hx hb hg inX10 hown hK hP 1 rfl rfl 17 (by decide) (hg _ q_6_1) (fun _ h9 => h9) rfl dX10_isAgain_17 ?_
  refine lv_iload_n hx hb dX10_isAgain_20 rfl (lv_at hl 0 rfl) ?_
  refine va_iald hx hb hK hP 0 0 rfl rfl (vin (by decide +kernel)) dX10_isAgain_21 ?_
  refine lv_topi (fun x_7 ex_7 => ?_)
  have bx_7 : iv 0 4 x_7 := by rw [ex_7]; exact rdT (a := 1) (n := 1) tfz17 (iv_c (1 : Int32) (a := 1) (b := 1) (by decide)) (by decide) (by decide +kernel)
  refine va_iast hx hb hK hP hD hS 2 0 rfl rfl (vin (by decide +kernel)) dX10_isAgain_22 (fun H locs hP hD hS => ?_)
  obtain ⟨f_8, ef_8, tf_8, hP, hD⟩ : ∃ f_8 : Nat → Int32, f_8 = (upd f_4 (47 : Int32).toNatClampNeg x_7) ∧ (ivT tA f_8) ∧ va_P V.1 vwCl [(z 17, aI V 7 fz17), (z 0, .inr (10, mo z pz0_0 pz0_5 pz0_6 pz0_7 pz0_8 pz0_9 pz0_10 pz0_11 pz0_12 pz0_13 pz0_14 pz0_18 pz0_19 pz0_22 pz0_23 pz0_29)), (z 1, aI V 3075 f_8)] H ∧ va_D A [(z 17, aI V 7 fz17), (z 0, .inr (10, mo z pz0_0 pz0_5 pz0_6 pz0_7 pz0_8 pz0_9 pz0_10 pz0_11 pz0_12 pz0_13 pz0_14 pz0_18 pz0_19 pz0_22 pz0_23 pz0_29)), (z 1, aI V 3075 f_8)] := ⟨_, rfl, upT (lo := 0) (hi := 4) (a := 47) (n := 1) tf_4 (iv_c (47 : Int32) (a := 47) (b := 47) (by decide)) (by decide) bx_7 (by decide +kernel), hP, hD⟩
  refine lv_iinc (v := 2) (lv' := [(1, .int 2), (0, .ref (z 0))]) hx hb dX10_isAgain_23 hl (k := 0) rfl (by decide +kernel) (by decide) rfl (fun ls hl => ?_)
  refine lv_goto (tgt := 2) hx hb dX10_isAgain_26 (by decide) ?_
  refine lv_iload_n hx hb dX10_isAgain_2 rfl (lv_at hl 0 rfl) ?_
  refine lv_bipush (v := 7) hx hb dX10_isAgain_3 (by decide) ?_
  refine lv_icmp_ge (tgt := 29) hx hb dX10_isAgain_5 (by decide) (fun c_10 => absurd c_10 (by decide)) (fun _ => ?_)
  refine lv_aload_n hx hb dX10_isAgain_8 rfl (lv_at hl 1 rfl) ?_
  refine va_get (ci := 10) (v := .ref (z 1)) (C := RX10) (T := TX10) (N := 40) hx hb hg inX10 hown hK hP 1 rfl rfl 1 (by decide) (hg _ q_5_225) (fun _ h9 => h9) rfl dX10_isAgain_9 ?_
  refine lv_bipush (v := 46) hx hb dX10_isAgain_12 (by decide) ?_
  refine lv_iload_n hx hb dX10_isAgain_14 rfl (lv_at hl 0 rfl) ?_
  refine lv_iadd hx hb dX10_isAgain_15 ?_
  refine tpi (y := 48) (by decide +kernel) ?_
  refine lv_aload_n hx hb dX10_isAgain_16 rfl (lv_at hl 1 rfl) ?_
  refine va_get (ci := 10) (v := .ref (z 17)) (C := RX10) (T := TX10) (N := 40) hx hb hg inX10 hown hK hP 1 rfl rfl 17 (by decide) (hg _ q_6_1) (fun _ h9 => h9) rfl dX10_isAgain_17 ?_
  refine lv_iload_n hx hb dX10_isAgain_20 rfl (lv_at hl 0 rfl) ?_
  refine va_iald hx hb hK hP 0 0 rfl rfl (vin (by decide +kernel)) dX10_isAgain_21 ?_
  refine lv_topi (fun x_11 ex_11 => ?_)
  have bx_11 : iv 0 4 x_11 := by rw [ex_11]; exact rdT (a := 2) (n := 1) tfz17 (iv_c (2 : Int32) (a := 2) (b := 2) (by decide)) (by decide) (by decide +kernel)
  refine va_iast hx hb hK hP hD hS 2 0 rfl rfl (vin (by decide +kernel)) dX10_isAgain_22 (fun H locs hP hD hS => ?_)
  obtain ⟨f_12, ef_12, tf_12, hP, hD⟩ : ∃ f_12 : Nat → Int32, f_12 = (upd f_8 (48 : Int32).toNatClampNeg x_11) ∧ (ivT tA f_12) ∧ va_P V.1 vwCl [(z 17, aI V 7 fz17), (z 0, .inr (10, mo z pz0_0 pz0_5 pz0_6 pz0_7 pz0_8 pz0_9 pz0_10 pz0_11 pz0_12 pz0_13 pz0_14 pz0_18 pz0_19 pz0_22 pz0_23 pz0_29)), (z 1, aI V 3075 f_12)] H ∧ va_D A [(z 17, aI V 7 fz17), (z 0, .inr (10, mo z pz0_0 pz0_5 pz0_6 pz0_7 pz0_8 pz0_9 pz0_10 pz0_11 pz0_12 pz0_13 pz0_14 pz0_18 pz0_19 pz0_22 pz0_23 pz0_29)), (z 1, aI V 3075 f_12)] := ⟨_, rfl, upT (lo := 0) (hi := 4) (a := 48) (n := 1) tf_8 (iv_c (48 : Int32) (a := 48) (b := 48) (by decide)) (by decide) bx_11 (by decide +kernel), hP, hD⟩
  refine lv_iinc (v := 3) (lv' := [(1, .int 3), (0, .ref (z 0))]) hx hb dX10_isAgain_23 hl (k := 0) rfl (by decide +kernel) (by decide) rfl (fun ls hl => ?_)
  refine lv_goto (tgt := 2) hx hb dX10_isAgain_26 (by decide) ?_
  refine lv_iload_n hx hb dX10_isAgain_2 rfl (lv_at hl 0 rfl) ?_
  refine lv_bipush (v := 7) hx hb dX10_isAgain_3 (by decide) ?_
  refine lv_icmp_ge (tgt := 29) hx hb dX10_isAgain_5 (by decide) (fun c_14 => absurd c_14 (by decide)) (fun _ => ?_)
  refine lv_aload_n hx hb dX10_isAgain_8 rfl (lv_at hl 1 rfl) ?_
  refine va_get (ci := 10) (v := .ref (z 1)) (C := RX10) (T := TX10) (N := 40) hx hb hg inX10 hown hK hP 1 rfl rfl 1 (by decide) (hg _ q_5_225) (fun _ h9 => h9) rfl dX10_isAgain_9 ?_
  refine lv_bipush (v := 46) hx hb dX10_isAgain_12 (by decide) ?_
  refine lv_iload_n hx hb dX10_isAgain_14 rfl (lv_at hl 0 rfl) ?_
  refine lv_iadd hx hb dX10_isAgain_15 ?_
  refine tpi (y := 49) (by decide +kernel) ?_
  refine lv_aload_n hx hb dX10_isAgain_16 rfl (lv_at hl 1 rfl) ?_
  refine va_get (ci := 10) (v := .ref (z 17)) (C := RX10) (T := TX10) (N := 40) hx hb hg inX10 hown hK hP 1 rfl rfl 17 (by decide) (hg _ q_6_1) (fun _ h9 => h9) rfl dX10_isAgain_17 ?_
  refine lv_iload_n hx hb dX10_isAgain_20 rfl (lv_at hl 0 rfl) ?_
  refine va_iald hx hb hK hP 0 0 rfl rfl (vin (by decide +kernel)) dX10_isAgain_21 ?_
  refine lv_topi (fun x_15 ex_15 => ?_)
  have bx_15 : iv 0 4 x_15 := by rw [ex_15]; exact rdT (a := 3) (n := 1) tfz17 (iv_c (3 : Int32) (a := 3) (b := 3) (by decide)) (by decide) (by decide +kernel)
  refine va_iast hx hb hK hP hD hS 2 0 rfl rfl (vin (by decide +kernel)) dX10_isAgain_22 (fun H locs hP hD hS => ?_)
  obtain ⟨f_16, ef_16, tf_16, hP, hD⟩ : ∃ f_16 : Nat → Int32, f_16 = (upd f_12 (49 : Int32).toNatClampNeg x_15) ∧ (ivT tA f_16) ∧ va_P V.1 vwCl [(z 17, aI V 7 fz17), (z 0, .inr (10, mo z pz0_0 pz0_5 pz0_6 pz0_7 pz0_8 pz0_9 pz0_10 pz0_11 pz0_12 pz0_13 pz0_14 pz0_18 pz0_19 pz0_22 pz0_23 pz0_29)), (z 1, aI V 3075 f_16)] H ∧ va_D A [(z 17, aI V 7 fz17), (z 0, .inr (10, mo z pz0_0 pz0_5 pz0_6 pz0_7 pz0_8 pz0_9 pz0_10 pz0_11 pz0_12 pz0_13 pz0_14 pz0_18 pz0_19 pz0_22 pz0_23 pz0_29)), (z 1, aI V 3075 f_16)] := ⟨_, rfl, upT (lo := 0) (hi := 4) (a := 49) (n := 1) tf_12 (iv_c (49 : Int32) (a := 49) (b := 49) (by decide)) (by decide) bx_15 (by decide +kernel), hP, hD⟩
  refine lv_iinc (v := 4) (lv' := [(1, .int 4), (0, .ref (z 0))]) hx hb dX10_isAgain_23 hl (k := 0) rfl (by decide +kernel) (by decide) rfl (fun ls hl => ?_)
  refine lv_goto (tgt := 2) hx hb dX10_isAgain_26 (by decide) ?_
  refine lv_iload_n hx hb dX10_isAgain_2 rfl (lv_at hl 0 rfl) ?_
  refine lv_bipush (v := 7) hx hb dX10_isAgain_3 (by decide) ?_
  refine lv_icmp_ge (tgt := 29) hx hb dX10_isAgain_5 (by decide) (fun c_18 => absurd c_18 (by decide)) (fun _ => ?_)
  refine lv_aload_n hx hb dX10_isAgain_8 rfl (lv_at hl 1 rfl) ?_
  refine va_get (ci := 10) (v := .ref (z 1)) (C := RX10) (T := TX10) (N := 40) hx hb hg inX10 hown hK hP 1 rfl rfl 1 (by decide) (hg _ q_5_225) (fun _ h9 => h9) rfl dX10_isAgain_9 ?_
  refine lv_bipush (v := 46) hx hb dX10_isAgain_12 (by decide) ?_
  refine lv_iload_n hx hb dX10_isAgain_14 rfl (lv_at hl 0 rfl) ?_
  refine lv_iadd hx hb dX10_isAgain_15 ?_
  refine tpi (y := 50) (by decide +kernel) ?_
  refine lv_aload_n hx hb dX10_isAgain_16 rfl (lv_at hl 1 rfl) ?_
  refine va_get (ci := 10) (v := .ref (z 17)) (C := RX10) (T := TX10) (N := 40) hx hb hg inX10 hown hK hP 1 rfl rfl 17 (by decide) (hg _ q_6_1) (fun _ h9 => h9) rfl dX10_isAgain_17 ?_
  refine lv_iload_n hx hb dX10_isAgain_20 rfl (lv_at hl 0 rfl) ?_
  refine va_iald hx hb hK hP 0 0 rfl rfl (vin (by decide +kernel)) dX10_isAgain_21 ?_
  refine lv_topi (fun x_19 ex_19 => ?_)
  have bx_19 : iv 0 15 x_19 := by rw [ex_19]; exact rdT (a := 4) (n := 1) tfz17 (iv_c (4 : Int32) (a := 4) (b := 4) (by decide)) (by decide) (by decide +kernel)
  refine va_iast hx hb hK hP hD hS 2 0 rfl rfl (vin (by decide +kernel)) dX10_isAgain_22 (fun H locs hP hD hS => ?_)
  obtain ⟨f_20, ef_20, tf_20, hP, hD⟩ : ∃ f_20 : Nat → Int32, f_20 = (upd f_16 (50 : Int32).toNatClampNeg x_19) ∧ (ivT tA f_20) ∧ va_P V.1 vwCl [(z 17, aI V 7 fz17), (z 0, .inr (10, mo z pz0_0 pz0_5 pz0_6 pz0_7 pz0_8 pz0_9 pz0_10 pz0_11 pz0_12 pz0_13 pz0_14 pz0_18 pz0_19 pz0_22 pz0_23 pz0_29)), (z 1, aI V 3075 f_20)] H ∧ va_D A [(z 17, aI V 7 fz17), (z 0, .inr (10, mo z pz0_0 pz0_5 pz0_6 pz0_7 pz0_8 pz0_9 pz0_10 pz0_11 pz0_12 pz0_13 pz0_14 pz0_18 pz0_19 pz0_22 pz0_23 pz0_29)), (z 1, aI V 3075 f_20)] := ⟨_, rfl, upT (lo := 0) (hi := 15) (a := 50) (n := 1) tf_16 (iv_c (50 : Int32) (a := 50) (b := 50) (by decide)) (by decide) bx_19 (by decide +kernel), hP, hD⟩
  refine lv_iinc (v := 5) (lv' := [(1, .int 5), (0, .ref (z 0))]) hx hb dX10_isAgain_23 hl (k := 0) rfl (by decide +kernel) (by decide) rfl (fun ls hl => ?_)
  refine lv_goto (tgt := 2) hx hb dX10_isAgain_26 (by decide) ?_
  refine lv_iload_n hx hb dX10_isAgain_2 rfl (lv_at hl 0 rfl) ?_
  refine lv_bipush (v := 7) hx hb dX10_isAgain_3 (by decide) ?_
  refine lv_icmp_ge (tgt := 29) hx hb dX10_isAgain_5 (by decide) (fun c_22 => absurd c_22 (by decide)) (fun _ => ?_)
  refine lv_aload_n hx hb dX10_isAgain_8 rfl (lv_at hl 1 rfl) ?_
  refine va_get (ci := 10) (v := .ref (z 1)) (C := RX10) (T := TX10) (N := 40) hx hb hg inX10 hown hK hP 1 rfl rfl 1 (by decide) (hg _ q_5_225) (fun _ h9 => h9) rfl dX10_isAgain_9 ?_
  refine lv_bipush (v := 46) hx hb dX10_isAgain_12 (by decide) ?_
  refine lv_iload_n hx hb dX10_isAgain_14 rfl (lv_at hl 0 rfl) ?_
  refine lv_iadd hx hb dX10_isAgain_15 ?_
  refine tpi (y := 51) (by decide +kernel) ?_
  refine lv_aload_n hx hb dX10_isAgain_16 rfl (lv_at hl 1 rfl) ?_
  refine va_get (ci := 10) (v := .ref (z 17)) (C := RX10) (T := TX10) (N := 40) hx hb hg inX10 hown hK hP 1 rfl rfl 17 (by decide) (hg _ q_6_1) (fun _ h9 => h9) rfl dX10_isAgain_17 ?_
  refine lv_iload_n hx hb dX10_isAgain_20 rfl (lv_at hl 0 rfl) ?_
  refine va_iald hx hb hK hP 0 0 rfl rfl (vin (by decide +kernel)) dX10_isAgain_21 ?_
  refine lv_topi (fun x_23 ex_23 => ?_)
  have bx_23 : iv 0 9 x_23 := by rw [ex_23]; exact rdT (a := 5) (n := 1) tfz17 (iv_c (5 : Int32) (a := 5) (b := 5) (by decide)) (by decide) (by decide +kernel)
  refine va_iast hx hb hK hP hD hS 2 0 rfl rfl (vin (by decide +kernel)) dX10_isAgain_22 (fun H locs hP hD hS => ?_)
  obtain ⟨f_24, ef_24, tf_24, hP, hD⟩ : ∃ f_24 : Nat → Int32, f_24 = (upd f_20 (51 : Int32).toNatClampNeg x_23) ∧ (ivT tA f_24) ∧ va_P V.1 vwCl [(z 17, aI V 7 fz17), (z 0, .inr (10, mo z pz0_0 pz0_5 pz0_6 pz0_7 pz0_8 pz0_9 pz0_10 pz0_11 pz0_12 pz0_13 pz0_14 pz0_18 pz0_19 pz0_22 pz0_23 pz0_29)), (z 1, aI V 3075 f_24)] H ∧ va_D A [(z 17, aI V 7 fz17), (z 0, .inr (10, mo z pz0_0 pz0_5 pz0_6 pz0_7 pz0_8 pz0_9 pz0_10 pz0_11 pz0_12 pz0_13 pz0_14 pz0_18 pz0_19 pz0_22 pz0_23 pz0_29)), (z 1, aI V 3075 f_24)] := ⟨_, rfl, upT (lo := 0) (hi := 9) (a := 51) (n := 1) tf_20 (iv_c (51 : Int32) (a := 51) (b := 51) (by decide)) (by decide) bx_23 (by decide +kernel), hP, hD⟩
  refine lv_iinc (v := 6) (lv' := [(1, .int 6), (0, .ref (z 0))]) hx hb dX10_isAgain_23 hl (k := 0) rfl (by decide +kernel) (by decide) rfl (fun ls hl => ?_)
  refine lv_goto (tgt := 2) hx hb dX10_isAgain_26 (by decide) ?_
  refine lv_iload_n hx hb dX10_isAgain_2 rfl (lv_at hl 0 rfl) ?_
  refine lv_bipush (v := 7) hx hb dX10_isAgain_3 (by decide) ?_
  refine lv_icmp_ge (tgt := 29) hx hb dX10_isAgain_5 (by decide) (fun c_26 => absurd c_26 (by decide)) (fun _ => ?_)
  refine lv_aload_n hx hb dX10_isAgain_8 rfl (lv_at hl 1 rfl) ?_
  refine va_get (ci := 10) (v := .ref (z 1)) (C := RX10) (T := TX10) (N := 40) hx hb hg inX10 hown hK hP 1 rfl rfl 1 (by decide) (hg _ q_5_225) (fun _ h9 => h9) rfl dX10_isAgain_9 ?_
  refine lv_bipush (v := 46) hx hb dX10_isAgain_12 (by decide) ?_
  refine lv_iload_n hx hb dX10_isAgain_14 rfl (lv_at hl 0 rfl) ?_
  refine lv_iadd hx hb dX10_isAgain_15 ?_
  refine tpi (y := 52) (by decide +kernel) ?_
  refine lv_aload_n hx hb dX10_isAgain_16 rfl (lv_at hl 1 rfl) ?_
  refine va_get (ci := 10) (v := .ref (z 17)) (C := RX10) (T := TX10) (N := 40) hx hb hg inX10 hown hK hP 1 rfl rfl 17 (by decide) (hg _ q_6_1) (fun _ h9 => h9) rfl dX10_isAgain_17 ?_
  refine lv_iload_n hx hb dX10_isAgain_20 rfl (lv_at hl 0 rfl) ?_
  refine va_iald hx hb hK hP 0 0 rfl rfl (vin (by decide +kernel)) dX10_isAgain_21 ?_
  refine lv_topi (fun x_27 ex_27 => ?_)
  refine va_iast hx hb hK hP hD hS 2 0 rfl rfl (vin (by decide +kernel)) dX10_isAgain_22 (fun H locs hP hD hS => ?_)
  obtain ⟨f_28, ef_28, tf_28, hP, hD⟩ : ∃ f_28 : Nat → Int32, f_28 = (upd f_24 (52 : Int32).toNatClampNeg x_27) ∧ (ivT tA f_28) ∧ va_P V.1 vwCl [(z 17, aI V 7 fz17), (z 0, .inr (10, mo z pz0_0 pz0_5 pz0_6 pz0_7 pz0_8 pz0_9 pz0_10 pz0_11 pz0_12 pz0_13 pz0_14 pz0_18 pz0_19 pz0_22 pz0_23 pz0_29)), (z 1, aI V 3075 f_28)] H ∧ va_D A [(z 17, aI V 7 fz17), (z 0, .inr (10, mo z pz0_0 pz0_5 pz0_6 pz0_7 pz0_8 pz0_9 pz0_10 pz0_11 pz0_12 pz0_13 pz0_14 pz0_18 pz0_19 pz0_22 pz0_23 pz0_29)), (z 1, aI V 3075 f_28)] := ⟨_, rfl, upT (lo := (-2147483648)) (hi := 2147483647) (a := 52) (n := 1) tf_24 (iv_c (52 : Int32) (a := 52) (b := 52) (by decide)) (by decide) (iv_top x_27) (by decide +kernel), hP, hD⟩
  refine lv_iinc (v := 7) (lv' := [(1, .int 7), (0, .ref (z 0))]) hx hb dX10_isAgain_23 hl (k := 0) rfl (by decide +kernel) (by decide) rfl (fun ls hl => ?_)
  refine lv_goto (tgt := 2) hx hb dX10_isAgain_26 (by decide) ?_
  refine lv_iload_n hx hb dX10_isAgain_2 rfl (lv_at hl 0 rfl) ?_
  refine lv_bipush (v := 7) hx hb dX10_isAgain_3 (by decide) ?_
  refine lv_icmp_ge (tgt := 29) hx hb dX10_isAgain_5 (by decide) (fun _ => ?_) (fun c_30 => absurd c_30 (by decide))
  exact fiV hx hb hr hlk hK hP hD hS dX10_isAgain_29 (Nat.le_of_ble_eq_true rfl) (Nat.le_of_ble_eq_true rfl) (⟨f_28, tf_28, (RW_up (RW_up (RW_up (RW_up (RW_up (RW_up (RW_up hf0 (iv_c (46 : Int32) (a := 46) (b := 46) (by decide)) (by decide) ef_4) (iv_c (47 : Int32) (a := 47) (b := 47) (by decide)) (by decide) ef_8) (iv_c (48 : Int32) (a := 48) (b := 48) (by decide)) (by decide) ef_12) (iv_c (49 : Int32) (a := 49) (b := 49) (by decide)) (by decide) ef_16) (iv_c (50 : Int32) (a := 50) (b := 50) (by decide)) (by decide) ef_20) (iv_c (51 : Int32) (a := 51) (b := 51) (by decide)) (by decide) ef_24) (iv_c (52 : Int32) (a := 52) (b := 52) (by decide)) (by decide) ef_28), rfl⟩)
theorem dX10_sumIn_0 : decode cX10_sumIn 0 = .ok (.iconst 0, 1) := by decide +kernel
theorem dX10_sumIn_1 : decode cX10_sumIn 1 = .ok (.istore_n 2, 1) := by decide +kernel
theorem dX10_sumIn_2 : decode cX10_sumIn 2 = .ok (.iconst 0, 1) := by decide +kernel
theorem dX10_sumIn_3 : decode cX10_sumIn 3 = .ok (.istore_n 3, 1) := by decide +kernel
theorem dX10_sumIn_4 : decode cX10_sumIn 4 = .ok (.iload_n 3, 1) := by decide +kernel
theorem dX10_sumIn_5 : decode cX10_sumIn 5 = .ok (.aload_n 0, 1) := by decide +kernel
theorem dX10_sumIn_6 : decode cX10_sumIn 6 = .ok (.getfield 13, 3) := by decide +kernel
theorem dX10_sumIn_9 : decode cX10_sumIn 9 = .ok (.iconst 1, 1) := by decide +kernel
theorem dX10_sumIn_10 : decode cX10_sumIn 10 = .ok (.iaload, 1) := by decide +kernel
theorem dX10_sumIn_11 : decode cX10_sumIn 11 = .ok (.if_icmp .ge 17, 3) := by decide +kernel
theorem dX10_sumIn_28 : decode cX10_sumIn 28 = .ok (.iload_n 2, 1) := by decide +kernel
theorem dX10_sumIn_29 : decode cX10_sumIn 29 = .ok (.ireturn, 1) := by decide +kernel
theorem dX10_sumIn_14 : decode cX10_sumIn 14 = .ok (.iload_n 2, 1) := by decide +kernel
theorem dX10_sumIn_15 : decode cX10_sumIn 15 = .ok (.iload_n 1, 1) := by decide +kernel
theorem dX10_sumIn_16 : decode cX10_sumIn 16 = .ok (.iload_n 3, 1) := by decide +kernel
theorem dX10_sumIn_17 : decode cX10_sumIn 17 = .ok (.invokestatic 231, 3) := by decide +kernel
theorem dX10_sumIn_20 : decode cX10_sumIn 20 = .ok (.iadd, 1) := by decide +kernel
theorem dX10_sumIn_21 : decode cX10_sumIn 21 = .ok (.istore_n 2, 1) := by decide +kernel
theorem dX10_sumIn_22 : decode cX10_sumIn 22 = .ok (.iinc 3 1, 3) := by decide +kernel
theorem dX10_sumIn_25 : decode cX10_sumIn 25 = .ok (.goto (-21), 3) := by decide +kernel
set_option maxHeartbeats 4000000 in
set_option maxRecDepth 100000 in
theorem k_X10_sumIn_0 (l : Launch) (V : GV) (z : Nat → Nat) (a1 : Int32) (pz0_0 : Int32) (pz0_5 : Int32) (pz0_6 : Int32) (pz0_7 : Int32) (pz0_8 : Int32) (pz0_9 : Int32) (pz0_10 : Int32) (pz0_11 : Int32) (pz0_12 : Int32) (pz0_13 : Int32) (pz0_14 : Int32) (pz0_18 : Int32) (pz0_19 : Int32) (pz0_22 : Int32) (pz0_23 : Int32) (pz0_29 : Int32) (fz1 : Nat → Int32) (ba1 : iv 0 9999 a1) (bpz0_5 : iv 0 900 pz0_5) (bpz0_6 : iv 0 900 pz0_6) (bpz0_7 : iv 0 900 pz0_7) (bpz0_8 : iv 0 900 pz0_8) (bpz0_10 : iv 0 999 pz0_10) (bpz0_11 : iv 0 4 pz0_11) (bpz0_12 : iv 0 900 pz0_12) (bpz0_13 : iv 0 4 pz0_13) (bpz0_14 : iv (-1) 900 pz0_14) (bpz0_18 : iv 0 2 pz0_18) (bpz0_22 : iv 0 9999 pz0_22) (bpz0_29 : iv 0 10000 pz0_29) (tfz1 : ivT tA fz1) : Ct l V yX10_sumIn (.code yX10_sumIn cX10_sumIn 4 (some .int)) 3 [.ref (z 0), .int a1] [(z 0, .inr (10, mo z pz0_0 pz0_5 pz0_6 pz0_7 pz0_8 pz0_9 pz0_10 pz0_11 pz0_12 pz0_13 pz0_14 pz0_18 pz0_19 pz0_22 pz0_23 pz0_29)), (z 1, aI V 3075 fz1)] 0 0 (QI V (fun (r : Int32) (w : va_W) => w = [(z 0, .inr (10, mo z pz0_0 pz0_5 pz0_6 pz0_7 pz0_8 pz0_9 pz0_10 pz0_11 pz0_12 pz0_13 pz0_14 pz0_18 pz0_19 pz0_22 pz0_23 pz0_29)), (z 1, aI V 3075 fz1)])) := by
  refine Ct.of (by decide) (Nat.le_of_ble_eq_true rfl) (fun p e s m below meth c A ls hx hb hr hml hown hlk hnm hg hP hK hD hE hA hS hl => ?_)
  have hl : lv_has ls 4 [(0, .ref (z 0)), (1, .int a1)] := hl
  refine lv_iconst (v := 0) hx hb dX10_sumIn_0 (by decide) ?_
  refine lv_istore_n (lv' := [(2, .int 0), (0, .ref (z 0)), (1, .int a1)]) hx hb dX10_sumIn_1 rfl hl (by decide) rfl (fun ls hl => ?_)
  refine lv_iconst (v := 0) hx hb dX10_sumIn_2 (by decide) ?_
  refine lv_istore_n (lv' := [(3, .int 0), (2, .int 0), (0, .ref (z 0)), (1, .int a1)]) hx hb dX10_sumIn_3 rfl hl (by decide) rfl (fun ls hl => ?_)
  refine loopF (X := fun (n_3 : Nat) (H : Heap) (locs : List Loc) (ls : Array Slot) => ∃ (u_1 : Int32) (u_2 : Int32), (iv 0 2147483647 u_1) ∧ n_3 = (2147483647 - (u_1 : Int32).toInt).toNat ∧ va_P V.1 vwCl [(z 0, .inr (10, mo z pz0_0 pz0_5 pz0_6 pz0_7 pz0_8 pz0_9 pz0_10 pz0_11 pz0_12 pz0_13 pz0_14 pz0_18 pz0_19 pz0_22 pz0_23 pz0_29)), (z 1, aI V 3075 fz1)] H ∧ va_D A [(z 0, .inr (10, mo z pz0_0 pz0_5 pz0_6 pz0_7 pz0_8 pz0_9 pz0_10 pz0_11 pz0_12 pz0_13 pz0_14 pz0_18 pz0_19 pz0_22 pz0_23 pz0_29)), (z 1, aI V 3075 fz1)] ∧ va_S A s.heap H locs ∧ lv_has ls 4 [(3, .int u_1), (2, .int u_2), (0, .ref (z 0)), (1, .int a1)]) (g := fun ls => F0 m 4 ls []) (fun n_3 H locs ls hX ihn_3 => ?_) _ ⟨0, 0, (iv_c (0 : Int32) (by decide)), rfl, hP, hD, hS, lv_sub hl [0, 1, 2, 3] rfl⟩
  obtain ⟨u_1, u_2, bu_1, en_3, hP, hD, hS, hl⟩ := hX
  refine lv_iload_n hx hb dX10_sumIn_4 rfl (lv_at hl 0 rfl) ?_
  refine lv_aload_n hx hb dX10_sumIn_5 rfl (lv_at hl 2 rfl) ?_
  refine va_get (ci := 10) (v := .ref (z 1)) (C := RX10) (T := TX10) (N := 40) hx hb hg inX10 hown hK hP 0 rfl rfl 1 (by decide) (hg _ q_5_225) (fun _ h9 => h9) rfl dX10_sumIn_6 ?_
  refine lv_iconst (v := 1) hx hb dX10_sumIn_9 (by decide) ?_
  refine va_iald hx hb hK hP 1 0 rfl rfl (vin (by decide +kernel)) dX10_sumIn_10 ?_
  refine lv_topi (fun x_4 ex_4 => ?_)
  have bx_4 : iv 0 4 x_4 := by rw [ex_4]; exact rdT (a := 1) (n := 1) tfz1 (iv_c (1 : Int32) (a := 1) (b := 1) (by decide)) (by decide) (by decide +kernel)
  refine lv_icmp_ge (tgt := 28) hx hb dX10_sumIn_11 (by decide) (fun c_5 => ?_) (fun c_5 => ?_)
  · refine lv_iload_n hx hb dX10_sumIn_28 rfl (lv_at hl 1 rfl) ?_
    exact fiI hx hb hr hlk hK hP hD hS dX10_sumIn_29 (Nat.le_of_ble_eq_true rfl) (Nat.le_of_ble_eq_true rfl) (rfl)
  · have b_6 : iv 0 3 u_1 := iv_l1 (Int32.not_le.mp c_5) bu_1 bx_4 (by decide)
    have b_7 : iv 1 4 x_4 := iv_l2 (Int32.not_le.mp c_5) bu_1 bx_4 (by decide)
    refine lv_iload_n hx hb dX10_sumIn_14 rfl (lv_at hl 1 rfl) ?_
    refine lv_iload_n hx hb dX10_sumIn_15 rfl (lv_at hl 3 rfl) ?_
    refine lv_iload_n hx hb dX10_sumIn_16 rfl (lv_at hl 0 rfl) ?_
    refine jnI (wr := [(z 0, .inr (10, mo z pz0_0 pz0_5 pz0_6 pz0_7 pz0_8 pz0_9 pz0_10 pz0_11 pz0_12 pz0_13 pz0_14 pz0_18 pz0_19 pz0_22 pz0_23 pz0_29)), (z 1, aI V 3075 fz1)]) (rnS (rest := [.int u_2]) ⟨hx, hb, hml, hown, hg⟩ (k_X10_stackIn_0 l V a1 u_1 ba1 b_6) mt_X10_stackIn q_7_26 ⟨Nat.le_of_ble_eq_true rfl, Nat.le_of_ble_eq_true rfl⟩ hK hP hD hS hA hE [] rfl rfl rfl hl.1 rfl (Nat.le_of_ble_eq_true rfl) dX10_sumIn_17 ⟨Nat.le_of_ble_eq_true rfl, Nat.le_of_ble_eq_true rfl⟩) hP hD hS hA [] [0, 1] rfl rfl rfl (by decide) (fun r_8 w H locs hw hP hD hS => ?_)
    obtain ⟨br_8, er_8, rfl⟩ := hw
    have hP : va_P V.1 vwCl [(z 0, .inr (10, mo z pz0_0 pz0_5 pz0_6 pz0_7 pz0_8 pz0_9 pz0_10 pz0_11 pz0_12 pz0_13 pz0_14 pz0_18 pz0_19 pz0_22 pz0_23 pz0_29)), (z 1, aI V 3075 fz1)] H := hP
    have hD : va_D A [(z 0, .inr (10, mo z pz0_0 pz0_5 pz0_6 pz0_7 pz0_8 pz0_9 pz0_10 pz0_11 pz0_12 pz0_13 pz0_14 pz0_18 pz0_19 pz0_22 pz0_23 pz0_29)), (z 1, aI V 3075 fz1)] := hD
    refine lv_iadd hx hb dX10_sumIn_20 ?_
    refine lv_topi (fun x_9 ex_9 => ?_)
    refine lv_istore_n (lv' := [(2, .int x_9), (3, .int u_1), (0, .ref (z 0)), (1, .int a1)]) hx hb dX10_sumIn_21 rfl hl (by decide) rfl (fun ls hl => ?_)
    obtain ⟨x_10, ex_10⟩ : ∃ z9 : Int32, z9 = u_1 + 1 := ⟨_, rfl⟩
    have bx_10 : iv 1 4 x_10 := by rw [ex_10]; exact iv_add b_6 (iv_c (1 : Int32) (a := 1) (b := 1) (by decide)) (by decide)
    refine lv_iinc (v := x_10) (lv' := [(3, .int x_10), (2, .int x_9), (0, .ref (z 0)), (1, .int a1)]) hx hb dX10_sumIn_22 hl (k := 1) rfl (by rw [ex_10]; rfl) (by decide) rfl (fun ls hl => ?_)
    refine lv_goto (tgt := 4) hx hb dX10_sumIn_25 (by decide) ?_
    exact ihn_3 _ _ _ _ (by rw [en_3, ex_10]; exact mu_up b_6 (by decide)) ⟨x_10, x_9, (iv_w bx_10 (by decide)), rfl, hP, hD, hS, lv_sub hl [0, 1, 2, 3] rfl⟩
theorem dX10_judge_0 : decode cX10_judge 0 = .ok (.aload_n 0, 1) := by decide +kernel
theorem dX10_judge_1 : decode cX10_judge 1 = .ok (.iconst 0, 1) := by decide +kernel
theorem dX10_judge_2 : decode cX10_judge 2 = .ok (.putfield 1, 3) := by decide +kernel
theorem dX10_judge_5 : decode cX10_judge 5 = .ok (.iload_n 2, 1) := by decide +kernel
theorem dX10_judge_6 : decode cX10_judge 6 = .ok (.i2l, 1) := by decide +kernel
theorem dX10_judge_7 : decode cX10_judge 7 = .ok (.lconst 0, 1) := by decide +kernel
theorem dX10_judge_8 : decode cX10_judge 8 = .ok (.ldc2_w 315, 3) := by decide +kernel
theorem dX10_judge_11 : decode cX10_judge 11 = .ok (.invokestatic 159, 3) := by decide +kernel
theorem dX10_judge_14 : decode cX10_judge 14 = .ok (.ifCond .ne 6, 3) := by decide +kernel
theorem dX10_judge_20 : decode cX10_judge 20 = .ok (.aload_n 0, 1) := by decide +kernel
theorem dX10_judge_21 : decode cX10_judge 21 = .ok (.iload_n 1, 1) := by decide +kernel
theorem q_7_111 : Cond.code yX10_noTray prog_12_method_70_code 2 (some FieldType.int) ∈ gw := gw_7 (i := 111) (rfl) rfl
theorem q_7_110 : Cond.instanceMethod yX10_noTray ∈ gw := gw_7 (i := 110) (by decide +kernel) rfl
theorem q_s_93 : Cond.selects "BeaconDelayModel" yX10_noTray yX10_noTray ∈ gw := gw_s (i := 93) (by decide +kernel) rfl
theorem mt_X10_noTray : MtV yX10_noTray cX10_noTray 2 (some .int) 1 := ⟨⟨q_7_111, q_1_9, by decide +kernel, by decide +kernel, by decide +kernel⟩, q_7_110, q_s_93⟩
theorem q_7_108 : Cond.methodLink "BeaconDelayModel" 317 yX10_noTray ∈ gw := gw_7 (i := 108) (by decide +kernel) rfl
theorem dX10_judge_22 : decode cX10_judge 22 = .ok (.invokevirtual 317, 3) := by decide +kernel
theorem dX10_judge_25 : decode cX10_judge 25 = .ok (.istore_n 3, 1) := by decide +kernel
theorem dX10_judge_26 : decode cX10_judge 26 = .ok (.iload_n 3, 1) := by decide +kernel
theorem dX10_judge_27 : decode cX10_judge 27 = .ok (.ifCond .eq 5, 3) := by decide +kernel
theorem dX10_judge_32 : decode cX10_judge 32 = .ok (.aload_n 0, 1) := by decide +kernel
theorem dX10_judge_33 : decode cX10_judge 33 = .ok (.invokevirtual 278, 3) := by decide +kernel
theorem dX10_judge_36 : decode cX10_judge 36 = .ok (.aload_n 0, 1) := by decide +kernel
theorem dX10_judge_37 : decode cX10_judge 37 = .ok (.iload_n 1, 1) := by decide +kernel
theorem q_7_115 : Cond.code yX10_tells prog_12_method_69_code 3 (some FieldType.int) ∈ gw := gw_7 (i := 115) (rfl) rfl
theorem q_7_114 : Cond.instanceMethod yX10_tells ∈ gw := gw_7 (i := 114) (by decide +kernel) rfl
theorem q_s_94 : Cond.selects "BeaconDelayModel" yX10_tells yX10_tells ∈ gw := gw_s (i := 94) (by decide +kernel) rfl
theorem mt_X10_tells : MtV yX10_tells cX10_tells 3 (some .int) 1 := ⟨⟨q_7_115, q_1_9, by decide +kernel, by decide +kernel, by decide +kernel⟩, q_7_114, q_s_94⟩
theorem q_7_112 : Cond.methodLink "BeaconDelayModel" 320 yX10_tells ∈ gw := gw_7 (i := 112) (by decide +kernel) rfl
theorem dX10_judge_38 : decode cX10_judge 38 = .ok (.invokevirtual 320, 3) := by decide +kernel
theorem dX10_judge_41 : decode cX10_judge 41 = .ok (.istore 4, 2) := by decide +kernel
theorem dX10_judge_43 : decode cX10_judge 43 = .ok (.aload_n 0, 1) := by decide +kernel
theorem dX10_judge_44 : decode cX10_judge 44 = .ok (.invokevirtual 269, 3) := by decide +kernel
theorem dX10_judge_47 : decode cX10_judge 47 = .ok (.istore 5, 2) := by decide +kernel
theorem dX10_judge_49 : decode cX10_judge 49 = .ok (.aload_n 0, 1) := by decide +kernel
theorem q_7_130 : Cond.code yX10_isAgain prog_12_method_57_code 2 none ∈ gw := gw_7 (i := 130) (rfl) rfl
theorem q_7_129 : Cond.instanceMethod yX10_isAgain ∈ gw := gw_7 (i := 129) (by decide +kernel) rfl
theorem q_s_97 : Cond.selects "BeaconDelayModel" yX10_isAgain yX10_isAgain ∈ gw := gw_s (i := 97) (by decide +kernel) rfl
theorem mt_X10_isAgain : MtV yX10_isAgain cX10_isAgain 2 none 0 := ⟨⟨q_7_130, q_1_9, by decide +kernel, by decide +kernel, by decide +kernel⟩, q_7_129, q_s_97⟩
theorem q_7_127 : Cond.methodLink "BeaconDelayModel" 323 yX10_isAgain ∈ gw := gw_7 (i := 127) (by decide +kernel) rfl
theorem dX10_judge_50 : decode cX10_judge 50 = .ok (.invokevirtual 323, 3) := by decide +kernel
theorem dX10_judge_53 : decode cX10_judge 53 = .ok (.iload_n 2, 1) := by decide +kernel
theorem dX10_judge_54 : decode cX10_judge 54 = .ok (.ifCond .ne 19, 3) := by decide +kernel
theorem dX10_judge_73 : decode cX10_judge 73 = .ok (.iload_n 2, 1) := by decide +kernel
theorem dX10_judge_74 : decode cX10_judge 74 = .ok (.iconst 1, 1) := by decide +kernel
theorem dX10_judge_75 : decode cX10_judge 75 = .ok (.if_icmp .ne 10, 3) := by decide +kernel
theorem dX10_judge_85 : decode cX10_judge 85 = .ok (.iload_n 2, 1) := by decide +kernel
theorem dX10_judge_86 : decode cX10_judge 86 = .ok (.iconst 2, 1) := by decide +kernel
theorem dX10_judge_87 : decode cX10_judge 87 = .ok (.if_icmp .ne 12, 3) := by decide +kernel
theorem dX10_judge_99 : decode cX10_judge 99 = .ok (.iload 5, 2) := by decide +kernel
theorem dX10_judge_101 : decode cX10_judge 101 = .ok (.invokestatic 234, 3) := by decide +kernel
theorem dX10_judge_104 : decode cX10_judge 104 = .ok (.ireturn, 1) := by decide +kernel
theorem dX10_judge_90 : decode cX10_judge 90 = .ok (.aload_n 0, 1) := by decide +kernel
theorem dX10_judge_91 : decode cX10_judge 91 = .ok (.iload 5, 2) := by decide +kernel
theorem q_7_134 : Cond.code yX10_sumIn prog_12_method_43_code 4 (some FieldType.int) ∈ gw := gw_7 (i := 134) (rfl) rfl
theorem q_7_133 : Cond.instanceMethod yX10_sumIn ∈ gw := gw_7 (i := 133) (by decide +kernel) rfl
theorem q_s_98 : Cond.selects "BeaconDelayModel" yX10_sumIn yX10_sumIn ∈ gw := gw_s (i := 98) (by decide +kernel) rfl
theorem mt_X10_sumIn : MtV yX10_sumIn cX10_sumIn 4 (some .int) 1 := ⟨⟨q_7_134, q_1_9, by decide +kernel, by decide +kernel, by decide +kernel⟩, q_7_133, q_s_98⟩
theorem q_7_131 : Cond.methodLink "BeaconDelayModel" 326 yX10_sumIn ∈ gw := gw_7 (i := 131) (by decide +kernel) rfl
theorem dX10_judge_93 : decode cX10_judge 93 = .ok (.invokevirtual 326, 3) := by decide +kernel
theorem dX10_judge_96 : decode cX10_judge 96 = .ok (.goto 8, 3) := by decide +kernel
theorem dX10_judge_78 : decode cX10_judge 78 = .ok (.aload_n 0, 1) := by decide +kernel
theorem dX10_judge_79 : decode cX10_judge 79 = .ok (.getfield 306, 3) := by decide +kernel
theorem dX10_judge_82 : decode cX10_judge 82 = .ok (.goto 22, 3) := by decide +kernel
theorem dX10_judge_57 : decode cX10_judge 57 = .ok (.aload_n 0, 1) := by decide +kernel
theorem dX10_judge_58 : decode cX10_judge 58 = .ok (.getfield 306, 3) := by decide +kernel
theorem dX10_judge_61 : decode cX10_judge 61 = .ok (.ifCond .ne 7, 3) := by decide +kernel
theorem dX10_judge_68 : decode cX10_judge 68 = .ok (.iload 4, 2) := by decide +kernel
theorem dX10_judge_70 : decode cX10_judge 70 = .ok (.goto 34, 3) := by decide +kernel
theorem dX10_judge_64 : decode cX10_judge 64 = .ok (.iconst (-1), 1) := by decide +kernel
theorem dX10_judge_65 : decode cX10_judge 65 = .ok (.goto 39, 3) := by decide +kernel
theorem dX10_judge_30 : decode cX10_judge 30 = .ok (.iload_n 3, 1) := by decide +kernel
theorem dX10_judge_31 : decode cX10_judge 31 = .ok (.ireturn, 1) := by decide +kernel
theorem dX10_judge_17 : decode cX10_judge 17 = .ok (.bipush (-2), 2) := by decide +kernel
theorem dX10_judge_19 : decode cX10_judge 19 = .ok (.ireturn, 1) := by decide +kernel
set_option maxHeartbeats 4000000 in
set_option maxRecDepth 100000 in
theorem k_X10_judge_0 (l : Launch) (V : GV) (z : Nat → Nat) (a1 : Int32) (a2 : Int32) (pz0_0 : Int32) (pz0_5 : Int32) (pz0_6 : Int32) (pz0_7 : Int32) (pz0_8 : Int32) (pz0_9 : Int32) (pz0_10 : Int32) (pz0_11 : Int32) (pz0_12 : Int32) (pz0_13 : Int32) (pz0_14 : Int32) (pz0_18 : Int32) (pz0_19 : Int32) (pz0_22 : Int32) (pz0_23 : Int32) (pz0_29 : Int32) (fz1 : Nat → Int32) (fz15 : Nat → Int32) (fz16 : Nat → Int32) (fz17 : Nat → Int32) (fz37 : Nat → Int32) (fz38 : Nat → Int32) (fz39 : Nat → Int64) (bpz0_5 : iv 0 900 pz0_5) (bpz0_6 : iv 0 900 pz0_6) (bpz0_7 : iv 0 900 pz0_7) (bpz0_8 : iv 0 900 pz0_8) (bpz0_10 : iv 0 999 pz0_10) (bpz0_11 : iv 0 4 pz0_11) (bpz0_12 : iv 0 900 pz0_12) (bpz0_13 : iv 0 4 pz0_13) (bpz0_14 : iv (-1) 900 pz0_14) (bpz0_18 : iv 0 2 pz0_18) (bpz0_22 : iv 0 9999 pz0_22) (bpz0_29 : iv 0 10000 pz0_29) (tfz1 : ivT tA fz1) (tfz16 : ivT tW fz16) (tfz17 : ivT tS fz17) (tfz37 : ∀ j, iv (-1) 3 (fz37 j)) (tfz38 : ∀ j, iv 0 40 (fz38 j)) (hf0 : RW fz1) : Ct l V yX10_judge (.code yX10_judge cX10_judge 6 (some .int)) 8 [.ref (z 0), .int a1, .int a2] [(z 0, .inr (10, mo z pz0_0 pz0_5 pz0_6 pz0_7 pz0_8 pz0_9 pz0_10 pz0_11 pz0_12 pz0_13 pz0_14 pz0_18 pz0_19 pz0_22 pz0_23 pz0_29)), (z 1, aI V 3075 fz1), (z 15, aI V 900 fz15), (z 16, aI V 6 fz16), (z 17, aI V 7 fz17), (z 37, aI V 4 fz37), (z 38, aI V 4 fz38), (z 39, aJ V 160 fz39)] 0 0 (QI V (fun (r : Int32) (w : va_W) => ∃ (v0 : Int32) (v1 : Int32) (g2 : Nat → Int32) (g3 : Nat → Int32) (g4 : Nat → Int32) (g5 : Nat → Int32), iv 0 2 v1 ∧ (ivT tA g2) ∧ (ivT tW g4) ∧ (ivT tS g5) ∧ (RW g2) ∧ w = [(z 0, .inr (10, mo z v0 pz0_5 pz0_6 pz0_7 pz0_8 pz0_9 pz0_10 pz0_11 pz0_12 pz0_13 pz0_14 v1 pz0_19 pz0_22 pz0_23 pz0_29)), (z 1, aI V 3075 g2), (z 15, aI V 900 g3), (z 16, aI V 6 g4), (z 17, aI V 7 g5), (z 37, aI V 4 fz37), (z 38, aI V 4 fz38), (z 39, aJ V 160 fz39)])) := by
  refine Ct.of (by decide) (Nat.le_of_ble_eq_true rfl) (fun p e s m below meth c A ls hx hb hr hml hown hlk hnm hg hP hK hD hE hA hS hl => ?_)
  have hl : lv_has ls 6 [(0, .ref (z 0)), (1, .int a1), (2, .int a2)] := hl
  refine lv_aload_n hx hb dX10_judge_0 rfl (lv_at hl 0 rfl) ?_
  refine lv_iconst (v := 0) hx hb dX10_judge_1 (by decide) ?_
  refine va_put (ci := 10) (v := .int 0) (ty := .int) (C := RX10) (T := TX10) (N := 40) hx hb hg inX10 tyX10 tyX10_ok nmX10 hown hK hP hD hS 0 rfl rfl 0 (by decide) (hg _ q_5_224) (fun _ h9 => h9) rfl (by decide +kernel) rfl rfl (Nat.le_of_ble_eq_true rfl) dX10_judge_2 (fun H locs hP hD hS => ?_)
  have hP : va_P V.1 vwCl [(z 0, .inr (10, mo z 0 pz0_5 pz0_6 pz0_7 pz0_8 pz0_9 pz0_10 pz0_11 pz0_12 pz0_13 pz0_14 pz0_18 pz0_19 pz0_22 pz0_23 pz0_29)), (z 1, aI V 3075 fz1), (z 15, aI V 900 fz15), (z 16, aI V 6 fz16), (z 17, aI V 7 fz17), (z 37, aI V 4 fz37), (z 38, aI V 4 fz38), (z 39, aJ V 160 fz39)] H := hP
  have hD : va_D A [(z 0, .inr (10, mo z 0 pz0_5 pz0_6 pz0_7 pz0_8 pz0_9 pz0_10 pz0_11 pz0_12 pz0_13 pz0_14 pz0_18 pz0_19 pz0_22 pz0_23 pz0_29)), (z 1, aI V 3075 fz1), (z 15, aI V 900 fz15), (z 16, aI V 6 fz16), (z 17, aI V 7 fz17), (z 37, aI V 4 fz37), (z 38, aI V 4 fz38), (z 39, aJ V 160 fz39)] := hD
  refine lv_iload_n hx hb dX10_judge_5 rfl (lv_at hl 2 rfl) ?_
  refine lv_i2l hx hb dX10_judge_6 rfl ?_
  refine lv_topl (fun j_1 ej_1 => ?_)
  refine lv_lconst (v := 0) hx hb dX10_judge_7 (by decide) ?_
  refine lv_ldc2 (v := 3) hx hb hown (hg _ q_7_107) dX10_judge_8 ?_
  refine jnI (wr := [(z 0, .inr (10, mo z 0 pz0_5 pz0_6 pz0_7 pz0_8 pz0_9 pz0_10 pz0_11 pz0_12 pz0_13 pz0_14 pz0_18 pz0_19 pz0_22 pz0_23 pz0_29)), (z 1, aI V 3075 fz1), (z 15, aI V 900 fz15), (z 16, aI V 6 fz16), (z 17, aI V 7 fz17), (z 37, aI V 4 fz37), (z 38, aI V 4 fz38), (z 39, aJ V 160 fz39)]) (rnS (rest := []) ⟨hx, hb, hml, hown, hg⟩ (k_X10_within_0 l V j_1 0 3) mt_X10_within q_6_114 ⟨Nat.le_of_ble_eq_true rfl, Nat.le_of_ble_eq_true rfl⟩ hK hP hD hS hA hE [] rfl rfl rfl hl.1 rfl (Nat.le_of_ble_eq_true rfl) dX10_judge_11 ⟨Nat.le_of_ble_eq_true rfl, Nat.le_of_ble_eq_true rfl⟩) hP hD hS hA [] [0, 1, 2, 3, 4, 5, 6, 7] rfl rfl rfl (by decide) (fun r_2 w H locs hw hP hD hS => ?_)
  obtain ⟨br_2, g_3, g_4, g_5, rfl⟩ := hw
  have hP : va_P V.1 vwCl [(z 0, .inr (10, mo z 0 pz0_5 pz0_6 pz0_7 pz0_8 pz0_9 pz0_10 pz0_11 pz0_12 pz0_13 pz0_14 pz0_18 pz0_19 pz0_22 pz0_23 pz0_29)), (z 1, aI V 3075 fz1), (z 15, aI V 900 fz15), (z 16, aI V 6 fz16), (z 17, aI V 7 fz17), (z 37, aI V 4 fz37), (z 38, aI V 4 fz38), (z 39, aJ V 160 fz39)] H := hP
  have hD : va_D A [(z 0, .inr (10, mo z 0 pz0_5 pz0_6 pz0_7 pz0_8 pz0_9 pz0_10 pz0_11 pz0_12 pz0_13 pz0_14 pz0_18 pz0_19 pz0_22 pz0_23 pz0_29)), (z 1, aI V 3075 fz1), (z 15, aI V 900 fz15), (z 16, aI V 6 fz16), (z 17, aI V 7 fz17), (z 37, aI V 4 fz37), (z 38, aI V 4 fz38), (z 39, aJ V 160 fz39)] := hD
  refine lv_if_ne (tgt := 20) hx hb dX10_judge_14 (by decide) (fun c_6 => ?_) (fun c_6 => ?_)
  · have b_7 : iv 1 1 r_2 := iv_n0 c_6 br_2 (iv_c (0 : Int32) (a := 0) (b := 0) (by decide)) (by decide)
    have c_8 : (0 : Int64) ≤ j_1 := (g_4 (iv_eqp b_7 (iv_c (1 : Int32) (by decide))))
    have b_9 : ivL 0 9223372036854775807 j_1 := ivL_e2 c_8 (ivL_c (0 : Int64) (a := 0) (b := 0) (by decide)) (ivL_top j_1) (by decide)
    have b_10 : iv 0 2147483647 a2 := iv_cap (ivL_i ej_1 b_9) (iv_top a2) (by decide)
    have c_11 : j_1 ≤ 3 := (g_5 (iv_eqp b_7 (iv_c (1 : Int32) (by decide))))
    have b_12 : ivL 0 3 j_1 := ivL_e1 c_11 b_9 (ivL_c (3 : Int64) (a := 3) (b := 3) (by decide)) (by decide)
    have b_13 : iv 0 3 a2 := iv_cap (ivL_i ej_1 b_12) b_10 (by decide)
    refine lv_aload_n hx hb dX10_judge_20 rfl (lv_at hl 0 rfl) ?_
    refine lv_iload_n hx hb dX10_judge_21 rfl (lv_at hl 1 rfl) ?_
    refine jnI (wr := [(z 1, aI V 3075 fz1), (z 15, aI V 900 fz15), (z 16, aI V 6 fz16), (z 17, aI V 7 fz17), (z 38, aI V 4 fz38), (z 39, aJ V 160 fz39)]) (rnV (rest := []) ⟨hx, hb, hml, hown, hg⟩ (k_X10_noTray_0 l V z a1 0 pz0_5 pz0_6 pz0_7 pz0_8 pz0_9 pz0_10 pz0_11 pz0_12 pz0_13 pz0_14 pz0_18 pz0_19 pz0_22 pz0_23 pz0_29 fz37 bpz0_5 bpz0_6 bpz0_7 bpz0_8 bpz0_10 bpz0_11 bpz0_12 bpz0_13 bpz0_14 bpz0_18 bpz0_22 bpz0_29 tfz37) mt_X10_noTray q_7_108 ⟨Nat.le_of_ble_eq_true rfl, Nat.le_of_ble_eq_true rfl⟩ hK hP hD hS hA hE [0, 5] rfl rfl 0 rfl rfl rfl rfl hl.1 rfl (Nat.le_of_ble_eq_true rfl) dX10_judge_22 ⟨Nat.le_of_ble_eq_true rfl, Nat.le_of_ble_eq_true rfl⟩) hP hD hS hA [0, 5] [1, 2, 3, 4, 6, 7] rfl rfl rfl (by decide) (fun r_14 w H locs hw hP hD hS => ?_)
    obtain ⟨br_14, g_15, rfl⟩ := hw
    have hP : va_P V.1 vwCl [(z 1, aI V 3075 fz1), (z 15, aI V 900 fz15), (z 16, aI V 6 fz16), (z 17, aI V 7 fz17), (z 38, aI V 4 fz38), (z 39, aJ V 160 fz39), (z 0, .inr (10, mo z 0 pz0_5 pz0_6 pz0_7 pz0_8 pz0_9 pz0_10 pz0_11 pz0_12 pz0_13 pz0_14 pz0_18 pz0_19 pz0_22 pz0_23 pz0_29)), (z 37, aI V 4 fz37)] H := hP
    have hD : va_D A [(z 1, aI V 3075 fz1), (z 15, aI V 900 fz15), (z 16, aI V 6 fz16), (z 17, aI V 7 fz17), (z 38, aI V 4 fz38), (z 39, aJ V 160 fz39), (z 0, .inr (10, mo z 0 pz0_5 pz0_6 pz0_7 pz0_8 pz0_9 pz0_10 pz0_11 pz0_12 pz0_13 pz0_14 pz0_18 pz0_19 pz0_22 pz0_23 pz0_29)), (z 37, aI V 4 fz37)] := hD
    refine lv_istore_n (lv' := [(3, .int r_14), (0, .ref (z 0)), (1, .int a1), (2, .int a2)]) hx hb dX10_judge_25 rfl hl (by decide) rfl (fun ls hl => ?_)
    refine lv_iload_n hx hb dX10_judge_26 rfl (lv_at hl 0 rfl) ?_
    refine lv_if_eq (tgt := 32) hx hb dX10_judge_27 (by decide) (fun c_16 => ?_) (fun c_16 => ?_)
    · have b_17 : iv 0 0 r_14 := iv_q c_16 (iv_c (0 : Int32) (a := 0) (b := 0) (by decide))
      have b_18 : iv 0 3 a1 := iv_cap (g_15 (iv_eqp b_17 (iv_c (0 : Int32) (by decide)))) (iv_top a1) (by decide)
      refine lv_aload_n hx hb dX10_judge_32 rfl (lv_at hl 1 rfl) ?_
      refine jnV (wr := [(z 15, aI V 900 fz15), (z 16, aI V 6 fz16), (z 38, aI V 4 fz38), (z 39, aJ V 160 fz39), (z 37, aI V 4 fz37)]) (rnV (rest := []) ⟨hx, hb, hml, hown, hg⟩ (k_X10_stores_0 l V z fz17 0 pz0_5 pz0_6 pz0_7 pz0_8 pz0_9 pz0_10 pz0_11 pz0_12 pz0_13 pz0_14 pz0_18 pz0_19 pz0_22 pz0_23 pz0_29 fz1 tfz17 bpz0_5 bpz0_6 bpz0_7 bpz0_8 bpz0_10 bpz0_11 bpz0_12 bpz0_13 bpz0_14 bpz0_18 bpz0_22 bpz0_29 tfz1) mt_X10_stores q_7_60 ⟨Nat.le_of_ble_eq_true rfl, Nat.le_of_ble_eq_true rfl⟩ hK hP hD hS hA hE [3, 6, 0] rfl rfl 6 rfl rfl rfl rfl hl.1 rfl (Nat.le_of_ble_eq_true rfl) dX10_judge_33 ⟨Nat.le_of_ble_eq_true rfl, Nat.le_of_ble_eq_true rfl⟩) hP hD hS hA [3, 6, 0] [1, 2, 4, 5, 7] rfl rfl rfl (by decide) (fun  w H locs hw hP hD hS => ?_)
      obtain ⟨f_19, tf_19, rfl⟩ := hw
      have hP : va_P V.1 vwCl [(z 15, aI V 900 fz15), (z 16, aI V 6 fz16), (z 38, aI V 4 fz38), (z 39, aJ V 160 fz39), (z 37, aI V 4 fz37), (z 17, aI V 7 f_19), (z 0, .inr (10, mo z 0 pz0_5 pz0_6 pz0_7 pz0_8 pz0_9 pz0_10 pz0_11 pz0_12 pz0_13 pz0_14 pz0_18 pz0_19 pz0_22 pz0_23 pz0_29)), (z 1, aI V 3075 fz1)] H := hP
      have hD : va_D A [(z 15, aI V 900 fz15), (z 16, aI V 6 fz16), (z 38, aI V 4 fz38), (z 39, aJ V 160 fz39), (z 37, aI V 4 fz37), (z 17, aI V 7 f_19), (z 0, .inr (10, mo z 0 pz0_5 pz0_6 pz0_7 pz0_8 pz0_9 pz0_10 pz0_11 pz0_12 pz0_13 pz0_14 pz0_18 pz0_19 pz0_22 pz0_23 pz0_29)), (z 1, aI V 3075 fz1)] := hD
      refine lv_aload_n hx hb dX10_judge_36 rfl (lv_at hl 1 rfl) ?_
      refine lv_iload_n hx hb dX10_judge_37 rfl (lv_at hl 2 rfl) ?_
      refine jnI (wr := [(z 37, aI V 4 fz37), (z 17, aI V 7 f_19)]) (rnV (rest := []) ⟨hx, hb, hml, hown, hg⟩ (k_X10_tells_0 l V z a1 fz15 fz16 fz38 fz39 0 pz0_5 pz0_6 pz0_7 pz0_8 pz0_9 pz0_10 pz0_11 pz0_12 pz0_13 pz0_14 pz0_18 pz0_19 pz0_22 pz0_23 pz0_29 fz1 b_18 tfz16 tfz38 bpz0_5 bpz0_6 bpz0_7 bpz0_8 bpz0_10 bpz0_11 bpz0_12 bpz0_13 bpz0_14 bpz0_18 bpz0_22 bpz0_29 tfz1 hf0) mt_X10_tells q_7_112 ⟨Nat.le_of_ble_eq_true rfl, Nat.le_of_ble_eq_true rfl⟩ hK hP hD hS hA hE [0, 1, 2, 3, 6, 7] rfl rfl 6 rfl rfl rfl rfl hl.1 rfl (Nat.le_of_ble_eq_true rfl) dX10_judge_38 ⟨Nat.le_of_ble_eq_true rfl, Nat.le_of_ble_eq_true rfl⟩) hP hD hS hA [0, 1, 2, 3, 6, 7] [4, 5] rfl rfl rfl (by decide) (fun r_20 w H locs hw hP hD hS => ?_)
      obtain ⟨f_21, f_22, v_23, f_24, tf_22, bv_23, tf_24, br_20, g_25, rfl⟩ := hw
      have hP : va_P V.1 vwCl [(z 37, aI V 4 fz37), (z 17, aI V 7 f_19), (z 15, aI V 900 f_21), (z 16, aI V 6 f_22), (z 38, aI V 4 fz38), (z 39, aJ V 160 fz39), (z 0, .inr (10, mo z 0 pz0_5 pz0_6 pz0_7 pz0_8 pz0_9 pz0_10 pz0_11 pz0_12 pz0_13 pz0_14 v_23 pz0_19 pz0_22 pz0_23 pz0_29)), (z 1, aI V 3075 f_24)] H := hP
      have hD : va_D A [(z 37, aI V 4 fz37), (z 17, aI V 7 f_19), (z 15, aI V 900 f_21), (z 16, aI V 6 f_22), (z 38, aI V 4 fz38), (z 39, aJ V 160 fz39), (z 0, .inr (10, mo z 0 pz0_5 pz0_6 pz0_7 pz0_8 pz0_9 pz0_10 pz0_11 pz0_12 pz0_13 pz0_14 v_23 pz0_19 pz0_22 pz0_23 pz0_29)), (z 1, aI V 3075 f_24)] := hD
      refine lv_istore (lv' := [(4, .int r_20), (3, .int r_14), (0, .ref (z 0)), (1, .int a1), (2, .int a2)]) hx hb dX10_judge_41 hl (by decide) rfl (fun ls hl => ?_)
      refine lv_aload_n hx hb dX10_judge_43 rfl (lv_at hl 2 rfl) ?_
      refine jnI (wr := [(z 37, aI V 4 fz37), (z 17, aI V 7 f_19), (z 15, aI V 900 f_21), (z 16, aI V 6 f_22), (z 38, aI V 4 fz38), (z 39, aJ V 160 fz39)]) (rnV (rest := []) ⟨hx, hb, hml, hown, hg⟩ (k_X10_standNow_0 l V z 0 pz0_5 pz0_6 pz0_7 pz0_8 pz0_9 pz0_10 pz0_11 pz0_12 pz0_13 pz0_14 v_23 pz0_19 pz0_22 pz0_23 pz0_29 f_24 bpz0_5 bpz0_6 bpz0_7 bpz0_8 bpz0_10 bpz0_11 bpz0_12 bpz0_13 bpz0_14 bv_23 bpz0_22 bpz0_29 tf_24) mt_X10_standNow q_7_11 ⟨Nat.le_of_ble_eq_true rfl, Nat.le_of_ble_eq_true rfl⟩ hK hP hD hS hA hE [6, 7] rfl rfl 6 rfl rfl rfl rfl hl.1 rfl (Nat.le_of_ble_eq_true rfl) dX10_judge_44 ⟨Nat.le_of_ble_eq_true rfl, Nat.le_of_ble_eq_true rfl⟩) hP hD hS hA [6, 7] [0, 1, 2, 3, 4, 5] rfl rfl rfl (by decide) (fun r_26 w H locs hw hP hD hS => ?_)
      obtain ⟨br_26, er_26, rfl⟩ := hw
      have hP : va_P V.1 vwCl [(z 37, aI V 4 fz37), (z 17, aI V 7 f_19), (z 15, aI V 900 f_21), (z 16, aI V 6 f_22), (z 38, aI V 4 fz38), (z 39, aJ V 160 fz39), (z 0, .inr (10, mo z 0 pz0_5 pz0_6 pz0_7 pz0_8 pz0_9 pz0_10 pz0_11 pz0_12 pz0_13 pz0_14 v_23 pz0_19 pz0_22 pz0_23 pz0_29)), (z 1, aI V 3075 f_24)] H := hP
      have hD : va_D A [(z 37, aI V 4 fz37), (z 17, aI V 7 f_19), (z 15, aI V 900 f_21), (z 16, aI V 6 f_22), (z 38, aI V 4 fz38), (z 39, aJ V 160 fz39), (z 0, .inr (10, mo z 0 pz0_5 pz0_6 pz0_7 pz0_8 pz0_9 pz0_10 pz0_11 pz0_12 pz0_13 pz0_14 v_23 pz0_19 pz0_22 pz0_23 pz0_29)), (z 1, aI V 3075 f_24)] := hD
      refine lv_istore (lv' := [(5, .int r_26), (4, .int r_20), (3, .int r_14), (0, .ref (z 0)), (1, .int a1), (2, .int a2)]) hx hb dX10_judge_47 hl (by decide) rfl (fun ls hl => ?_)
      refine lv_aload_n hx hb dX10_judge_49 rfl (lv_at hl 3 rfl) ?_
      refine jnV (wr := [(z 37, aI V 4 fz37), (z 15, aI V 900 f_21), (z 16, aI V 6 f_22), (z 38, aI V 4 fz38), (z 39, aJ V 160 fz39)]) (rnV (rest := []) ⟨hx, hb, hml, hown, hg⟩ (k_X10_isAgain_0 l V z f_19 0 pz0_5 pz0_6 pz0_7 pz0_8 pz0_9 pz0_10 pz0_11 pz0_12 pz0_13 pz0_14 v_23 pz0_19 pz0_22 pz0_23 pz0_29 f_24 tf_19 bpz0_5 bpz0_6 bpz0_7 bpz0_8 bpz0_10 bpz0_11 bpz0_12 bpz0_13 bpz0_14 bv_23 bpz0_22 bpz0_29 tf_24 g_25) mt_X10_isAgain q_7_127 ⟨Nat.le_of_ble_eq_true rfl, Nat.le_of_ble_eq_true rfl⟩ hK hP hD hS hA hE [1, 6, 7] rfl rfl 6 rfl rfl rfl rfl hl.1 rfl (Nat.le_of_ble_eq_true rfl) dX10_judge_50 ⟨Nat.le_of_ble_eq_true rfl, Nat.le_of_ble_eq_true rfl⟩) hP hD hS hA [1, 6, 7] [0, 2, 3, 4, 5] rfl rfl rfl (by decide) (fun  w H locs hw hP hD hS => ?_)
      obtain ⟨f_27, tf_27, g_28, rfl⟩ := hw
      have hP : va_P V.1 vwCl [(z 37, aI V 4 fz37), (z 15, aI V 900 f_21), (z 16, aI V 6 f_22), (z 38, aI V 4 fz38), (z 39, aJ V 160 fz39), (z 17, aI V 7 f_19), (z 0, .inr (10, mo z 0 pz0_5 pz0_6 pz0_7 pz0_8 pz0_9 pz0_10 pz0_11 pz0_12 pz0_13 pz0_14 v_23 pz0_19 pz0_22 pz0_23 pz0_29)), (z 1, aI V 3075 f_27)] H := hP
      have hD : va_D A [(z 37, aI V 4 fz37), (z 15, aI V 900 f_21), (z 16, aI V 6 f_22), (z 38, aI V 4 fz38), (z 39, aJ V 160 fz39), (z 17, aI V 7 f_19), (z 0, .inr (10, mo z 0 pz0_5 pz0_6 pz0_7 pz0_8 pz0_9 pz0_10 pz0_11 pz0_12 pz0_13 pz0_14 v_23 pz0_19 pz0_22 pz0_23 pz0_29)), (z 1, aI V 3075 f_27)] := hD
      refine lv_iload_n hx hb dX10_judge_53 rfl (lv_at hl 5 rfl) ?_
      refine lv_if_ne (tgt := 73) hx hb dX10_judge_54 (by decide) (fun c_29 => ?_) (fun c_29 => ?_)
      · have b_30 : iv 1 3 a2 := iv_n0 c_29 b_13 (iv_c (0 : Int32) (a := 0) (b := 0) (by decide)) (by decide)
        refine lv_iload_n hx hb dX10_judge_73 rfl (lv_at hl 5 rfl) ?_
        refine lv_iconst (v := 1) hx hb dX10_judge_74 (by decide) ?_
        refine lv_icmp_ne (tgt := 85) hx hb dX10_judge_75 (by decide) (fun c_31 => ?_) (fun c_31 => ?_)
        · have b_32 : iv 2 3 a2 := iv_n0 c_31 b_30 (iv_c (1 : Int32) (a := 1) (b := 1) (by decide)) (by decide)
          refine lv_iload_n hx hb dX10_judge_85 rfl (lv_at hl 5 rfl) ?_
          refine lv_iconst (v := 2) hx hb dX10_judge_86 (by decide) ?_
          refine lv_icmp_ne (tgt := 99) hx hb dX10_judge_87 (by decide) (fun c_33 => ?_) (fun c_33 => ?_)
          · have b_34 : iv 3 3 a2 := iv_n0 c_33 b_32 (iv_c (2 : Int32) (a := 2) (b := 2) (by decide)) (by decide)
            refine lv_iload hx hb dX10_judge_99 (lv_at hl 0 rfl) ?_
            refine jnI (wr := [(z 37, aI V 4 fz37), (z 15, aI V 900 f_21), (z 16, aI V 6 f_22), (z 38, aI V 4 fz38), (z 39, aJ V 160 fz39), (z 17, aI V 7 f_19), (z 0, .inr (10, mo z 0 pz0_5 pz0_6 pz0_7 pz0_8 pz0_9 pz0_10 pz0_11 pz0_12 pz0_13 pz0_14 v_23 pz0_19 pz0_22 pz0_23 pz0_29)), (z 1, aI V 3075 f_27)]) (rnS (rest := []) ⟨hx, hb, hml, hown, hg⟩ (k_X10_tookIn_0 l V r_26 br_26) mt_X10_tookIn q_7_29 ⟨Nat.le_of_ble_eq_true rfl, Nat.le_of_ble_eq_true rfl⟩ hK hP hD hS hA hE [] rfl rfl rfl hl.1 rfl (Nat.le_of_ble_eq_true rfl) dX10_judge_101 ⟨Nat.le_of_ble_eq_true rfl, Nat.le_of_ble_eq_true rfl⟩) hP hD hS hA [] [0, 1, 2, 3, 4, 5, 6, 7] rfl rfl rfl (by decide) (fun r_35 w H locs hw hP hD hS => ?_)
            obtain ⟨br_35, rfl⟩ := hw
            have hP : va_P V.1 vwCl [(z 37, aI V 4 fz37), (z 15, aI V 900 f_21), (z 16, aI V 6 f_22), (z 38, aI V 4 fz38), (z 39, aJ V 160 fz39), (z 17, aI V 7 f_19), (z 0, .inr (10, mo z 0 pz0_5 pz0_6 pz0_7 pz0_8 pz0_9 pz0_10 pz0_11 pz0_12 pz0_13 pz0_14 v_23 pz0_19 pz0_22 pz0_23 pz0_29)), (z 1, aI V 3075 f_27)] H := hP
            have hD : va_D A [(z 37, aI V 4 fz37), (z 15, aI V 900 f_21), (z 16, aI V 6 f_22), (z 38, aI V 4 fz38), (z 39, aJ V 160 fz39), (z 17, aI V 7 f_19), (z 0, .inr (10, mo z 0 pz0_5 pz0_6 pz0_7 pz0_8 pz0_9 pz0_10 pz0_11 pz0_12 pz0_13 pz0_14 v_23 pz0_19 pz0_22 pz0_23 pz0_29)), (z 1, aI V 3075 f_27)] := hD
            have hP := subP (ws' := [(z 0, .inr (10, mo z 0 pz0_5 pz0_6 pz0_7 pz0_8 pz0_9 pz0_10 pz0_11 pz0_12 pz0_13 pz0_14 v_23 pz0_19 pz0_22 pz0_23 pz0_29)), (z 1, aI V 3075 f_27), (z 15, aI V 900 f_21), (z 16, aI V 6 f_22), (z 17, aI V 7 f_19), (z 37, aI V 4 fz37), (z 38, aI V 4 fz38), (z 39, aJ V 160 fz39)]) hP [6, 7, 1, 2, 5, 0, 3, 4] rfl
            have hD := hD.sub (ws' := [(z 0, .inr (10, mo z 0 pz0_5 pz0_6 pz0_7 pz0_8 pz0_9 pz0_10 pz0_11 pz0_12 pz0_13 pz0_14 v_23 pz0_19 pz0_22 pz0_23 pz0_29)), (z 1, aI V 3075 f_27), (z 15, aI V 900 f_21), (z 16, aI V 6 f_22), (z 17, aI V 7 f_19), (z 37, aI V 4 fz37), (z 38, aI V 4 fz38), (z 39, aJ V 160 fz39)]) [6, 7, 1, 2, 5, 0, 3, 4] rfl rfl
            exact fiI hx hb hr hlk hK hP hD hS dX10_judge_104 (Nat.le_of_ble_eq_true rfl) (Nat.le_of_ble_eq_true rfl) (⟨0, v_23, f_27, f_21, f_22, f_19, bv_23, tf_27, tf_22, tf_19, g_28, rfl⟩)
          · have b_36 : iv 2 2 a2 := iv_q c_33 (iv_c (2 : Int32) (a := 2) (b := 2) (by decide))
            refine lv_aload_n hx hb dX10_judge_90 rfl (lv_at hl 3 rfl) ?_
            refine lv_iload hx hb dX10_judge_91 (lv_at hl 0 rfl) ?_
            refine jnI (wr := [(z 37, aI V 4 fz37), (z 15, aI V 900 f_21), (z 16, aI V 6 f_22), (z 38, aI V 4 fz38), (z 39, aJ V 160 fz39), (z 17, aI V 7 f_19)]) (rnV (rest := []) ⟨hx, hb, hml, hown, hg⟩ (k_X10_sumIn_0 l V z r_26 0 pz0_5 pz0_6 pz0_7 pz0_8 pz0_9 pz0_10 pz0_11 pz0_12 pz0_13 pz0_14 v_23 pz0_19 pz0_22 pz0_23 pz0_29 f_27 br_26 bpz0_5 bpz0_6 bpz0_7 bpz0_8 bpz0_10 bpz0_11 bpz0_12 bpz0_13 bpz0_14 bv_23 bpz0_22 bpz0_29 tf_27) mt_X10_sumIn q_7_131 ⟨Nat.le_of_ble_eq_true rfl, Nat.le_of_ble_eq_true rfl⟩ hK hP hD hS hA hE [6, 7] rfl rfl 6 rfl rfl rfl rfl hl.1 rfl (Nat.le_of_ble_eq_true rfl) dX10_judge_93 ⟨Nat.le_of_ble_eq_true rfl, Nat.le_of_ble_eq_true rfl⟩) hP hD hS hA [6, 7] [0, 1, 2, 3, 4, 5] rfl rfl rfl (by decide) (fun r_37 w H locs hw hP hD hS => ?_)
            subst hw
            have hP : va_P V.1 vwCl [(z 37, aI V 4 fz37), (z 15, aI V 900 f_21), (z 16, aI V 6 f_22), (z 38, aI V 4 fz38), (z 39, aJ V 160 fz39), (z 17, aI V 7 f_19), (z 0, .inr (10, mo z 0 pz0_5 pz0_6 pz0_7 pz0_8 pz0_9 pz0_10 pz0_11 pz0_12 pz0_13 pz0_14 v_23 pz0_19 pz0_22 pz0_23 pz0_29)), (z 1, aI V 3075 f_27)] H := hP
            have hD : va_D A [(z 37, aI V 4 fz37), (z 15, aI V 900 f_21), (z 16, aI V 6 f_22), (z 38, aI V 4 fz38), (z 39, aJ V 160 fz39), (z 17, aI V 7 f_19), (z 0, .inr (10, mo z 0 pz0_5 pz0_6 pz0_7 pz0_8 pz0_9 pz0_10 pz0_11 pz0_12 pz0_13 pz0_14 v_23 pz0_19 pz0_22 pz0_23 pz0_29)), (z 1, aI V 3075 f_27)] := hD
            refine lv_goto (tgt := 104) hx hb dX10_judge_96 (by decide) ?_
            have hP := subP (ws' := [(z 0, .inr (10, mo z 0 pz0_5 pz0_6 pz0_7 pz0_8 pz0_9 pz0_10 pz0_11 pz0_12 pz0_13 pz0_14 v_23 pz0_19 pz0_22 pz0_23 pz0_29)), (z 1, aI V 3075 f_27), (z 15, aI V 900 f_21), (z 16, aI V 6 f_22), (z 17, aI V 7 f_19), (z 37, aI V 4 fz37), (z 38, aI V 4 fz38), (z 39, aJ V 160 fz39)]) hP [6, 7, 1, 2, 5, 0, 3, 4] rfl
            have hD := hD.sub (ws' := [(z 0, .inr (10, mo z 0 pz0_5 pz0_6 pz0_7 pz0_8 pz0_9 pz0_10 pz0_11 pz0_12 pz0_13 pz0_14 v_23 pz0_19 pz0_22 pz0_23 pz0_29)), (z 1, aI V 3075 f_27), (z 15, aI V 900 f_21), (z 16, aI V 6 f_22), (z 17, aI V 7 f_19), (z 37, aI V 4 fz37), (z 38, aI V 4 fz38), (z 39, aJ V 160 fz39)]) [6, 7, 1, 2, 5, 0, 3, 4] rfl rfl
            exact fiI hx hb hr hlk hK hP hD hS dX10_judge_104 (Nat.le_of_ble_eq_true rfl) (Nat.le_of_ble_eq_true rfl) (⟨0, v_23, f_27, f_21, f_22, f_19, bv_23, tf_27, tf_22, tf_19, g_28, rfl⟩)
        · have b_38 : iv 1 1 a2 := iv_q c_31 (iv_c (1 : Int32) (a := 1) (b := 1) (by decide))
          refine lv_aload_n hx hb dX10_judge_78 rfl (lv_at hl 3 rfl) ?_
          refine va_get (ci := 10) (v := .int v_23) (C := RX10) (T := TX10) (N := 40) hx hb hg inX10 hown hK hP 6 rfl rfl 18 (by decide) (hg _ q_6_2) (fun _ h9 => h9) rfl dX10_judge_79 ?_
          refine lv_goto (tgt := 104) hx hb dX10_judge_82 (by decide) ?_
          have hP := subP (ws' := [(z 0, .inr (10, mo z 0 pz0_5 pz0_6 pz0_7 pz0_8 pz0_9 pz0_10 pz0_11 pz0_12 pz0_13 pz0_14 v_23 pz0_19 pz0_22 pz0_23 pz0_29)), (z 1, aI V 3075 f_27), (z 15, aI V 900 f_21), (z 16, aI V 6 f_22), (z 17, aI V 7 f_19), (z 37, aI V 4 fz37), (z 38, aI V 4 fz38), (z 39, aJ V 160 fz39)]) hP [6, 7, 1, 2, 5, 0, 3, 4] rfl
          have hD := hD.sub (ws' := [(z 0, .inr (10, mo z 0 pz0_5 pz0_6 pz0_7 pz0_8 pz0_9 pz0_10 pz0_11 pz0_12 pz0_13 pz0_14 v_23 pz0_19 pz0_22 pz0_23 pz0_29)), (z 1, aI V 3075 f_27), (z 15, aI V 900 f_21), (z 16, aI V 6 f_22), (z 17, aI V 7 f_19), (z 37, aI V 4 fz37), (z 38, aI V 4 fz38), (z 39, aJ V 160 fz39)]) [6, 7, 1, 2, 5, 0, 3, 4] rfl rfl
          exact fiI hx hb hr hlk hK hP hD hS dX10_judge_104 (Nat.le_of_ble_eq_true rfl) (Nat.le_of_ble_eq_true rfl) (⟨0, v_23, f_27, f_21, f_22, f_19, bv_23, tf_27, tf_22, tf_19, g_28, rfl⟩)
      · have b_39 : iv 0 0 a2 := iv_q c_29 (iv_c (0 : Int32) (a := 0) (b := 0) (by decide))
        refine lv_aload_n hx hb dX10_judge_57 rfl (lv_at hl 3 rfl) ?_
        refine va_get (ci := 10) (v := .int v_23) (C := RX10) (T := TX10) (N := 40) hx hb hg inX10 hown hK hP 6 rfl rfl 18 (by decide) (hg _ q_6_2) (fun _ h9 => h9) rfl dX10_judge_58 ?_
        refine lv_if_ne (tgt := 68) hx hb dX10_judge_61 (by decide) (fun c_40 => ?_) (fun c_40 => ?_)
        · have b_41 : iv 1 2 v_23 := iv_n0 c_40 bv_23 (iv_c (0 : Int32) (a := 0) (b := 0) (by decide)) (by decide)
          refine lv_iload hx hb dX10_judge_68 (lv_at hl 1 rfl) ?_
          refine lv_goto (tgt := 104) hx hb dX10_judge_70 (by decide) ?_
          have hP := subP (ws' := [(z 0, .inr (10, mo z 0 pz0_5 pz0_6 pz0_7 pz0_8 pz0_9 pz0_10 pz0_11 pz0_12 pz0_13 pz0_14 v_23 pz0_19 pz0_22 pz0_23 pz0_29)), (z 1, aI V 3075 f_27), (z 15, aI V 900 f_21), (z 16, aI V 6 f_22), (z 17, aI V 7 f_19), (z 37, aI V 4 fz37), (z 38, aI V 4 fz38), (z 39, aJ V 160 fz39)]) hP [6, 7, 1, 2, 5, 0, 3, 4] rfl
          have hD := hD.sub (ws' := [(z 0, .inr (10, mo z 0 pz0_5 pz0_6 pz0_7 pz0_8 pz0_9 pz0_10 pz0_11 pz0_12 pz0_13 pz0_14 v_23 pz0_19 pz0_22 pz0_23 pz0_29)), (z 1, aI V 3075 f_27), (z 15, aI V 900 f_21), (z 16, aI V 6 f_22), (z 17, aI V 7 f_19), (z 37, aI V 4 fz37), (z 38, aI V 4 fz38), (z 39, aJ V 160 fz39)]) [6, 7, 1, 2, 5, 0, 3, 4] rfl rfl
          exact fiI hx hb hr hlk hK hP hD hS dX10_judge_104 (Nat.le_of_ble_eq_true rfl) (Nat.le_of_ble_eq_true rfl) (⟨0, v_23, f_27, f_21, f_22, f_19, (iv_w b_41 (by decide)), tf_27, tf_22, tf_19, g_28, rfl⟩)
        · have b_42 : iv 0 0 v_23 := iv_q c_40 (iv_c (0 : Int32) (a := 0) (b := 0) (by decide))
          refine lv_iconst (v := (-1)) hx hb dX10_judge_64 (by decide) ?_
          refine lv_goto (tgt := 104) hx hb dX10_judge_65 (by decide) ?_
          have hP := subP (ws' := [(z 0, .inr (10, mo z 0 pz0_5 pz0_6 pz0_7 pz0_8 pz0_9 pz0_10 pz0_11 pz0_12 pz0_13 pz0_14 v_23 pz0_19 pz0_22 pz0_23 pz0_29)), (z 1, aI V 3075 f_27), (z 15, aI V 900 f_21), (z 16, aI V 6 f_22), (z 17, aI V 7 f_19), (z 37, aI V 4 fz37), (z 38, aI V 4 fz38), (z 39, aJ V 160 fz39)]) hP [6, 7, 1, 2, 5, 0, 3, 4] rfl
          have hD := hD.sub (ws' := [(z 0, .inr (10, mo z 0 pz0_5 pz0_6 pz0_7 pz0_8 pz0_9 pz0_10 pz0_11 pz0_12 pz0_13 pz0_14 v_23 pz0_19 pz0_22 pz0_23 pz0_29)), (z 1, aI V 3075 f_27), (z 15, aI V 900 f_21), (z 16, aI V 6 f_22), (z 17, aI V 7 f_19), (z 37, aI V 4 fz37), (z 38, aI V 4 fz38), (z 39, aJ V 160 fz39)]) [6, 7, 1, 2, 5, 0, 3, 4] rfl rfl
          exact fiI hx hb hr hlk hK hP hD hS dX10_judge_104 (Nat.le_of_ble_eq_true rfl) (Nat.le_of_ble_eq_true rfl) (⟨0, v_23, f_27, f_21, f_22, f_19, (iv_w b_42 (by decide)), tf_27, tf_22, tf_19, g_28, rfl⟩)
    · have b_43 : iv (-6) (-1) r_14 := iv_n1 c_16 br_14 (iv_c (0 : Int32) (a := 0) (b := 0) (by decide)) (by decide)
      refine lv_iload_n hx hb dX10_judge_30 rfl (lv_at hl 0 rfl) ?_
      have hP := subP (ws' := [(z 0, .inr (10, mo z 0 pz0_5 pz0_6 pz0_7 pz0_8 pz0_9 pz0_10 pz0_11 pz0_12 pz0_13 pz0_14 pz0_18 pz0_19 pz0_22 pz0_23 pz0_29)), (z 1, aI V 3075 fz1), (z 15, aI V 900 fz15), (z 16, aI V 6 fz16), (z 17, aI V 7 fz17), (z 37, aI V 4 fz37), (z 38, aI V 4 fz38), (z 39, aJ V 160 fz39)]) hP [6, 0, 1, 2, 3, 7, 4, 5] rfl
      have hD := hD.sub (ws' := [(z 0, .inr (10, mo z 0 pz0_5 pz0_6 pz0_7 pz0_8 pz0_9 pz0_10 pz0_11 pz0_12 pz0_13 pz0_14 pz0_18 pz0_19 pz0_22 pz0_23 pz0_29)), (z 1, aI V 3075 fz1), (z 15, aI V 900 fz15), (z 16, aI V 6 fz16), (z 17, aI V 7 fz17), (z 37, aI V 4 fz37), (z 38, aI V 4 fz38), (z 39, aJ V 160 fz39)]) [6, 0, 1, 2, 3, 7, 4, 5] rfl rfl
      exact fiI hx hb hr hlk hK hP hD hS dX10_judge_31 (Nat.le_of_ble_eq_true rfl) (Nat.le_of_ble_eq_true rfl) (⟨0, pz0_18, fz1, fz15, fz16, fz17, bpz0_18, tfz1, tfz16, tfz17, hf0, rfl⟩)
  · have b_44 : iv 0 0 r_2 := iv_q c_6 (iv_c (0 : Int32) (a := 0) (b := 0) (by decide))
    refine lv_bipush (v := (-2)) hx hb dX10_judge_17 (by decide) ?_
    exact fiI hx hb hr hlk hK hP hD hS dX10_judge_19 (Nat.le_of_ble_eq_true rfl) (Nat.le_of_ble_eq_true rfl) (⟨0, pz0_18, fz1, fz15, fz16, fz17, bpz0_18, tfz1, tfz16, tfz17, hf0, rfl⟩)
