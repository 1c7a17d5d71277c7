theorem dX10_addedNow_0 : decode cX10_addedNow 0 = .ok (.aload_n 0, 1) := by decide +kernel
theorem dX10_addedNow_1 : decode cX10_addedNow 1 = .ok (.getfield 13, 3) := by decide +kernel
theorem dX10_addedNow_4 : decode cX10_addedNow 4 = .ok (.iconst 5, 1) := by decide +kernel
theorem dX10_addedNow_5 : decode cX10_addedNow 5 = .ok (.iaload, 1) := by decide +kernel
theorem dX10_addedNow_6 : decode cX10_addedNow 6 = .ok (.iconst 1, 1) := by decide +kernel
theorem dX10_addedNow_7 : decode cX10_addedNow 7 = .ok (.if_icmp .ne 11, 3) := by decide +kernel
theorem dX10_addedNow_18 : decode cX10_addedNow 18 = .ok (.aload_n 0, 1) := by decide +kernel
theorem dX10_addedNow_19 : decode cX10_addedNow 19 = .ok (.getfield 33, 3) := by decide +kernel
theorem dX10_addedNow_22 : decode cX10_addedNow 22 = .ok (.iconst 1, 1) := by decide +kernel
theorem dX10_addedNow_23 : decode cX10_addedNow 23 = .ok (.iaload, 1) := by decide +kernel
theorem dX10_addedNow_24 : decode cX10_addedNow 24 = .ok (.iconst 1, 1) := by decide +kernel
theorem dX10_addedNow_25 : decode cX10_addedNow 25 = .ok (.iadd, 1) := by decide +kernel
theorem dX10_addedNow_26 : decode cX10_addedNow 26 = .ok (.istore_n 1, 1) := by decide +kernel
theorem dX10_addedNow_27 : decode cX10_addedNow 27 = .ok (.iload_n 1, 1) := by decide +kernel
theorem dX10_addedNow_28 : decode cX10_addedNow 28 = .ok (.ifCond .ge 7, 3) := by decide +kernel
theorem dX10_addedNow_35 : decode cX10_addedNow 35 = .ok (.iload_n 1, 1) := by decide +kernel
theorem dX10_addedNow_36 : decode cX10_addedNow 36 = .ok (.iconst 4, 1) := by decide +kernel
theorem dX10_addedNow_37 : decode cX10_addedNow 37 = .ok (.if_icmp .le 7, 3) := by decide +kernel
theorem dX10_addedNow_44 : decode cX10_addedNow 44 = .ok (.iload_n 1, 1) := by decide +kernel
theorem dX10_addedNow_45 : decode cX10_addedNow 45 = .ok (.ireturn, 1) := by decide +kernel
theorem dX10_addedNow_40 : decode cX10_addedNow 40 = .ok (.iconst 4, 1) := by decide +kernel
theorem dX10_addedNow_41 : decode cX10_addedNow 41 = .ok (.goto 4, 3) := by decide +kernel
theorem dX10_addedNow_10 : decode cX10_addedNow 10 = .ok (.aload_n 0, 1) := by decide +kernel
theorem dX10_addedNow_11 : decode cX10_addedNow 11 = .ok (.iconst 1, 1) := by decide +kernel
theorem dX10_addedNow_12 : decode cX10_addedNow 12 = .ok (.invokevirtual 248, 3) := by decide +kernel
theorem dX10_addedNow_15 : decode cX10_addedNow 15 = .ok (.goto 11, 3) := by decide +kernel
theorem dX10_addedNow_31 : decode cX10_addedNow 31 = .ok (.iconst 0, 1) := by decide +kernel
theorem dX10_addedNow_32 : decode cX10_addedNow 32 = .ok (.goto 13, 3) := by decide +kernel
set_option maxHeartbeats 4000000 in
set_option maxRecDepth 100000 in
theorem k_X10_addedNow_0 (l : Launch) (V : GV) (z : Nat → Nat) (fz15 : Nat → Int32) (fz16 : Nat → Int32) (pz0_0 : Int32) (pz0_5 : Int32) (pz0_6 : Int32) (pz0_7 : Int32) (pz0_8 : Int32) (pz0_9 : Int32) (pz0_10 : Int32) (pz0_11 : Int32) (pz0_12 : Int32) (pz0_13 : Int32) (pz0_14 : Int32) (pz0_18 : Int32) (pz0_19 : Int32) (pz0_22 : Int32) (pz0_23 : Int32) (pz0_29 : Int32) (fz1 : Nat → Int32) (tfz16 : ivT tW fz16) (bpz0_5 : iv 0 900 pz0_5) (bpz0_6 : iv 0 900 pz0_6) (bpz0_7 : iv 0 900 pz0_7) (bpz0_8 : iv 0 900 pz0_8) (bpz0_10 : iv 0 999 pz0_10) (bpz0_11 : iv 0 4 pz0_11) (bpz0_12 : iv 0 900 pz0_12) (bpz0_13 : iv 0 4 pz0_13) (bpz0_14 : iv (-1) 900 pz0_14) (bpz0_18 : iv 0 2 pz0_18) (bpz0_22 : iv 0 9999 pz0_22) (bpz0_29 : iv 0 10000 pz0_29) (tfz1 : ivT tA fz1) (hf0 : RW fz1) : Ct l V yX10_addedNow (.code yX10_addedNow cX10_addedNow 2 (some .int)) 3 [.ref (z 0)] [(z 15, aI V 900 fz15), (z 16, aI V 6 fz16), (z 0, .inr (10, mo z pz0_0 pz0_5 pz0_6 pz0_7 pz0_8 pz0_9 pz0_10 pz0_11 pz0_12 pz0_13 pz0_14 pz0_18 pz0_19 pz0_22 pz0_23 pz0_29)), (z 1, aI V 3075 fz1)] 0 0 (QI V (fun (r : Int32) (w : va_W) => ∃ (g0 : Nat → Int32), iv 0 4 r ∧ (RW fz1) ∧ w = [(z 15, aI V 900 g0), (z 16, aI V 6 fz16), (z 0, .inr (10, mo z pz0_0 pz0_5 pz0_6 pz0_7 pz0_8 pz0_9 pz0_10 pz0_11 pz0_12 pz0_13 pz0_14 pz0_18 pz0_19 pz0_22 pz0_23 pz0_29)), (z 1, aI V 3075 fz1)])) := by
  refine Ct.of (by decide) (Nat.le_of_ble_eq_true rfl) (fun p e s m below meth c A ls hx hb hr hml hown hlk hnm hg hP hK hD hE hA hS hl => ?_)
  have hl : lv_has ls 2 [(0, .ref (z 0))] := hl
  refine lv_aload_n hx hb dX10_addedNow_0 rfl (lv_at hl 0 rfl) ?_
  refine va_get (ci := 10) (v := .ref (z 1)) (C := RX10) (T := TX10) (N := 40) hx hb hg inX10 hown hK hP 2 rfl rfl 1 (by decide) (hg _ q_5_225) (fun _ h9 => h9) rfl dX10_addedNow_1 ?_
  refine lv_iconst (v := 5) hx hb dX10_addedNow_4 (by decide) ?_
  refine va_iald hx hb hK hP 3 0 rfl rfl (vin (by decide +kernel)) dX10_addedNow_5 ?_
  refine lv_topi (fun x_1 ex_1 => ?_)
  have bx_1 : iv 0 1 x_1 := by rw [ex_1]; exact rdT (a := 5) (n := 1) tfz1 (iv_c (5 : Int32) (a := 5) (b := 5) (by decide)) (by decide) (by decide +kernel)
  refine lv_iconst (v := 1) hx hb dX10_addedNow_6 (by decide) ?_
  refine lv_icmp_ne (tgt := 18) hx hb dX10_addedNow_7 (by decide) (fun c_2 => ?_) (fun c_2 => ?_)
  · have b_3 : iv 0 0 x_1 := iv_n1 c_2 bx_1 (iv_c (1 : Int32) (a := 1) (b := 1) (by decide)) (by decide)
    refine lv_aload_n hx hb dX10_addedNow_18 rfl (lv_at hl 0 rfl) ?_
    refine va_get (ci := 10) (v := .ref (z 16)) (C := RX10) (T := TX10) (N := 40) hx hb hg inX10 hown hK hP 2 rfl rfl 16 (by decide) (hg _ q_6_0) (fun _ h9 => h9) rfl dX10_addedNow_19 ?_
    refine lv_iconst (v := 1) hx hb dX10_addedNow_22 (by decide) ?_
    refine va_iald hx hb hK hP 1 0 rfl rfl (vin (by decide +kernel)) dX10_addedNow_23 ?_
    refine lv_topi (fun x_4 ex_4 => ?_)
    have bx_4 : iv 0 4 x_4 := by rw [ex_4]; exact rdT (a := 1) (n := 1) tfz16 (iv_c (1 : Int32) (a := 1) (b := 1) (by decide)) (by decide) (by decide +kernel)
    refine lv_iconst (v := 1) hx hb dX10_addedNow_24 (by decide) ?_
    refine lv_iadd hx hb dX10_addedNow_25 ?_
    refine lv_topi (fun x_5 ex_5 => ?_)
    have bx_5 : iv 1 5 x_5 := by rw [ex_5]; exact iv_add bx_4 (iv_c (1 : Int32) (a := 1) (b := 1) (by decide)) (by decide)
    refine lv_istore_n (lv' := [(1, .int x_5), (0, .ref (z 0))]) hx hb dX10_addedNow_26 rfl hl (by decide) rfl (fun ls hl => ?_)
    refine lv_iload_n hx hb dX10_addedNow_27 rfl (lv_at hl 0 rfl) ?_
    refine lv_if_ge (tgt := 35) hx hb dX10_addedNow_28 (by decide) (fun _ => ?_) (fun c_6 => absurd (iv_le (iv_c (0 : Int32) (a := 0) (b := 0) (by decide)) bx_5 (by decide)) c_6)
    refine lv_iload_n hx hb dX10_addedNow_35 rfl (lv_at hl 0 rfl) ?_
    refine lv_iconst (v := 4) hx hb dX10_addedNow_36 (by decide) ?_
    refine lv_icmp_le (tgt := 44) hx hb dX10_addedNow_37 (by decide) (fun c_7 => ?_) (fun c_7 => ?_)
    · have b_8 : iv 1 4 x_5 := iv_e1 c_7 bx_5 (iv_c (4 : Int32) (a := 4) (b := 4) (by decide)) (by decide)
      have b_9 : iv 0 3 x_4 := iv_addb ex_5 b_8 bx_4 (iv_c (1 : Int32) (a := 1) (b := 1) (by decide)) (by decide)
      refine lv_iload_n hx hb dX10_addedNow_44 rfl (lv_at hl 0 rfl) ?_
      exact fiI hx hb hr hlk hK hP hD hS dX10_addedNow_45 (Nat.le_of_ble_eq_true rfl) (Nat.le_of_ble_eq_true rfl) (⟨fz15, (iv_w b_8 (by decide)), hf0, rfl⟩)
    · have b_10 : iv 5 5 x_5 := iv_l2 (Int32.not_le.mp c_7) (iv_c (4 : Int32) (a := 4) (b := 4) (by decide)) bx_5 (by decide)
      have b_11 : iv 4 4 x_4 := iv_addb ex_5 b_10 bx_4 (iv_c (1 : Int32) (a := 1) (b := 1) (by decide)) (by decide)
      refine lv_iconst (v := 4) hx hb dX10_addedNow_40 (by decide) ?_
      refine lv_goto (tgt := 45) hx hb dX10_addedNow_41 (by decide) ?_
      exact fiI hx hb hr hlk hK hP hD hS dX10_addedNow_45 (Nat.le_of_ble_eq_true rfl) (Nat.le_of_ble_eq_true rfl) (⟨fz15, (iv_c (4 : Int32) (by decide)), hf0, rfl⟩)
  · have b_12 : iv 1 1 x_1 := iv_q c_2 (iv_c (1 : Int32) (a := 1) (b := 1) (by decide))
    refine lv_aload_n hx hb dX10_addedNow_10 rfl (lv_at hl 0 rfl) ?_
    refine lv_iconst (v := 1) hx hb dX10_addedNow_11 (by decide) ?_
    refine jnI (wr := []) (rnV (rest := []) ⟨hx, hb, hml, hown, hg⟩ (k_X10_reckons_1 l V z fz15 fz16 pz0_0 pz0_5 pz0_6 pz0_7 pz0_8 pz0_9 pz0_10 pz0_11 pz0_12 pz0_13 pz0_14 pz0_18 pz0_19 pz0_22 pz0_23 pz0_29 fz1 tfz16 bpz0_5 bpz0_6 bpz0_7 bpz0_8 bpz0_10 bpz0_11 bpz0_12 bpz0_13 bpz0_14 bpz0_18 bpz0_22 bpz0_29 tfz1 hf0) mt_X10_reckons q_7_39 ⟨Nat.le_of_ble_eq_true rfl, Nat.le_of_ble_eq_true rfl⟩ hK hP hD hS hA hE [0, 1, 2, 3] rfl rfl 2 rfl rfl rfl rfl hl.1 rfl (Nat.le_of_ble_eq_true rfl) dX10_addedNow_12 ⟨Nat.le_of_ble_eq_true rfl, Nat.le_of_ble_eq_true rfl⟩) hP hD hS hA [0, 1, 2, 3] [] rfl rfl rfl (by decide) (fun r_13 w H locs hw hP hD hS => ?_)
    obtain ⟨f_14, g_15, rfl⟩ := hw
    have hP : va_P V.1 vwCl [(z 15, aI V 900 f_14), (z 16, aI V 6 fz16), (z 0, .inr (10, mo z pz0_0 pz0_5 pz0_6 pz0_7 pz0_8 pz0_9 pz0_10 pz0_11 pz0_12 pz0_13 pz0_14 pz0_18 pz0_19 pz0_22 pz0_23 pz0_29)), (z 1, aI V 3075 fz1)] H := hP
    have hD : va_D A [(z 15, aI V 900 f_14), (z 16, aI V 6 fz16), (z 0, .inr (10, mo z pz0_0 pz0_5 pz0_6 pz0_7 pz0_8 pz0_9 pz0_10 pz0_11 pz0_12 pz0_13 pz0_14 pz0_18 pz0_19 pz0_22 pz0_23 pz0_29)), (z 1, aI V 3075 fz1)] := hD
    refine lv_goto (tgt := 26) hx hb dX10_addedNow_15 (by decide) ?_
    refine lv_istore_n (lv' := [(1, .int r_13), (0, .ref (z 0))]) hx hb dX10_addedNow_26 rfl hl (by decide) rfl (fun ls hl => ?_)
    refine lv_iload_n hx hb dX10_addedNow_27 rfl (lv_at hl 0 rfl) ?_
    refine lv_if_ge (tgt := 35) hx hb dX10_addedNow_28 (by decide) (fun c_16 => ?_) (fun c_16 => ?_)
    · have b_17 : iv 0 2147483647 r_13 := iv_e2 c_16 (iv_c (0 : Int32) (a := 0) (b := 0) (by decide)) (iv_top r_13) (by decide)
      refine lv_iload_n hx hb dX10_addedNow_35 rfl (lv_at hl 0 rfl) ?_
      refine lv_iconst (v := 4) hx hb dX10_addedNow_36 (by decide) ?_
      refine lv_icmp_le (tgt := 44) hx hb dX10_addedNow_37 (by decide) (fun c_18 => ?_) (fun c_18 => ?_)
      · have b_19 : iv 0 4 r_13 := iv_e1 c_18 b_17 (iv_c (4 : Int32) (a := 4) (b := 4) (by decide)) (by decide)
        refine lv_iload_n hx hb dX10_addedNow_44 rfl (lv_at hl 0 rfl) ?_
        exact fiI hx hb hr hlk hK hP hD hS dX10_addedNow_45 (Nat.le_of_ble_eq_true rfl) (Nat.le_of_ble_eq_true rfl) (⟨f_14, b_19, g_15, rfl⟩)
      · have b_20 : iv 5 2147483647 r_13 := iv_l2 (Int32.not_le.mp c_18) (iv_c (4 : Int32) (a := 4) (b := 4) (by decide)) b_17 (by decide)
        refine lv_iconst (v := 4) hx hb dX10_addedNow_40 (by decide) ?_
        refine lv_goto (tgt := 45) hx hb dX10_addedNow_41 (by decide) ?_
        exact fiI hx hb hr hlk hK hP hD hS dX10_addedNow_45 (Nat.le_of_ble_eq_true rfl) (Nat.le_of_ble_eq_true rfl) (⟨f_14, (iv_c (4 : Int32) (by decide)), g_15, rfl⟩)
    · have b_21 : iv (-2147483648) (-1) r_13 := iv_l1 (Int32.not_le.mp c_16) (iv_top r_13) (iv_c (0 : Int32) (a := 0) (b := 0) (by decide)) (by decide)
      refine lv_iconst (v := 0) hx hb dX10_addedNow_31 (by decide) ?_
      refine lv_goto (tgt := 45) hx hb dX10_addedNow_32 (by decide) ?_
      exact fiI hx hb hr hlk hK hP hD hS dX10_addedNow_45 (Nat.le_of_ble_eq_true rfl) (Nat.le_of_ble_eq_true rfl) (⟨f_14, (iv_c (0 : Int32) (by decide)), g_15, rfl⟩)
theorem dX10_nightTo_0 : decode cX10_nightTo 0 = .ok (.iconst 0, 1) := by decide +kernel
theorem dX10_nightTo_1 : decode cX10_nightTo 1 = .ok (.istore 4, 2) := by decide +kernel
theorem dX10_nightTo_3 : decode cX10_nightTo 3 = .ok (.iconst 0, 1) := by decide +kernel
theorem dX10_nightTo_4 : decode cX10_nightTo 4 = .ok (.istore 5, 2) := by decide +kernel
theorem dX10_nightTo_6 : decode cX10_nightTo 6 = .ok (.iload 5, 2) := by decide +kernel
theorem dX10_nightTo_8 : decode cX10_nightTo 8 = .ok (.aload_n 0, 1) := by decide +kernel
theorem dX10_nightTo_9 : decode cX10_nightTo 9 = .ok (.getfield 13, 3) := by decide +kernel
theorem dX10_nightTo_12 : decode cX10_nightTo 12 = .ok (.iconst 1, 1) := by decide +kernel
theorem dX10_nightTo_13 : decode cX10_nightTo 13 = .ok (.iaload, 1) := by decide +kernel
theorem dX10_nightTo_14 : decode cX10_nightTo 14 = .ok (.if_icmp .ge 84, 3) := by decide +kernel
theorem dX10_nightTo_98 : decode cX10_nightTo 98 = .ok (.iload 4, 2) := by decide +kernel
theorem dX10_nightTo_100 : decode cX10_nightTo 100 = .ok (.ireturn, 1) := by decide +kernel
theorem dX10_nightTo_17 : decode cX10_nightTo 17 = .ok (.aload_n 0, 1) := by decide +kernel
theorem dX10_nightTo_18 : decode cX10_nightTo 18 = .ok (.iload_n 1, 1) := by decide +kernel
theorem dX10_nightTo_19 : decode cX10_nightTo 19 = .ok (.iload 5, 2) := by decide +kernel
theorem dX10_nightTo_21 : decode cX10_nightTo 21 = .ok (.iload_n 2, 1) := by decide +kernel
theorem dX10_nightTo_22 : decode cX10_nightTo 22 = .ok (.iload_n 3, 1) := by decide +kernel
theorem q_7_25 : Cond.code yX10_laysWords prog_12_method_47_code 5 none ∈ gw := gw_7 (i := 25) (rfl) rfl
theorem q_7_24 : Cond.instanceMethod yX10_laysWords ∈ gw := gw_7 (i := 24) (by decide +kernel) rfl
theorem q_s_83 : Cond.selects "BeaconDelayModel" yX10_laysWords yX10_laysWords ∈ gw := gw_s (i := 83) (by decide +kernel) rfl
theorem mt_X10_laysWords : MtV yX10_laysWords cX10_laysWords 5 none 4 := ⟨⟨q_7_25, q_1_9, by decide +kernel, by decide +kernel, by decide +kernel⟩, q_7_24, q_s_83⟩
theorem q_7_22 : Cond.methodLink "BeaconDelayModel" 251 yX10_laysWords ∈ gw := gw_7 (i := 22) (by decide +kernel) rfl
theorem dX10_nightTo_23 : decode cX10_nightTo 23 = .ok (.invokevirtual 251, 3) := by decide +kernel
theorem dX10_nightTo_26 : decode cX10_nightTo 26 = .ok (.aload_n 0, 1) := by decide +kernel
theorem q_7_38 : Cond.code yX10_takesNow prog_12_method_48_code 1 (some FieldType.boolean) ∈ gw := gw_7 (i := 38) (rfl) rfl
theorem q_7_37 : Cond.instanceMethod yX10_takesNow ∈ gw := gw_7 (i := 37) (by decide +kernel) rfl
theorem q_s_84 : Cond.selects "BeaconDelayModel" yX10_takesNow yX10_takesNow ∈ gw := gw_s (i := 84) (by decide +kernel) rfl
theorem mt_X10_takesNow : MtV yX10_takesNow cX10_takesNow 1 (some .boolean) 0 := ⟨⟨q_7_38, q_1_9, by decide +kernel, by decide +kernel, by decide +kernel⟩, q_7_37, q_s_84⟩
theorem q_7_35 : Cond.methodLink "BeaconDelayModel" 255 yX10_takesNow ∈ gw := gw_7 (i := 35) (by decide +kernel) rfl
theorem dX10_nightTo_27 : decode cX10_nightTo 27 = .ok (.invokevirtual 255, 3) := by decide +kernel
theorem dX10_nightTo_30 : decode cX10_nightTo 30 = .ok (.ifCond .eq 47, 3) := by decide +kernel
theorem dX10_nightTo_77 : decode cX10_nightTo 77 = .ok (.iload 4, 2) := by decide +kernel
theorem dX10_nightTo_79 : decode cX10_nightTo 79 = .ok (.iload 5, 2) := by decide +kernel
theorem dX10_nightTo_81 : decode cX10_nightTo 81 = .ok (.invokestatic 228, 3) := by decide +kernel
theorem dX10_nightTo_84 : decode cX10_nightTo 84 = .ok (.aload_n 0, 1) := by decide +kernel
theorem q_7_51 : Cond.code yX10_addedNow prog_12_method_49_code 2 (some FieldType.int) ∈ gw := gw_7 (i := 51) (rfl) rfl
theorem q_7_50 : Cond.instanceMethod yX10_addedNow ∈ gw := gw_7 (i := 50) (by decide +kernel) rfl
theorem q_s_86 : Cond.selects "BeaconDelayModel" yX10_addedNow yX10_addedNow ∈ gw := gw_s (i := 86) (by decide +kernel) rfl
theorem mt_X10_addedNow : MtV yX10_addedNow cX10_addedNow 2 (some .int) 0 := ⟨⟨q_7_51, q_1_9, by decide +kernel, by decide +kernel, by decide +kernel⟩, q_7_50, q_s_86⟩
theorem q_7_48 : Cond.methodLink "BeaconDelayModel" 259 yX10_addedNow ∈ gw := gw_7 (i := 48) (by decide +kernel) rfl
theorem dX10_nightTo_85 : decode cX10_nightTo 85 = .ok (.invokevirtual 259, 3) := by decide +kernel
theorem dX10_nightTo_88 : decode cX10_nightTo 88 = .ok (.imul, 1) := by decide +kernel
theorem dX10_nightTo_89 : decode cX10_nightTo 89 = .ok (.iadd, 1) := by decide +kernel
theorem dX10_nightTo_90 : decode cX10_nightTo 90 = .ok (.istore 4, 2) := by decide +kernel
theorem dX10_nightTo_92 : decode cX10_nightTo 92 = .ok (.iinc 5 1, 3) := by decide +kernel
theorem dX10_nightTo_95 : decode cX10_nightTo 95 = .ok (.goto (-89), 3) := by decide +kernel
theorem dX10_nightTo_33 : decode cX10_nightTo 33 = .ok (.iload 4, 2) := by decide +kernel
theorem dX10_nightTo_35 : decode cX10_nightTo 35 = .ok (.sipush 625, 3) := by decide +kernel
theorem dX10_nightTo_38 : decode cX10_nightTo 38 = .ok (.iconst 1, 1) := by decide +kernel
theorem dX10_nightTo_39 : decode cX10_nightTo 39 = .ok (.iload 5, 2) := by decide +kernel
theorem dX10_nightTo_41 : decode cX10_nightTo 41 = .ok (.ishl, 1) := by decide +kernel
theorem dX10_nightTo_42 : decode cX10_nightTo 42 = .ok (.imul, 1) := by decide +kernel
theorem dX10_nightTo_43 : decode cX10_nightTo 43 = .ok (.iload 5, 2) := by decide +kernel
theorem dX10_nightTo_45 : decode cX10_nightTo 45 = .ok (.invokestatic 228, 3) := by decide +kernel
theorem dX10_nightTo_48 : decode cX10_nightTo 48 = .ok (.aload_n 0, 1) := by decide +kernel
theorem dX10_nightTo_49 : decode cX10_nightTo 49 = .ok (.getfield 33, 3) := by decide +kernel
theorem dX10_nightTo_52 : decode cX10_nightTo 52 = .ok (.iconst 1, 1) := by decide +kernel
theorem dX10_nightTo_53 : decode cX10_nightTo 53 = .ok (.iaload, 1) := by decide +kernel
theorem dX10_nightTo_54 : decode cX10_nightTo 54 = .ok (.ifCond .le 14, 3) := by decide +kernel
theorem dX10_nightTo_68 : decode cX10_nightTo 68 = .ok (.iconst 0, 1) := by decide +kernel
theorem dX10_nightTo_69 : decode cX10_nightTo 69 = .ok (.imul, 1) := by decide +kernel
theorem dX10_nightTo_70 : decode cX10_nightTo 70 = .ok (.iadd, 1) := by decide +kernel
theorem dX10_nightTo_71 : decode cX10_nightTo 71 = .ok (.iadd, 1) := by decide +kernel
theorem dX10_nightTo_72 : decode cX10_nightTo 72 = .ok (.istore 4, 2) := by decide +kernel
theorem dX10_nightTo_74 : decode cX10_nightTo 74 = .ok (.goto 18, 3) := by decide +kernel
theorem dX10_nightTo_57 : decode cX10_nightTo 57 = .ok (.aload_n 0, 1) := by decide +kernel
theorem dX10_nightTo_58 : decode cX10_nightTo 58 = .ok (.getfield 33, 3) := by decide +kernel
theorem dX10_nightTo_61 : decode cX10_nightTo 61 = .ok (.iconst 1, 1) := by decide +kernel
theorem dX10_nightTo_62 : decode cX10_nightTo 62 = .ok (.iaload, 1) := by decide +kernel
theorem dX10_nightTo_63 : decode cX10_nightTo 63 = .ok (.iconst 1, 1) := by decide +kernel
theorem dX10_nightTo_64 : decode cX10_nightTo 64 = .ok (.isub, 1) := by decide +kernel
theorem dX10_nightTo_65 : decode cX10_nightTo 65 = .ok (.goto 4, 3) := by decide +kernel
set_option maxHeartbeats 4000000 in
set_option maxRecDepth 100000 in
theorem k_X10_nightTo_0 (l : Launch) (V : GV) (z : Nat → Nat) (a1 : Int32) (a2 : Int32) (a3 : Int32) (fz15 : Nat → Int32) (fz16 : Nat → Int32) (pz0_0 : Int32) (pz0_5 : Int32) (pz0_6 : Int32) (pz0_7 : Int32) (pz0_8 : Int32) (pz0_9 : Int32) (pz0_10 : Int32) (pz0_11 : Int32) (pz0_12 : Int32) (pz0_13 : Int32) (pz0_14 : Int32) (pz0_18 : Int32) (pz0_19 : Int32) (pz0_22 : Int32) (pz0_23 : Int32) (pz0_29 : Int32) (fz1 : Nat → Int32) (ba1 : iv 0 9999 a1) (tfz16 : ivT tW fz16) (bpz0_5 : iv 0 900 pz0_5) (bpz0_6 : iv 0 900 pz0_6) (bpz0_7 : iv 0 900 pz0_7) (bpz0_8 : iv 0 900 pz0_8) (bpz0_10 : iv 0 999 pz0_10) (bpz0_11 : iv 0 4 pz0_11) (bpz0_12 : iv 0 900 pz0_12) (bpz0_13 : iv 0 4 pz0_13) (bpz0_14 : iv (-1) 900 pz0_14) (bpz0_18 : iv 0 2 pz0_18) (bpz0_22 : iv 0 9999 pz0_22) (bpz0_29 : iv 0 10000 pz0_29) (tfz1 : ivT tA fz1) (hf0 : RW fz1) : Ct l V yX10_nightTo (.code yX10_nightTo cX10_nightTo 6 (some .int)) 4 [.ref (z 0), .int a1, .int a2, .int a3] [(z 15, aI V 900 fz15), (z 16, aI V 6 fz16), (z 0, .inr (10, mo z pz0_0 pz0_5 pz0_6 pz0_7 pz0_8 pz0_9 pz0_10 pz0_11 pz0_12 pz0_13 pz0_14 pz0_18 pz0_19 pz0_22 pz0_23 pz0_29)), (z 1, aI V 3075 fz1)] 0 0 (QI V (fun (r : Int32) (w : va_W) => ∃ (g0 : Nat → Int32) (g1 : Nat → Int32), (ivT tW g1) ∧ iv 0 9843 r ∧ (RW fz1) ∧ w = [(z 15, aI V 900 g0), (z 16, aI V 6 g1), (z 0, .inr (10, mo z pz0_0 pz0_5 pz0_6 pz0_7 pz0_8 pz0_9 pz0_10 pz0_11 pz0_12 pz0_13 pz0_14 pz0_18 pz0_19 pz0_22 pz0_23 pz0_29)), (z 1, aI V 3075 fz1)])) := by
  refine Ct.of (by decide) (Nat.le_of_ble_eq_true rfl) (fun p e s m below meth c A ls hx hb hr hml hown hlk hnm hg hP hK hD hE hA hS hl => ?_)
  have hl : lv_has ls 6 [(0, .ref (z 0)), (1, .int a1), (2, .int a2), (3, .int a3)] := hl
  refine lv_iconst (v := 0) hx hb dX10_nightTo_0 (by decide) ?_
  refine lv_istore (lv' := [(4, .int 0), (0, .ref (z 0)), (1, .int a1), (2, .int a2), (3, .int a3)]) hx hb dX10_nightTo_1 hl (by decide) rfl (fun ls hl => ?_)
  refine lv_iconst (v := 0) hx hb dX10_nightTo_3 (by decide) ?_
  refine lv_istore (lv' := [(5, .int 0), (4, .int 0), (0, .ref (z 0)), (1, .int a1), (2, .int a2), (3, .int a3)]) hx hb dX10_nightTo_4 hl (by decide) rfl (fun ls hl => ?_)
  refine loopF (X := fun (n_5 : Nat) (H : Heap) (locs : List Loc) (ls : Array Slot) => ∃ (u_1 : Int32) (u_2 : Int32) (f_3 : Nat → Int32) (f_4 : Nat → Int32), (iv 0 4 u_1) ∧ (iv 0 9843 u_2) ∧ (ivT tW f_4) ∧ (nbP u_1 u_2) ∧ (RW fz1) ∧ n_5 = (2147483647 - (u_1 : Int32).toInt).toNat ∧ va_P V.1 vwCl [(z 15, aI V 900 f_3), (z 16, aI V 6 f_4), (z 0, .inr (10, mo z pz0_0 pz0_5 pz0_6 pz0_7 pz0_8 pz0_9 pz0_10 pz0_11 pz0_12 pz0_13 pz0_14 pz0_18 pz0_19 pz0_22 pz0_23 pz0_29)), (z 1, aI V 3075 fz1)] H ∧ va_D A [(z 15, aI V 900 f_3), (z 16, aI V 6 f_4), (z 0, .inr (10, mo z pz0_0 pz0_5 pz0_6 pz0_7 pz0_8 pz0_9 pz0_10 pz0_11 pz0_12 pz0_13 pz0_14 pz0_18 pz0_19 pz0_22 pz0_23 pz0_29)), (z 1, aI V 3075 fz1)] ∧ va_S A s.heap H locs ∧ lv_has ls 6 [(5, .int u_1), (4, .int u_2), (0, .ref (z 0)), (1, .int a1), (2, .int a2), (3, .int a3)]) (g := fun ls => F0 m 6 ls []) (fun n_5 H locs ls hX ihn_5 => ?_) _ ⟨0, 0, fz15, fz16, (iv_c (0 : Int32) (by decide)), (iv_c (0 : Int32) (by decide)), tfz16, (nb_o (iv_c (0 : Int32) (a := 0) (b := 0) (by decide)) (by decide)), hf0, rfl, hP, hD, hS, lv_sub hl [0, 1, 2, 3, 4, 5] rfl⟩
  obtain ⟨u_1, u_2, f_3, f_4, bu_1, bu_2, tf_4, inn_5_0, inn_5_1, en_5, hP, hD, hS, hl⟩ := hX
  refine lv_iload hx hb dX10_nightTo_6 (lv_at hl 0 rfl) ?_
  refine lv_aload_n hx hb dX10_nightTo_8 rfl (lv_at hl 2 rfl) ?_
  refine va_get (ci := 10) (v := .ref (z 1)) (C := RX10) (T := TX10) (N := 40) hx hb hg inX10 hown hK hP 2 rfl rfl 1 (by decide) (hg _ q_5_225) (fun _ h9 => h9) rfl dX10_nightTo_9 ?_
  refine lv_iconst (v := 1) hx hb dX10_nightTo_12 (by decide) ?_
  refine va_iald hx hb hK hP 3 0 rfl rfl (vin (by decide +kernel)) dX10_nightTo_13 ?_
  refine lv_topi (fun x_6 ex_6 => ?_)
  have bx_6 : iv 0 4 x_6 := by rw [ex_6]; exact rdT (a := 1) (n := 1) tfz1 (iv_c (1 : Int32) (a := 1) (b := 1) (by decide)) (by decide) (by decide +kernel)
  refine lv_icmp_ge (tgt := 98) hx hb dX10_nightTo_14 (by decide) (fun c_7 => ?_) (fun c_7 => ?_)
  · refine lv_iload hx hb dX10_nightTo_98 (lv_at hl 1 rfl) ?_
    exact fiI hx hb hr hlk hK hP hD hS dX10_nightTo_100 (Nat.le_of_ble_eq_true rfl) (Nat.le_of_ble_eq_true rfl) (⟨f_3, f_4, tf_4, bu_2, inn_5_1, rfl⟩)
  · have b_8 : iv 0 3 u_1 := iv_l1 (Int32.not_le.mp c_7) bu_1 bx_6 (by decide)
    have b_9 : iv 1 4 x_6 := iv_l2 (Int32.not_le.mp c_7) bu_1 bx_6 (by decide)
    have c_10 : u_1 = 0 ∨ u_1 = 1 ∨ u_1 = 2 ∨ u_1 = 3 := by have q9 := b_8; unfold iv at q9; simp only [tI_eq, (by decide : (0 : Int32).toInt = 0), (by decide : (1 : Int32).toInt = 1), (by decide : (2 : Int32).toInt = 2), (by decide : (3 : Int32).toInt = 3)]; omega
    rcases c_10 with rfl | rfl | rfl | rfl
    · have b_11 : iv 0 0 u_2 := nb_i inn_5_0 (by decide)
      refine lv_aload_n hx hb dX10_nightTo_17 rfl (lv_at hl 2 rfl) ?_
      refine lv_iload_n hx hb dX10_nightTo_18 rfl (lv_at hl 3 rfl) ?_
      refine lv_iload hx hb dX10_nightTo_19 (lv_at hl 0 rfl) ?_
      refine lv_iload_n hx hb dX10_nightTo_21 rfl (lv_at hl 4 rfl) ?_
      refine lv_iload_n hx hb dX10_nightTo_22 rfl (lv_at hl 5 rfl) ?_
      refine jnV (wr := [(z 15, aI V 900 f_3)]) (rnV (rest := []) ⟨hx, hb, hml, hown, hg⟩ (k_X10_laysWords_0 l V z a1 0 a2 a3 f_4 pz0_0 pz0_5 pz0_6 pz0_7 pz0_8 pz0_9 pz0_10 pz0_11 pz0_12 pz0_13 pz0_14 pz0_18 pz0_19 pz0_22 pz0_23 pz0_29 fz1 ba1 (iv_c (0 : Int32) (by decide)) tf_4 bpz0_5 bpz0_6 bpz0_7 bpz0_8 bpz0_10 bpz0_11 bpz0_12 bpz0_13 bpz0_14 bpz0_18 bpz0_22 bpz0_29 tfz1) mt_X10_laysWords q_7_22 ⟨Nat.le_of_ble_eq_true rfl, Nat.le_of_ble_eq_true rfl⟩ hK hP hD hS hA hE [1, 2, 3] rfl rfl 2 rfl rfl rfl rfl hl.1 rfl (Nat.le_of_ble_eq_true rfl) dX10_nightTo_23 ⟨Nat.le_of_ble_eq_true rfl, Nat.le_of_ble_eq_true rfl⟩) hP hD hS hA [1, 2, 3] [0] rfl rfl rfl (by decide) (fun  w H locs hw hP hD hS => ?_)
      obtain ⟨f_12, tf_12, rfl⟩ := hw
      have hP : va_P V.1 vwCl [(z 15, aI V 900 f_3), (z 16, aI V 6 f_12), (z 0, .inr (10, mo z pz0_0 pz0_5 pz0_6 pz0_7 pz0_8 pz0_9 pz0_10 pz0_11 pz0_12 pz0_13 pz0_14 pz0_18 pz0_19 pz0_22 pz0_23 pz0_29)), (z 1, aI V 3075 fz1)] H := hP
      have hD : va_D A [(z 15, aI V 900 f_3), (z 16, aI V 6 f_12), (z 0, .inr (10, mo z pz0_0 pz0_5 pz0_6 pz0_7 pz0_8 pz0_9 pz0_10 pz0_11 pz0_12 pz0_13 pz0_14 pz0_18 pz0_19 pz0_22 pz0_23 pz0_29)), (z 1, aI V 3075 fz1)] := hD
      refine lv_aload_n hx hb dX10_nightTo_26 rfl (lv_at hl 2 rfl) ?_
      refine jnI (wr := []) (rnV (rest := []) ⟨hx, hb, hml, hown, hg⟩ (k_X10_takesNow_0 l V z f_3 f_12 pz0_0 pz0_5 pz0_6 pz0_7 pz0_8 pz0_9 pz0_10 pz0_11 pz0_12 pz0_13 pz0_14 pz0_18 pz0_19 pz0_22 pz0_23 pz0_29 fz1 tf_12 bpz0_5 bpz0_6 bpz0_7 bpz0_8 bpz0_10 bpz0_11 bpz0_12 bpz0_13 bpz0_14 bpz0_18 bpz0_22 bpz0_29 tfz1 inn_5_1) mt_X10_takesNow q_7_35 ⟨Nat.le_of_ble_eq_true rfl, Nat.le_of_ble_eq_true rfl⟩ hK hP hD hS hA hE [0, 1, 2, 3] rfl rfl 2 rfl rfl rfl rfl hl.1 rfl (Nat.le_of_ble_eq_true rfl) dX10_nightTo_27 ⟨Nat.le_of_ble_eq_true rfl, Nat.le_of_ble_eq_true rfl⟩) hP hD hS hA [0, 1, 2, 3] [] rfl rfl rfl (by decide) (fun r_13 w H locs hw hP hD hS => ?_)
      obtain ⟨f_14, br_13, g_15, rfl⟩ := hw
      have hP : va_P V.1 vwCl [(z 15, aI V 900 f_14), (z 16, aI V 6 f_12), (z 0, .inr (10, mo z pz0_0 pz0_5 pz0_6 pz0_7 pz0_8 pz0_9 pz0_10 pz0_11 pz0_12 pz0_13 pz0_14 pz0_18 pz0_19 pz0_22 pz0_23 pz0_29)), (z 1, aI V 3075 fz1)] H := hP
      have hD : va_D A [(z 15, aI V 900 f_14), (z 16, aI V 6 f_12), (z 0, .inr (10, mo z pz0_0 pz0_5 pz0_6 pz0_7 pz0_8 pz0_9 pz0_10 pz0_11 pz0_12 pz0_13 pz0_14 pz0_18 pz0_19 pz0_22 pz0_23 pz0_29)), (z 1, aI V 3075 fz1)] := hD
      refine lv_if_eq (tgt := 77) hx hb dX10_nightTo_30 (by decide) (fun c_16 => ?_) (fun c_16 => ?_)
      · have b_17 : iv 0 0 r_13 := iv_q c_16 (iv_c (0 : Int32) (a := 0) (b := 0) (by decide))
        refine lv_iload hx hb dX10_nightTo_77 (lv_at hl 1 rfl) ?_
        refine lv_iload hx hb dX10_nightTo_79 (lv_at hl 0 rfl) ?_
        refine jnI (wr := [(z 15, aI V 900 f_14), (z 16, aI V 6 f_12), (z 0, .inr (10, mo z pz0_0 pz0_5 pz0_6 pz0_7 pz0_8 pz0_9 pz0_10 pz0_11 pz0_12 pz0_13 pz0_14 pz0_18 pz0_19 pz0_22 pz0_23 pz0_29)), (z 1, aI V 3075 fz1)]) (rnS (rest := [.int u_2]) ⟨hx, hb, hml, hown, hg⟩ (k_X10_digitOf_0 l V 0 (iv_c (0 : Int32) (by decide))) mt_X10_digitOf q_7_15 ⟨Nat.le_of_ble_eq_true rfl, Nat.le_of_ble_eq_true rfl⟩ hK hP hD hS hA hE [] rfl rfl rfl hl.1 rfl (Nat.le_of_ble_eq_true rfl) dX10_nightTo_81 ⟨Nat.le_of_ble_eq_true rfl, Nat.le_of_ble_eq_true rfl⟩) hP hD hS hA [] [0, 1, 2, 3] rfl rfl rfl (by decide) (fun r_18 w H locs hw hP hD hS => ?_)
        rcases hw with ⟨c_19, c_20, c_21, rfl, rfl⟩ | ⟨c_22, c_23, c_24, rfl, rfl⟩ | ⟨c_25, c_26, rfl, rfl⟩ | ⟨c_27, rfl, rfl⟩
        · have hP : va_P V.1 vwCl [(z 15, aI V 900 f_14), (z 16, aI V 6 f_12), (z 0, .inr (10, mo z pz0_0 pz0_5 pz0_6 pz0_7 pz0_8 pz0_9 pz0_10 pz0_11 pz0_12 pz0_13 pz0_14 pz0_18 pz0_19 pz0_22 pz0_23 pz0_29)), (z 1, aI V 3075 fz1)] H := hP
          have hD : va_D A [(z 15, aI V 900 f_14), (z 16, aI V 6 f_12), (z 0, .inr (10, mo z pz0_0 pz0_5 pz0_6 pz0_7 pz0_8 pz0_9 pz0_10 pz0_11 pz0_12 pz0_13 pz0_14 pz0_18 pz0_19 pz0_22 pz0_23 pz0_29)), (z 1, aI V 3075 fz1)] := hD
          exact absurd c_19 (by decide)
        · have hP : va_P V.1 vwCl [(z 15, aI V 900 f_14), (z 16, aI V 6 f_12), (z 0, .inr (10, mo z pz0_0 pz0_5 pz0_6 pz0_7 pz0_8 pz0_9 pz0_10 pz0_11 pz0_12 pz0_13 pz0_14 pz0_18 pz0_19 pz0_22 pz0_23 pz0_29)), (z 1, aI V 3075 fz1)] H := hP
          have hD : va_D A [(z 15, aI V 900 f_14), (z 16, aI V 6 f_12), (z 0, .inr (10, mo z pz0_0 pz0_5 pz0_6 pz0_7 pz0_8 pz0_9 pz0_10 pz0_11 pz0_12 pz0_13 pz0_14 pz0_18 pz0_19 pz0_22 pz0_23 pz0_29)), (z 1, aI V 3075 fz1)] := hD
          exact absurd c_22 (by decide)
        · have hP : va_P V.1 vwCl [(z 15, aI V 900 f_14), (z 16, aI V 6 f_12), (z 0, .inr (10, mo z pz0_0 pz0_5 pz0_6 pz0_7 pz0_8 pz0_9 pz0_10 pz0_11 pz0_12 pz0_13 pz0_14 pz0_18 pz0_19 pz0_22 pz0_23 pz0_29)), (z 1, aI V 3075 fz1)] H := hP
          have hD : va_D A [(z 15, aI V 900 f_14), (z 16, aI V 6 f_12), (z 0, .inr (10, mo z pz0_0 pz0_5 pz0_6 pz0_7 pz0_8 pz0_9 pz0_10 pz0_11 pz0_12 pz0_13 pz0_14 pz0_18 pz0_19 pz0_22 pz0_23 pz0_29)), (z 1, aI V 3075 fz1)] := hD
          exact absurd c_25 (by decide)
        · have hP : va_P V.1 vwCl [(z 15, aI V 900 f_14), (z 16, aI V 6 f_12), (z 0, .inr (10, mo z pz0_0 pz0_5 pz0_6 pz0_7 pz0_8 pz0_9 pz0_10 pz0_11 pz0_12 pz0_13 pz0_14 pz0_18 pz0_19 pz0_22 pz0_23 pz0_29)), (z 1, aI V 3075 fz1)] H := hP
          have hD : va_D A [(z 15, aI V 900 f_14), (z 16, aI V 6 f_12), (z 0, .inr (10, mo z pz0_0 pz0_5 pz0_6 pz0_7 pz0_8 pz0_9 pz0_10 pz0_11 pz0_12 pz0_13 pz0_14 pz0_18 pz0_19 pz0_22 pz0_23 pz0_29)), (z 1, aI V 3075 fz1)] := hD
          refine lv_aload_n hx hb dX10_nightTo_84 rfl (lv_at hl 2 rfl) ?_
          refine jnI (wr := []) (rnV (rest := [.int 1, .int u_2]) ⟨hx, hb, hml, hown, hg⟩ (k_X10_addedNow_0 l V z f_14 f_12 pz0_0 pz0_5 pz0_6 pz0_7 pz0_8 pz0_9 pz0_10 pz0_11 pz0_12 pz0_13 pz0_14 pz0_18 pz0_19 pz0_22 pz0_23 pz0_29 fz1 tf_12 bpz0_5 bpz0_6 bpz0_7 bpz0_8 bpz0_10 bpz0_11 bpz0_12 bpz0_13 bpz0_14 bpz0_18 bpz0_22 bpz0_29 tfz1 g_15) mt_X10_addedNow q_7_48 ⟨Nat.le_of_ble_eq_true rfl, Nat.le_of_ble_eq_true rfl⟩ hK hP hD hS hA hE [0, 1, 2, 3] rfl rfl 2 rfl rfl rfl rfl hl.1 rfl (Nat.le_of_ble_eq_true rfl) dX10_nightTo_85 ⟨Nat.le_of_ble_eq_true rfl, Nat.le_of_ble_eq_true rfl⟩) hP hD hS hA [0, 1, 2, 3] [] rfl rfl rfl (by decide) (fun r_28 w H locs hw hP hD hS => ?_)
          obtain ⟨f_29, br_28, g_30, rfl⟩ := hw
          have hP : va_P V.1 vwCl [(z 15, aI V 900 f_29), (z 16, aI V 6 f_12), (z 0, .inr (10, mo z pz0_0 pz0_5 pz0_6 pz0_7 pz0_8 pz0_9 pz0_10 pz0_11 pz0_12 pz0_13 pz0_14 pz0_18 pz0_19 pz0_22 pz0_23 pz0_29)), (z 1, aI V 3075 fz1)] H := hP
          have hD : va_D A [(z 15, aI V 900 f_29), (z 16, aI V 6 f_12), (z 0, .inr (10, mo z pz0_0 pz0_5 pz0_6 pz0_7 pz0_8 pz0_9 pz0_10 pz0_11 pz0_12 pz0_13 pz0_14 pz0_18 pz0_19 pz0_22 pz0_23 pz0_29)), (z 1, aI V 3075 fz1)] := hD
          refine lv_imul hx hb dX10_nightTo_88 ?_
          refine lv_topi (fun x_31 ex_31 => ?_)
          have bx_31 : iv 0 4 x_31 := by rw [ex_31]; exact iv_cmul (iv_c (1 : Int32) (a := 1) (b := 1) (by decide)) br_28 (by decide)
          refine lv_iadd hx hb dX10_nightTo_89 ?_
          refine lv_topi (fun x_32 ex_32 => ?_)
          have bx_32 : iv 0 4 x_32 := by rw [ex_32]; exact iv_add b_11 bx_31 (by decide)
          refine lv_istore (lv' := [(4, .int x_32), (5, .int 0), (0, .ref (z 0)), (1, .int a1), (2, .int a2), (3, .int a3)]) hx hb dX10_nightTo_90 hl (by decide) rfl (fun ls hl => ?_)
          refine lv_iinc (v := 1) (lv' := [(5, .int 1), (4, .int x_32), (0, .ref (z 0)), (1, .int a1), (2, .int a2), (3, .int a3)]) hx hb dX10_nightTo_92 hl (k := 1) rfl (by decide +kernel) (by decide) rfl (fun ls hl => ?_)
          refine lv_goto (tgt := 6) hx hb dX10_nightTo_95 (by decide) ?_
          exact ihn_5 _ _ _ _ (by rw [en_5]; decide) ⟨1, x_32, f_29, f_12, (iv_c (1 : Int32) (by decide)), (iv_w bx_32 (by decide)), tf_12, (nb_o bx_32 (by decide)), g_30, rfl, hP, hD, hS, lv_sub hl [0, 1, 2, 3, 4, 5] rfl⟩
      · have b_33 : iv 1 1 r_13 := iv_n0 c_16 br_13 (iv_c (0 : Int32) (a := 0) (b := 0) (by decide)) (by decide)
        refine lv_iload hx hb dX10_nightTo_33 (lv_at hl 1 rfl) ?_
        refine lv_sipush (v := 625) hx hb dX10_nightTo_35 (by decide) ?_
        refine lv_iconst (v := 1) hx hb dX10_nightTo_38 (by decide) ?_
        refine lv_iload hx hb dX10_nightTo_39 (lv_at hl 0 rfl) ?_
        refine lv_ishl hx hb dX10_nightTo_41 ?_
        refine tpi (y := 1) (by decide +kernel) ?_
        refine lv_imul hx hb dX10_nightTo_42 ?_
        refine tpi (y := 625) (by decide +kernel) ?_
        refine lv_iload hx hb dX10_nightTo_43 (lv_at hl 0 rfl) ?_
        refine jnI (wr := [(z 15, aI V 900 f_14), (z 16, aI V 6 f_12), (z 0, .inr (10, mo z pz0_0 pz0_5 pz0_6 pz0_7 pz0_8 pz0_9 pz0_10 pz0_11 pz0_12 pz0_13 pz0_14 pz0_18 pz0_19 pz0_22 pz0_23 pz0_29)), (z 1, aI V 3075 fz1)]) (rnS (rest := [.int 625, .int u_2]) ⟨hx, hb, hml, hown, hg⟩ (k_X10_digitOf_0 l V 0 (iv_c (0 : Int32) (by decide))) mt_X10_digitOf q_7_15 ⟨Nat.le_of_ble_eq_true rfl, Nat.le_of_ble_eq_true rfl⟩ hK hP hD hS hA hE [] rfl rfl rfl hl.1 rfl (Nat.le_of_ble_eq_true rfl) dX10_nightTo_45 ⟨Nat.le_of_ble_eq_true rfl, Nat.le_of_ble_eq_true rfl⟩) hP hD hS hA [] [0, 1, 2, 3] rfl rfl rfl (by decide) (fun r_34 w H locs hw hP hD hS => ?_)
        rcases hw with ⟨c_35, c_36, c_37, rfl, rfl⟩ | ⟨c_38, c_39, c_40, rfl, rfl⟩ | ⟨c_41, c_42, rfl, rfl⟩ | ⟨c_43, rfl, rfl⟩
        · have hP : va_P V.1 vwCl [(z 15, aI V 900 f_14), (z 16, aI V 6 f_12), (z 0, .inr (10, mo z pz0_0 pz0_5 pz0_6 pz0_7 pz0_8 pz0_9 pz0_10 pz0_11 pz0_12 pz0_13 pz0_14 pz0_18 pz0_19 pz0_22 pz0_23 pz0_29)), (z 1, aI V 3075 fz1)] H := hP
          have hD : va_D A [(z 15, aI V 900 f_14), (z 16, aI V 6 f_12), (z 0, .inr (10, mo z pz0_0 pz0_5 pz0_6 pz0_7 pz0_8 pz0_9 pz0_10 pz0_11 pz0_12 pz0_13 pz0_14 pz0_18 pz0_19 pz0_22 pz0_23 pz0_29)), (z 1, aI V 3075 fz1)] := hD
          exact absurd c_35 (by decide)
        · have hP : va_P V.1 vwCl [(z 15, aI V 900 f_14), (z 16, aI V 6 f_12), (z 0, .inr (10, mo z pz0_0 pz0_5 pz0_6 pz0_7 pz0_8 pz0_9 pz0_10 pz0_11 pz0_12 pz0_13 pz0_14 pz0_18 pz0_19 pz0_22 pz0_23 pz0_29)), (z 1, aI V 3075 fz1)] H := hP
          have hD : va_D A [(z 15, aI V 900 f_14), (z 16, aI V 6 f_12), (z 0, .inr (10, mo z pz0_0 pz0_5 pz0_6 pz0_7 pz0_8 pz0_9 pz0_10 pz0_11 pz0_12 pz0_13 pz0_14 pz0_18 pz0_19 pz0_22 pz0_23 pz0_29)), (z 1, aI V 3075 fz1)] := hD
          exact absurd c_38 (by decide)
        · have hP : va_P V.1 vwCl [(z 15, aI V 900 f_14), (z 16, aI V 6 f_12), (z 0, .inr (10, mo z pz0_0 pz0_5 pz0_6 pz0_7 pz0_8 pz0_9 pz0_10 pz0_11 pz0_12 pz0_13 pz0_14 pz0_18 pz0_19 pz0_22 pz0_23 pz0_29)), (z 1, aI V 3075 fz1)] H := hP
          have hD : va_D A [(z 15, aI V 900 f_14), (z 16, aI V 6 f_12), (z 0, .inr (10, mo z pz0_0 pz0_5 pz0_6 pz0_7 pz0_8 pz0_9 pz0_10 pz0_11 pz0_12 pz0_13 pz0_14 pz0_18 pz0_19 pz0_22 pz0_23 pz0_29)), (z 1, aI V 3075 fz1)] := hD
          exact absurd c_41 (by decide)
        · have hP : va_P V.1 vwCl [(z 15, aI V 900 f_14), (z 16, aI V 6 f_12), (z 0, .inr (10, mo z pz0_0 pz0_5 pz0_6 pz0_7 pz0_8 pz0_9 pz0_10 pz0_11 pz0_12 pz0_13 pz0_14 pz0_18 pz0_19 pz0_22 pz0_23 pz0_29)), (z 1, aI V 3075 fz1)] H := hP
          have hD : va_D A [(z 15, aI V 900 f_14), (z 16, aI V 6 f_12), (z 0, .inr (10, mo z pz0_0 pz0_5 pz0_6 pz0_7 pz0_8 pz0_9 pz0_10 pz0_11 pz0_12 pz0_13 pz0_14 pz0_18 pz0_19 pz0_22 pz0_23 pz0_29)), (z 1, aI V 3075 fz1)] := hD
          refine lv_aload_n hx hb dX10_nightTo_48 rfl (lv_at hl 2 rfl) ?_
          refine va_get (ci := 10) (v := .ref (z 16)) (C := RX10) (T := TX10) (N := 40) hx hb hg inX10 hown hK hP 2 rfl rfl 16 (by decide) (hg _ q_6_0) (fun _ h9 => h9) rfl dX10_nightTo_49 ?_
          refine lv_iconst (v := 1) hx hb dX10_nightTo_52 (by decide) ?_
          refine va_iald hx hb hK hP 1 0 rfl rfl (vin (by decide +kernel)) dX10_nightTo_53 ?_
          refine lv_topi (fun x_44 ex_44 => ?_)
          have bx_44 : iv 0 4 x_44 := by rw [ex_44]; exact rdT (a := 1) (n := 1) tf_12 (iv_c (1 : Int32) (a := 1) (b := 1) (by decide)) (by decide) (by decide +kernel)
          refine lv_if_le (tgt := 68) hx hb dX10_nightTo_54 (by decide) (fun c_45 => ?_) (fun c_45 => ?_)
          · have b_46 : iv 0 0 x_44 := iv_e1 c_45 bx_44 (iv_c (0 : Int32) (a := 0) (b := 0) (by decide)) (by decide)
            refine lv_iconst (v := 0) hx hb dX10_nightTo_68 (by decide) ?_
            refine lv_imul hx hb dX10_nightTo_69 ?_
            refine tpi (y := 0) (by decide +kernel) ?_
            refine lv_iadd hx hb dX10_nightTo_70 ?_
            refine tpi (y := 625) (by decide +kernel) ?_
            refine lv_iadd hx hb dX10_nightTo_71 ?_
            refine lv_topi (fun x_47 ex_47 => ?_)
            have bx_47 : iv 625 625 x_47 := by rw [ex_47]; exact iv_add b_11 (iv_c (625 : Int32) (a := 625) (b := 625) (by decide)) (by decide)
            refine lv_istore (lv' := [(4, .int x_47), (5, .int 0), (0, .ref (z 0)), (1, .int a1), (2, .int a2), (3, .int a3)]) hx hb dX10_nightTo_72 hl (by decide) rfl (fun ls hl => ?_)
            refine lv_goto (tgt := 92) hx hb dX10_nightTo_74 (by decide) ?_
            refine lv_iinc (v := 1) (lv' := [(5, .int 1), (4, .int x_47), (0, .ref (z 0)), (1, .int a1), (2, .int a2), (3, .int a3)]) hx hb dX10_nightTo_92 hl (k := 1) rfl (by decide +kernel) (by decide) rfl (fun ls hl => ?_)
            refine lv_goto (tgt := 6) hx hb dX10_nightTo_95 (by decide) ?_
            exact ihn_5 _ _ _ _ (by rw [en_5]; decide) ⟨1, x_47, f_14, f_12, (iv_c (1 : Int32) (by decide)), (iv_w bx_47 (by decide)), tf_12, (nb_o bx_47 (by decide)), g_15, rfl, hP, hD, hS, lv_sub hl [0, 1, 2, 3, 4, 5] rfl⟩
          · have b_48 : iv 1 4 x_44 := iv_l2 (Int32.not_le.mp c_45) (iv_c (0 : Int32) (a := 0) (b := 0) (by decide)) bx_44 (by decide)
            refine lv_aload_n hx hb dX10_nightTo_57 rfl (lv_at hl 2 rfl) ?_
            refine va_get (ci := 10) (v := .ref (z 16)) (C := RX10) (T := TX10) (N := 40) hx hb hg inX10 hown hK hP 2 rfl rfl 16 (by decide) (hg _ q_6_0) (fun _ h9 => h9) rfl dX10_nightTo_58 ?_
            refine lv_iconst (v := 1) hx hb dX10_nightTo_61 (by decide) ?_
            refine va_iald hx hb hK hP 1 0 rfl rfl (vin (by decide +kernel)) dX10_nightTo_62 ?_
            refine tpi (y := x_44) ex_44.symm ?_
            refine lv_iconst (v := 1) hx hb dX10_nightTo_63 (by decide) ?_
            refine lv_isub hx hb dX10_nightTo_64 ?_
            refine lv_topi (fun x_49 ex_49 => ?_)
            have bx_49 : iv 0 3 x_49 := by rw [ex_49]; exact iv_sub b_48 (iv_c (1 : Int32) (a := 1) (b := 1) (by decide)) (by decide)
            refine lv_goto (tgt := 69) hx hb dX10_nightTo_65 (by decide) ?_
            refine lv_imul hx hb dX10_nightTo_69 ?_
            refine lv_topi (fun x_50 ex_50 => ?_)
            have bx_50 : iv 0 3 x_50 := by rw [ex_50]; exact iv_cmul (iv_c (1 : Int32) (a := 1) (b := 1) (by decide)) bx_49 (by decide)
            refine lv_iadd hx hb dX10_nightTo_70 ?_
            refine lv_topi (fun x_51 ex_51 => ?_)
            have bx_51 : iv 625 628 x_51 := by rw [ex_51]; exact iv_add (iv_c (625 : Int32) (a := 625) (b := 625) (by decide)) bx_50 (by decide)
            refine lv_iadd hx hb dX10_nightTo_71 ?_
            refine lv_topi (fun x_52 ex_52 => ?_)
            have bx_52 : iv 625 628 x_52 := by rw [ex_52]; exact iv_add b_11 bx_51 (by decide)
            refine lv_istore (lv' := [(4, .int x_52), (5, .int 0), (0, .ref (z 0)), (1, .int a1), (2, .int a2), (3, .int a3)]) hx hb dX10_nightTo_72 hl (by decide) rfl (fun ls hl => ?_)
            refine lv_goto (tgt := 92) hx hb dX10_nightTo_74 (by decide) ?_
            refine lv_iinc (v := 1) (lv' := [(5, .int 1), (4, .int x_52), (0, .ref (z 0)), (1, .int a1), (2, .int a2), (3, .int a3)]) hx hb dX10_nightTo_92 hl (k := 1) rfl (by decide +kernel) (by decide) rfl (fun ls hl => ?_)
            refine lv_goto (tgt := 6) hx hb dX10_nightTo_95 (by decide) ?_
            exact ihn_5 _ _ _ _ (by rw [en_5]; decide) ⟨1, x_52, f_14, f_12, (iv_c (1 : Int32) (by decide)), (iv_w bx_52 (by decide)), tf_12, (nb_o bx_52 (by decide)), g_15, rfl, hP, hD, hS, lv_sub hl [0, 1, 2, 3, 4, 5] rfl⟩
    · have b_53 : iv 0 628 u_2 := nb_i inn_5_0 (by decide)
      refine lv_aload_n hx hb dX10_nightTo_17 rfl (lv_at hl 2 rfl) ?_
      refine lv_iload_n hx hb dX10_nightTo_18 rfl (lv_at hl 3 rfl) ?_
      refine lv_iload hx hb dX10_nightTo_19 (lv_at hl 0 rfl) ?_
      refine lv_iload_n hx hb dX10_nightTo_21 rfl (lv_at hl 4 rfl) ?_
      refine lv_iload_n hx hb dX10_nightTo_22 rfl (lv_at hl 5 rfl) ?_
      refine jnV (wr := [(z 15, aI V 900 f_3)]) (rnV (rest := []) ⟨hx, hb, hml, hown, hg⟩ (k_X10_laysWords_0 l V z a1 1 a2 a3 f_4 pz0_0 pz0_5 pz0_6 pz0_7 pz0_8 pz0_9 pz0_10 pz0_11 pz0_12 pz0_13 pz0_14 pz0_18 pz0_19 pz0_22 pz0_23 pz0_29 fz1 ba1 (iv_c (1 : Int32) (by decide)) tf_4 bpz0_5 bpz0_6 bpz0_7 bpz0_8 bpz0_10 bpz0_11 bpz0_12 bpz0_13 bpz0_14 bpz0_18 bpz0_22 bpz0_29 tfz1) mt_X10_laysWords q_7_22 ⟨Nat.le_of_ble_eq_true rfl, Nat.le_of_ble_eq_true rfl⟩ hK hP hD hS hA hE [1, 2, 3] rfl rfl 2 rfl rfl rfl rfl hl.1 rfl (Nat.le_of_ble_eq_true rfl) dX10_nightTo_23 ⟨Nat.le_of_ble_eq_true rfl, Nat.le_of_ble_eq_true rfl⟩) hP hD hS hA [1, 2, 3] [0] rfl rfl rfl (by decide) (fun  w H locs hw hP hD hS => ?_)
      obtain ⟨f_54, tf_54, rfl⟩ := hw
      have hP : va_P V.1 vwCl [(z 15, aI V 900 f_3), (z 16, aI V 6 f_54), (z 0, .inr (10, mo z pz0_0 pz0_5 pz0_6 pz0_7 pz0_8 pz0_9 pz0_10 pz0_11 pz0_12 pz0_13 pz0_14 pz0_18 pz0_19 pz0_22 pz0_23 pz0_29)), (z 1, aI V 3075 fz1)] H := hP
      have hD : va_D A [(z 15, aI V 900 f_3), (z 16, aI V 6 f_54), (z 0, .inr (10, mo z pz0_0 pz0_5 pz0_6 pz0_7 pz0_8 pz0_9 pz0_10 pz0_11 pz0_12 pz0_13 pz0_14 pz0_18 pz0_19 pz0_22 pz0_23 pz0_29)), (z 1, aI V 3075 fz1)] := hD
      refine lv_aload_n hx hb dX10_nightTo_26 rfl (lv_at hl 2 rfl) ?_
      refine jnI (wr := []) (rnV (rest := []) ⟨hx, hb, hml, hown, hg⟩ (k_X10_takesNow_0 l V z f_3 f_54 pz0_0 pz0_5 pz0_6 pz0_7 pz0_8 pz0_9 pz0_10 pz0_11 pz0_12 pz0_13 pz0_14 pz0_18 pz0_19 pz0_22 pz0_23 pz0_29 fz1 tf_54 bpz0_5 bpz0_6 bpz0_7 bpz0_8 bpz0_10 bpz0_11 bpz0_12 bpz0_13 bpz0_14 bpz0_18 bpz0_22 bpz0_29 tfz1 inn_5_1) mt_X10_takesNow q_7_35 ⟨Nat.le_of_ble_eq_true rfl, Nat.le_of_ble_eq_true rfl⟩ hK hP hD hS hA hE [0, 1, 2, 3] rfl rfl 2 rfl rfl rfl rfl hl.1 rfl (Nat.le_of_ble_eq_true rfl) dX10_nightTo_27 ⟨Nat.le_of_ble_eq_true rfl, Nat.le_of_ble_eq_true rfl⟩) hP hD hS hA [0, 1, 2, 3] [] rfl rfl rfl (by decide) (fun r_55 w H locs hw hP hD hS => ?_)
      obtain ⟨f_56, br_55, g_57, rfl⟩ := hw
      have hP : va_P V.1 vwCl [(z 15, aI V 900 f_56), (z 16, aI V 6 f_54), (z 0, .inr (10, mo z pz0_0 pz0_5 pz0_6 pz0_7 pz0_8 pz0_9 pz0_10 pz0_11 pz0_12 pz0_13 pz0_14 pz0_18 pz0_19 pz0_22 pz0_23 pz0_29)), (z 1, aI V 3075 fz1)] H := hP
      have hD : va_D A [(z 15, aI V 900 f_56), (z 16, aI V 6 f_54), (z 0, .inr (10, mo z pz0_0 pz0_5 pz0_6 pz0_7 pz0_8 pz0_9 pz0_10 pz0_11 pz0_12 pz0_13 pz0_14 pz0_18 pz0_19 pz0_22 pz0_23 pz0_29)), (z 1, aI V 3075 fz1)] := hD
      refine lv_if_eq (tgt := 77) hx hb dX10_nightTo_30 (by decide) (fun c_58 => ?_) (fun c_58 => ?_)
      · have b_59 : iv 0 0 r_55 := iv_q c_58 (iv_c (0 : Int32) (a := 0) (b := 0) (by decide))
        refine lv_iload hx hb dX10_nightTo_77 (lv_at hl 1 rfl) ?_
        refine lv_iload hx hb dX10_nightTo_79 (lv_at hl 0 rfl) ?_
        refine jnI (wr := [(z 15, aI V 900 f_56), (z 16, aI V 6 f_54), (z 0, .inr (10, mo z pz0_0 pz0_5 pz0_6 pz0_7 pz0_8 pz0_9 pz0_10 pz0_11 pz0_12 pz0_13 pz0_14 pz0_18 pz0_19 pz0_22 pz0_23 pz0_29)), (z 1, aI V 3075 fz1)]) (rnS (rest := [.int u_2]) ⟨hx, hb, hml, hown, hg⟩ (k_X10_digitOf_0 l V 1 (iv_c (1 : Int32) (by decide))) mt_X10_digitOf q_7_15 ⟨Nat.le_of_ble_eq_true rfl, Nat.le_of_ble_eq_true rfl⟩ hK hP hD hS hA hE [] rfl rfl rfl hl.1 rfl (Nat.le_of_ble_eq_true rfl) dX10_nightTo_81 ⟨Nat.le_of_ble_eq_true rfl, Nat.le_of_ble_eq_true rfl⟩) hP hD hS hA [] [0, 1, 2, 3] rfl rfl rfl (by decide) (fun r_60 w H locs hw hP hD hS => ?_)
        rcases hw with ⟨c_61, c_62, c_63, rfl, rfl⟩ | ⟨c_64, c_65, c_66, rfl, rfl⟩ | ⟨c_67, c_68, rfl, rfl⟩ | ⟨c_69, rfl, rfl⟩
        · have hP : va_P V.1 vwCl [(z 15, aI V 900 f_56), (z 16, aI V 6 f_54), (z 0, .inr (10, mo z pz0_0 pz0_5 pz0_6 pz0_7 pz0_8 pz0_9 pz0_10 pz0_11 pz0_12 pz0_13 pz0_14 pz0_18 pz0_19 pz0_22 pz0_23 pz0_29)), (z 1, aI V 3075 fz1)] H := hP
          have hD : va_D A [(z 15, aI V 900 f_56), (z 16, aI V 6 f_54), (z 0, .inr (10, mo z pz0_0 pz0_5 pz0_6 pz0_7 pz0_8 pz0_9 pz0_10 pz0_11 pz0_12 pz0_13 pz0_14 pz0_18 pz0_19 pz0_22 pz0_23 pz0_29)), (z 1, aI V 3075 fz1)] := hD
          exact absurd c_62 (by decide)
        · have hP : va_P V.1 vwCl [(z 15, aI V 900 f_56), (z 16, aI V 6 f_54), (z 0, .inr (10, mo z pz0_0 pz0_5 pz0_6 pz0_7 pz0_8 pz0_9 pz0_10 pz0_11 pz0_12 pz0_13 pz0_14 pz0_18 pz0_19 pz0_22 pz0_23 pz0_29)), (z 1, aI V 3075 fz1)] H := hP
          have hD : va_D A [(z 15, aI V 900 f_56), (z 16, aI V 6 f_54), (z 0, .inr (10, mo z pz0_0 pz0_5 pz0_6 pz0_7 pz0_8 pz0_9 pz0_10 pz0_11 pz0_12 pz0_13 pz0_14 pz0_18 pz0_19 pz0_22 pz0_23 pz0_29)), (z 1, aI V 3075 fz1)] := hD
          exact absurd c_65 (by decide)
        · have hP : va_P V.1 vwCl [(z 15, aI V 900 f_56), (z 16, aI V 6 f_54), (z 0, .inr (10, mo z pz0_0 pz0_5 pz0_6 pz0_7 pz0_8 pz0_9 pz0_10 pz0_11 pz0_12 pz0_13 pz0_14 pz0_18 pz0_19 pz0_22 pz0_23 pz0_29)), (z 1, aI V 3075 fz1)] H := hP
          have hD : va_D A [(z 15, aI V 900 f_56), (z 16, aI V 6 f_54), (z 0, .inr (10, mo z pz0_0 pz0_5 pz0_6 pz0_7 pz0_8 pz0_9 pz0_10 pz0_11 pz0_12 pz0_13 pz0_14 pz0_18 pz0_19 pz0_22 pz0_23 pz0_29)), (z 1, aI V 3075 fz1)] := hD
          refine lv_aload_n hx hb dX10_nightTo_84 rfl (lv_at hl 2 rfl) ?_
          refine jnI (wr := []) (rnV (rest := [.int 5, .int u_2]) ⟨hx, hb, hml, hown, hg⟩ (k_X10_addedNow_0 l V z f_56 f_54 pz0_0 pz0_5 pz0_6 pz0_7 pz0_8 pz0_9 pz0_10 pz0_11 pz0_12 pz0_13 pz0_14 pz0_18 pz0_19 pz0_22 pz0_23 pz0_29 fz1 tf_54 bpz0_5 bpz0_6 bpz0_7 bpz0_8 bpz0_10 bpz0_11 bpz0_12 bpz0_13 bpz0_14 bpz0_18 bpz0_22 bpz0_29 tfz1 g_57) mt_X10_addedNow q_7_48 ⟨Nat.le_of_ble_eq_true rfl, Nat.le_of_ble_eq_true rfl⟩ hK hP hD hS hA hE [0, 1, 2, 3] rfl rfl 2 rfl rfl rfl rfl hl.1 rfl (Nat.le_of_ble_eq_true rfl) dX10_nightTo_85 ⟨Nat.le_of_ble_eq_true rfl, Nat.le_of_ble_eq_true rfl⟩) hP hD hS hA [0, 1, 2, 3] [] rfl rfl rfl (by decide) (fun r_70 w H locs hw hP hD hS => ?_)
          obtain ⟨f_71, br_70, g_72, rfl⟩ := hw
          have hP : va_P V.1 vwCl [(z 15, aI V 900 f_71), (z 16, aI V 6 f_54), (z 0, .inr (10, mo z pz0_0 pz0_5 pz0_6 pz0_7 pz0_8 pz0_9 pz0_10 pz0_11 pz0_12 pz0_13 pz0_14 pz0_18 pz0_19 pz0_22 pz0_23 pz0_29)), (z 1, aI V 3075 fz1)] H := hP
          have hD : va_D A [(z 15, aI V 900 f_71), (z 16, aI V 6 f_54), (z 0, .inr (10, mo z pz0_0 pz0_5 pz0_6 pz0_7 pz0_8 pz0_9 pz0_10 pz0_11 pz0_12 pz0_13 pz0_14 pz0_18 pz0_19 pz0_22 pz0_23 pz0_29)), (z 1, aI V 3075 fz1)] := hD
          refine lv_imul hx hb dX10_nightTo_88 ?_
          refine lv_topi (fun x_73 ex_73 => ?_)
          have bx_73 : iv 0 20 x_73 := by rw [ex_73]; exact iv_cmul (iv_c (5 : Int32) (a := 5) (b := 5) (by decide)) br_70 (by decide)
          refine lv_iadd hx hb dX10_nightTo_89 ?_
          refine lv_topi (fun x_74 ex_74 => ?_)
          have bx_74 : iv 0 648 x_74 := by rw [ex_74]; exact iv_add b_53 bx_73 (by decide)
          refine lv_istore (lv' := [(4, .int x_74), (5, .int 1), (0, .ref (z 0)), (1, .int a1), (2, .int a2), (3, .int a3)]) hx hb dX10_nightTo_90 hl (by decide) rfl (fun ls hl => ?_)
          refine lv_iinc (v := 2) (lv' := [(5, .int 2), (4, .int x_74), (0, .ref (z 0)), (1, .int a1), (2, .int a2), (3, .int a3)]) hx hb dX10_nightTo_92 hl (k := 1) rfl (by decide +kernel) (by decide) rfl (fun ls hl => ?_)
          refine lv_goto (tgt := 6) hx hb dX10_nightTo_95 (by decide) ?_
          exact ihn_5 _ _ _ _ (by rw [en_5]; decide) ⟨2, x_74, f_71, f_54, (iv_c (2 : Int32) (by decide)), (iv_w bx_74 (by decide)), tf_54, (nb_o bx_74 (by decide)), g_72, rfl, hP, hD, hS, lv_sub hl [0, 1, 2, 3, 4, 5] rfl⟩
        · have hP : va_P V.1 vwCl [(z 15, aI V 900 f_56), (z 16, aI V 6 f_54), (z 0, .inr (10, mo z pz0_0 pz0_5 pz0_6 pz0_7 pz0_8 pz0_9 pz0_10 pz0_11 pz0_12 pz0_13 pz0_14 pz0_18 pz0_19 pz0_22 pz0_23 pz0_29)), (z 1, aI V 3075 fz1)] H := hP
          have hD : va_D A [(z 15, aI V 900 f_56), (z 16, aI V 6 f_54), (z 0, .inr (10, mo z pz0_0 pz0_5 pz0_6 pz0_7 pz0_8 pz0_9 pz0_10 pz0_11 pz0_12 pz0_13 pz0_14 pz0_18 pz0_19 pz0_22 pz0_23 pz0_29)), (z 1, aI V 3075 fz1)] := hD
          exact absurd c_69 (by decide)
      · have b_75 : iv 1 1 r_55 := iv_n0 c_58 br_55 (iv_c (0 : Int32) (a := 0) (b := 0) (by decide)) (by decide)
        refine lv_iload hx hb dX10_nightTo_33 (lv_at hl 1 rfl) ?_
        refine lv_sipush (v := 625) hx hb dX10_nightTo_35 (by decide) ?_
        refine lv_iconst (v := 1) hx hb dX10_nightTo_38 (by decide) ?_
        refine lv_iload hx hb dX10_nightTo_39 (lv_at hl 0 rfl) ?_
        refine lv_ishl hx hb dX10_nightTo_41 ?_
        refine tpi (y := 2) (by decide +kernel) ?_
        refine lv_imul hx hb dX10_nightTo_42 ?_
        refine tpi (y := 1250) (by decide +kernel) ?_
        refine lv_iload hx hb dX10_nightTo_43 (lv_at hl 0 rfl) ?_
        refine jnI (wr := [(z 15, aI V 900 f_56), (z 16, aI V 6 f_54), (z 0, .inr (10, mo z pz0_0 pz0_5 pz0_6 pz0_7 pz0_8 pz0_9 pz0_10 pz0_11 pz0_12 pz0_13 pz0_14 pz0_18 pz0_19 pz0_22 pz0_23 pz0_29)), (z 1, aI V 3075 fz1)]) (rnS (rest := [.int 1250, .int u_2]) ⟨hx, hb, hml, hown, hg⟩ (k_X10_digitOf_0 l V 1 (iv_c (1 : Int32) (by decide))) mt_X10_digitOf q_7_15 ⟨Nat.le_of_ble_eq_true rfl, Nat.le_of_ble_eq_true rfl⟩ hK hP hD hS hA hE [] rfl rfl rfl hl.1 rfl (Nat.le_of_ble_eq_true rfl) dX10_nightTo_45 ⟨Nat.le_of_ble_eq_true rfl, Nat.le_of_ble_eq_true rfl⟩) hP hD hS hA [] [0, 1, 2, 3] rfl rfl rfl (by decide) (fun r_76 w H locs hw hP hD hS => ?_)
        rcases hw with ⟨c_77, c_78, c_79, rfl, rfl⟩ | ⟨c_80, c_81, c_82, rfl, rfl⟩ | ⟨c_83, c_84, rfl, rfl⟩ | ⟨c_85, rfl, rfl⟩
        · have hP : va_P V.1 vwCl [(z 15, aI V 900 f_56), (z 16, aI V 6 f_54), (z 0, .inr (10, mo z pz0_0 pz0_5 pz0_6 pz0_7 pz0_8 pz0_9 pz0_10 pz0_11 pz0_12 pz0_13 pz0_14 pz0_18 pz0_19 pz0_22 pz0_23 pz0_29)), (z 1, aI V 3075 fz1)] H := hP
          have hD : va_D A [(z 15, aI V 900 f_56), (z 16, aI V 6 f_54), (z 0, .inr (10, mo z pz0_0 pz0_5 pz0_6 pz0_7 pz0_8 pz0_9 pz0_10 pz0_11 pz0_12 pz0_13 pz0_14 pz0_18 pz0_19 pz0_22 pz0_23 pz0_29)), (z 1, aI V 3075 fz1)] := hD
          exact absurd c_78 (by decide)
        · have hP : va_P V.1 vwCl [(z 15, aI V 900 f_56), (z 16, aI V 6 f_54), (z 0, .inr (10, mo z pz0_0 pz0_5 pz0_6 pz0_7 pz0_8 pz0_9 pz0_10 pz0_11 pz0_12 pz0_13 pz0_14 pz0_18 pz0_19 pz0_22 pz0_23 pz0_29)), (z 1, aI V 3075 fz1)] H := hP
          have hD : va_D A [(z 15, aI V 900 f_56), (z 16, aI V 6 f_54), (z 0, .inr (10, mo z pz0_0 pz0_5 pz0_6 pz0_7 pz0_8 pz0_9 pz0_10 pz0_11 pz0_12 pz0_13 pz0_14 pz0_18 pz0_19 pz0_22 pz0_23 pz0_29)), (z 1, aI V 3075 fz1)] := hD
          exact absurd c_81 (by decide)
        · have hP : va_P V.1 vwCl [(z 15, aI V 900 f_56), (z 16, aI V 6 f_54), (z 0, .inr (10, mo z pz0_0 pz0_5 pz0_6 pz0_7 pz0_8 pz0_9 pz0_10 pz0_11 pz0_12 pz0_13 pz0_14 pz0_18 pz0_19 pz0_22 pz0_23 pz0_29)), (z 1, aI V 3075 fz1)] H := hP
          have hD : va_D A [(z 15, aI V 900 f_56), (z 16, aI V 6 f_54), (z 0, .inr (10, mo z pz0_0 pz0_5 pz0_6 pz0_7 pz0_8 pz0_9 pz0_10 pz0_11 pz0_12 pz0_13 pz0_14 pz0_18 pz0_19 pz0_22 pz0_23 pz0_29)), (z 1, aI V 3075 fz1)] := hD
          refine lv_aload_n hx hb dX10_nightTo_48 rfl (lv_at hl 2 rfl) ?_
          refine va_get (ci := 10) (v := .ref (z 16)) (C := RX10) (T := TX10) (N := 40) hx hb hg inX10 hown hK hP 2 rfl rfl 16 (by decide) (hg _ q_6_0) (fun _ h9 => h9) rfl dX10_nightTo_49 ?_
          refine lv_iconst (v := 1) hx hb dX10_nightTo_52 (by decide) ?_
          refine va_iald hx hb hK hP 1 0 rfl rfl (vin (by decide +kernel)) dX10_nightTo_53 ?_
          refine lv_topi (fun x_86 ex_86 => ?_)
          have bx_86 : iv 0 4 x_86 := by rw [ex_86]; exact rdT (a := 1) (n := 1) tf_54 (iv_c (1 : Int32) (a := 1) (b := 1) (by decide)) (by decide) (by decide +kernel)
          refine lv_if_le (tgt := 68) hx hb dX10_nightTo_54 (by decide) (fun c_87 => ?_) (fun c_87 => ?_)
          · have b_88 : iv 0 0 x_86 := iv_e1 c_87 bx_86 (iv_c (0 : Int32) (a := 0) (b := 0) (by decide)) (by decide)
            refine lv_iconst (v := 0) hx hb dX10_nightTo_68 (by decide) ?_
            refine lv_imul hx hb dX10_nightTo_69 ?_
            refine tpi (y := 0) (by decide +kernel) ?_
            refine lv_iadd hx hb dX10_nightTo_70 ?_
            refine tpi (y := 1250) (by decide +kernel) ?_
            refine lv_iadd hx hb dX10_nightTo_71 ?_
            refine lv_topi (fun x_89 ex_89 => ?_)
            have bx_89 : iv 1250 1878 x_89 := by rw [ex_89]; exact iv_add b_53 (iv_c (1250 : Int32) (a := 1250) (b := 1250) (by decide)) (by decide)
            refine lv_istore (lv' := [(4, .int x_89), (5, .int 1), (0, .ref (z 0)), (1, .int a1), (2, .int a2), (3, .int a3)]) hx hb dX10_nightTo_72 hl (by decide) rfl (fun ls hl => ?_)
            refine lv_goto (tgt := 92) hx hb dX10_nightTo_74 (by decide) ?_
            refine lv_iinc (v := 2) (lv' := [(5, .int 2), (4, .int x_89), (0, .ref (z 0)), (1, .int a1), (2, .int a2), (3, .int a3)]) hx hb dX10_nightTo_92 hl (k := 1) rfl (by decide +kernel) (by decide) rfl (fun ls hl => ?_)
            refine lv_goto (tgt := 6) hx hb dX10_nightTo_95 (by decide) ?_
            exact ihn_5 _ _ _ _ (by rw [en_5]; decide) ⟨2, x_89, f_56, f_54, (iv_c (2 : Int32) (by decide)), (iv_w bx_89 (by decide)), tf_54, (nb_o bx_89 (by decide)), g_57, rfl, hP, hD, hS, lv_sub hl [0, 1, 2, 3, 4, 5] rfl⟩
          · have b_90 : iv 1 4 x_86 := iv_l2 (Int32.not_le.mp c_87) (iv_c (0 : Int32) (a := 0) (b := 0) (by decide)) bx_86 (by decide)
            refine lv_aload_n hx hb dX10_nightTo_57 rfl (lv_at hl 2 rfl) ?_
            refine va_get (ci := 10) (v := .ref (z 16)) (C := RX10) (T := TX10) (N := 40) hx hb hg inX10 hown hK hP 2 rfl rfl 16 (by decide) (hg _ q_6_0) (fun _ h9 => h9) rfl dX10_nightTo_58 ?_
            refine lv_iconst (v := 1) hx hb dX10_nightTo_61 (by decide) ?_
            refine va_iald hx hb hK hP 1 0 rfl rfl (vin (by decide +kernel)) dX10_nightTo_62 ?_
            refine tpi (y := x_86) ex_86.symm ?_
            refine lv_iconst (v := 1) hx hb dX10_nightTo_63 (by decide) ?_
            refine lv_isub hx hb dX10_nightTo_64 ?_
            refine lv_topi (fun x_91 ex_91 => ?_)
            have bx_91 : iv 0 3 x_91 := by rw [ex_91]; exact iv_sub b_90 (iv_c (1 : Int32) (a := 1) (b := 1) (by decide)) (by decide)
            refine lv_goto (tgt := 69) hx hb dX10_nightTo_65 (by decide) ?_
            refine lv_imul hx hb dX10_nightTo_69 ?_
            refine lv_topi (fun x_92 ex_92 => ?_)
            have bx_92 : iv 0 15 x_92 := by rw [ex_92]; exact iv_cmul (iv_c (5 : Int32) (a := 5) (b := 5) (by decide)) bx_91 (by decide)
            refine lv_iadd hx hb dX10_nightTo_70 ?_
            refine lv_topi (fun x_93 ex_93 => ?_)
            have bx_93 : iv 1250 1265 x_93 := by rw [ex_93]; exact iv_add (iv_c (1250 : Int32) (a := 1250) (b := 1250) (by decide)) bx_92 (by decide)
            refine lv_iadd hx hb dX10_nightTo_71 ?_
            refine lv_topi (fun x_94 ex_94 => ?_)
            have bx_94 : iv 1250 1893 x_94 := by rw [ex_94]; exact iv_add b_53 bx_93 (by decide)
            refine lv_istore (lv' := [(4, .int x_94), (5, .int 1), (0, .ref (z 0)), (1, .int a1), (2, .int a2), (3, .int a3)]) hx hb dX10_nightTo_72 hl (by decide) rfl (fun ls hl => ?_)
            refine lv_goto (tgt := 92) hx hb dX10_nightTo_74 (by decide) ?_
            refine lv_iinc (v := 2) (lv' := [(5, .int 2), (4, .int x_94), (0, .ref (z 0)), (1, .int a1), (2, .int a2), (3, .int a3)]) hx hb dX10_nightTo_92 hl (k := 1) rfl (by decide +kernel) (by decide) rfl (fun ls hl => ?_)
            refine lv_goto (tgt := 6) hx hb dX10_nightTo_95 (by decide) ?_
            exact ihn_5 _ _ _ _ (by rw [en_5]; decide) ⟨2, x_94, f_56, f_54, (iv_c (2 : Int32) (by decide)), (iv_w bx_94 (by decide)), tf_54, (nb_o bx_94 (by decide)), g_57, rfl, hP, hD, hS, lv_sub hl [0, 1, 2, 3, 4, 5] rfl⟩
        · have hP : va_P V.1 vwCl [(z 15, aI V 900 f_56), (z 16, aI V 6 f_54), (z 0, .inr (10, mo z pz0_0 pz0_5 pz0_6 pz0_7 pz0_8 pz0_9 pz0_10 pz0_11 pz0_12 pz0_13 pz0_14 pz0_18 pz0_19 pz0_22 pz0_23 pz0_29)), (z 1, aI V 3075 fz1)] H := hP
          have hD : va_D A [(z 15, aI V 900 f_56), (z 16, aI V 6 f_54), (z 0, .inr (10, mo z pz0_0 pz0_5 pz0_6 pz0_7 pz0_8 pz0_9 pz0_10 pz0_11 pz0_12 pz0_13 pz0_14 pz0_18 pz0_19 pz0_22 pz0_23 pz0_29)), (z 1, aI V 3075 fz1)] := hD
          exact absurd c_85 (by decide)
    · have b_95 : iv 0 1893 u_2 := nb_i inn_5_0 (by decide)
      refine lv_aload_n hx hb dX10_nightTo_17 rfl (lv_at hl 2 rfl) ?_
      refine lv_iload_n hx hb dX10_nightTo_18 rfl (lv_at hl 3 rfl) ?_
      refine lv_iload hx hb dX10_nightTo_19 (lv_at hl 0 rfl) ?_
      refine lv_iload_n hx hb dX10_nightTo_21 rfl (lv_at hl 4 rfl) ?_
      refine lv_iload_n hx hb dX10_nightTo_22 rfl (lv_at hl 5 rfl) ?_
      refine jnV (wr := [(z 15, aI V 900 f_3)]) (rnV (rest := []) ⟨hx, hb, hml, hown, hg⟩ (k_X10_laysWords_0 l V z a1 2 a2 a3 f_4 pz0_0 pz0_5 pz0_6 pz0_7 pz0_8 pz0_9 pz0_10 pz0_11 pz0_12 pz0_13 pz0_14 pz0_18 pz0_19 pz0_22 pz0_23 pz0_29 fz1 ba1 (iv_c (2 : Int32) (by decide)) tf_4 bpz0_5 bpz0_6 bpz0_7 bpz0_8 bpz0_10 bpz0_11 bpz0_12 bpz0_13 bpz0_14 bpz0_18 bpz0_22 bpz0_29 tfz1) mt_X10_laysWords q_7_22 ⟨Nat.le_of_ble_eq_true rfl, Nat.le_of_ble_eq_true rfl⟩ hK hP hD hS hA hE [1, 2, 3] rfl rfl 2 rfl rfl rfl rfl hl.1 rfl (Nat.le_of_ble_eq_true rfl) dX10_nightTo_23 ⟨Nat.le_of_ble_eq_true rfl, Nat.le_of_ble_eq_true rfl⟩) hP hD hS hA [1, 2, 3] [0] rfl rfl rfl (by decide) (fun  w H locs hw hP hD hS => ?_)
      obtain ⟨f_96, tf_96, rfl⟩ := hw
      have hP : va_P V.1 vwCl [(z 15, aI V 900 f_3), (z 16, aI V 6 f_96), (z 0, .inr (10, mo z pz0_0 pz0_5 pz0_6 pz0_7 pz0_8 pz0_9 pz0_10 pz0_11 pz0_12 pz0_13 pz0_14 pz0_18 pz0_19 pz0_22 pz0_23 pz0_29)), (z 1, aI V 3075 fz1)] H := hP
      have hD : va_D A [(z 15, aI V 900 f_3), (z 16, aI V 6 f_96), (z 0, .inr (10, mo z pz0_0 pz0_5 pz0_6 pz0_7 pz0_8 pz0_9 pz0_10 pz0_11 pz0_12 pz0_13 pz0_14 pz0_18 pz0_19 pz0_22 pz0_23 pz0_29)), (z 1, aI V 3075 fz1)] := hD
      refine lv_aload_n hx hb dX10_nightTo_26 rfl (lv_at hl 2 rfl) ?_
      refine jnI (wr := []) (rnV (rest := []) ⟨hx, hb, hml, hown, hg⟩ (k_X10_takesNow_0 l V z f_3 f_96 pz0_0 pz0_5 pz0_6 pz0_7 pz0_8 pz0_9 pz0_10 pz0_11 pz0_12 pz0_13 pz0_14 pz0_18 pz0_19 pz0_22 pz0_23 pz0_29 fz1 tf_96 bpz0_5 bpz0_6 bpz0_7 bpz0_8 bpz0_10 bpz0_11 bpz0_12 bpz0_13 bpz0_14 bpz0_18 bpz0_22 bpz0_29 tfz1 inn_5_1) mt_X10_takesNow q_7_35 ⟨Nat.le_of_ble_eq_true rfl, Nat.le_of_ble_eq_true rfl⟩ hK hP hD hS hA hE [0, 1, 2, 3] rfl rfl 2 rfl rfl rfl rfl hl.1 rfl (Nat.le_of_ble_eq_true rfl) dX10_nightTo_27 ⟨Nat.le_of_ble_eq_true rfl, Nat.le_of_ble_eq_true rfl⟩) hP hD hS hA [0, 1, 2, 3] [] rfl rfl rfl (by decide) (fun r_97 w H locs hw hP hD hS => ?_)
      obtain ⟨f_98, br_97, g_99, rfl⟩ := hw
      have hP : va_P V.1 vwCl [(z 15, aI V 900 f_98), (z 16, aI V 6 f_96), (z 0, .inr (10, mo z pz0_0 pz0_5 pz0_6 pz0_7 pz0_8 pz0_9 pz0_10 pz0_11 pz0_12 pz0_13 pz0_14 pz0_18 pz0_19 pz0_22 pz0_23 pz0_29)), (z 1, aI V 3075 fz1)] H := hP
      have hD : va_D A [(z 15, aI V 900 f_98), (z 16, aI V 6 f_96), (z 0, .inr (10, mo z pz0_0 pz0_5 pz0_6 pz0_7 pz0_8 pz0_9 pz0_10 pz0_11 pz0_12 pz0_13 pz0_14 pz0_18 pz0_19 pz0_22 pz0_23 pz0_29)), (z 1, aI V 3075 fz1)] := hD
      refine lv_if_eq (tgt := 77) hx hb dX10_nightTo_30 (by decide) (fun c_100 => ?_) (fun c_100 => ?_)
      · have b_101 : iv 0 0 r_97 := iv_q c_100 (iv_c (0 : Int32) (a := 0) (b := 0) (by decide))
        refine lv_iload hx hb dX10_nightTo_77 (lv_at hl 1 rfl) ?_
        refine lv_iload hx hb dX10_nightTo_79 (lv_at hl 0 rfl) ?_
        refine jnI (wr := [(z 15, aI V 900 f_98), (z 16, aI V 6 f_96), (z 0, .inr (10, mo z pz0_0 pz0_5 pz0_6 pz0_7 pz0_8 pz0_9 pz0_10 pz0_11 pz0_12 pz0_13 pz0_14 pz0_18 pz0_19 pz0_22 pz0_23 pz0_29)), (z 1, aI V 3075 fz1)]) (rnS (rest := [.int u_2]) ⟨hx, hb, hml, hown, hg⟩ (k_X10_digitOf_0 l V 2 (iv_c (2 : Int32) (by decide))) mt_X10_digitOf q_7_15 ⟨Nat.le_of_ble_eq_true rfl, Nat.le_of_ble_eq_true rfl⟩ hK hP hD hS hA hE [] rfl rfl rfl hl.1 rfl (Nat.le_of_ble_eq_true rfl) dX10_nightTo_81 ⟨Nat.le_of_ble_eq_true rfl, Nat.le_of_ble_eq_true rfl⟩) hP hD hS hA [] [0, 1, 2, 3] rfl rfl rfl (by decide) (fun r_102 w H locs hw hP hD hS => ?_)
        rcases hw with ⟨c_103, c_104, c_105, rfl, rfl⟩ | ⟨c_106, c_107, c_108, rfl, rfl⟩ | ⟨c_109, c_110, rfl, rfl⟩ | ⟨c_111, rfl, rfl⟩
        · have hP : va_P V.1 vwCl [(z 15, aI V 900 f_98), (z 16, aI V 6 f_96), (z 0, .inr (10, mo z pz0_0 pz0_5 pz0_6 pz0_7 pz0_8 pz0_9 pz0_10 pz0_11 pz0_12 pz0_13 pz0_14 pz0_18 pz0_19 pz0_22 pz0_23 pz0_29)), (z 1, aI V 3075 fz1)] H := hP
          have hD : va_D A [(z 15, aI V 900 f_98), (z 16, aI V 6 f_96), (z 0, .inr (10, mo z pz0_0 pz0_5 pz0_6 pz0_7 pz0_8 pz0_9 pz0_10 pz0_11 pz0_12 pz0_13 pz0_14 pz0_18 pz0_19 pz0_22 pz0_23 pz0_29)), (z 1, aI V 3075 fz1)] := hD
          exact absurd c_105 (by decide)
        · have hP : va_P V.1 vwCl [(z 15, aI V 900 f_98), (z 16, aI V 6 f_96), (z 0, .inr (10, mo z pz0_0 pz0_5 pz0_6 pz0_7 pz0_8 pz0_9 pz0_10 pz0_11 pz0_12 pz0_13 pz0_14 pz0_18 pz0_19 pz0_22 pz0_23 pz0_29)), (z 1, aI V 3075 fz1)] H := hP
          have hD : va_D A [(z 15, aI V 900 f_98), (z 16, aI V 6 f_96), (z 0, .inr (10, mo z pz0_0 pz0_5 pz0_6 pz0_7 pz0_8 pz0_9 pz0_10 pz0_11 pz0_12 pz0_13 pz0_14 pz0_18 pz0_19 pz0_22 pz0_23 pz0_29)), (z 1, aI V 3075 fz1)] := hD
          refine lv_aload_n hx hb dX10_nightTo_84 rfl (lv_at hl 2 rfl) ?_
          refine jnI (wr := []) (rnV (rest := [.int 25, .int u_2]) ⟨hx, hb, hml, hown, hg⟩ (k_X10_addedNow_0 l V z f_98 f_96 pz0_0 pz0_5 pz0_6 pz0_7 pz0_8 pz0_9 pz0_10 pz0_11 pz0_12 pz0_13 pz0_14 pz0_18 pz0_19 pz0_22 pz0_23 pz0_29 fz1 tf_96 bpz0_5 bpz0_6 bpz0_7 bpz0_8 bpz0_10 bpz0_11 bpz0_12 bpz0_13 bpz0_14 bpz0_18 bpz0_22 bpz0_29 tfz1 g_99) mt_X10_addedNow q_7_48 ⟨Nat.le_of_ble_eq_true rfl, Nat.le_of_ble_eq_true rfl⟩ hK hP hD hS hA hE [0, 1, 2, 3] rfl rfl 2 rfl rfl rfl rfl hl.1 rfl (Nat.le_of_ble_eq_true rfl) dX10_nightTo_85 ⟨Nat.le_of_ble_eq_true rfl, Nat.le_of_ble_eq_true rfl⟩) hP hD hS hA [0, 1, 2, 3] [] rfl rfl rfl (by decide) (fun r_112 w H locs hw hP hD hS => ?_)
          obtain ⟨f_113, br_112, g_114, rfl⟩ := hw
          have hP : va_P V.1 vwCl [(z 15, aI V 900 f_113), (z 16, aI V 6 f_96), (z 0, .inr (10, mo z pz0_0 pz0_5 pz0_6 pz0_7 pz0_8 pz0_9 pz0_10 pz0_11 pz0_12 pz0_13 pz0_14 pz0_18 pz0_19 pz0_22 pz0_23 pz0_29)), (z 1, aI V 3075 fz1)] H := hP
          have hD : va_D A [(z 15, aI V 900 f_113), (z 16, aI V 6 f_96), (z 0, .inr (10, mo z pz0_0 pz0_5 pz0_6 pz0_7 pz0_8 pz0_9 pz0_10 pz0_11 pz0_12 pz0_13 pz0_14 pz0_18 pz0_19 pz0_22 pz0_23 pz0_29)), (z 1, aI V 3075 fz1)] := hD
          refine lv_imul hx hb dX10_nightTo_88 ?_
          refine lv_topi (fun x_115 ex_115 => ?_)
          have bx_115 : iv 0 100 x_115 := by rw [ex_115]; exact iv_cmul (iv_c (25 : Int32) (a := 25) (b := 25) (by decide)) br_112 (by decide)
          refine lv_iadd hx hb dX10_nightTo_89 ?_
          refine lv_topi (fun x_116 ex_116 => ?_)
          have bx_116 : iv 0 1993 x_116 := by rw [ex_116]; exact iv_add b_95 bx_115 (by decide)
          refine lv_istore (lv' := [(4, .int x_116), (5, .int 2), (0, .ref (z 0)), (1, .int a1), (2, .int a2), (3, .int a3)]) hx hb dX10_nightTo_90 hl (by decide) rfl (fun ls hl => ?_)
          refine lv_iinc (v := 3) (lv' := [(5, .int 3), (4, .int x_116), (0, .ref (z 0)), (1, .int a1), (2, .int a2), (3, .int a3)]) hx hb dX10_nightTo_92 hl (k := 1) rfl (by decide +kernel) (by decide) rfl (fun ls hl => ?_)
          refine lv_goto (tgt := 6) hx hb dX10_nightTo_95 (by decide) ?_
          exact ihn_5 _ _ _ _ (by rw [en_5]; decide) ⟨3, x_116, f_113, f_96, (iv_c (3 : Int32) (by decide)), (iv_w bx_116 (by decide)), tf_96, (nb_o bx_116 (by decide)), g_114, rfl, hP, hD, hS, lv_sub hl [0, 1, 2, 3, 4, 5] rfl⟩
        · have hP : va_P V.1 vwCl [(z 15, aI V 900 f_98), (z 16, aI V 6 f_96), (z 0, .inr (10, mo z pz0_0 pz0_5 pz0_6 pz0_7 pz0_8 pz0_9 pz0_10 pz0_11 pz0_12 pz0_13 pz0_14 pz0_18 pz0_19 pz0_22 pz0_23 pz0_29)), (z 1, aI V 3075 fz1)] H := hP
          have hD : va_D A [(z 15, aI V 900 f_98), (z 16, aI V 6 f_96), (z 0, .inr (10, mo z pz0_0 pz0_5 pz0_6 pz0_7 pz0_8 pz0_9 pz0_10 pz0_11 pz0_12 pz0_13 pz0_14 pz0_18 pz0_19 pz0_22 pz0_23 pz0_29)), (z 1, aI V 3075 fz1)] := hD
          exact absurd c_110 (by decide)
        · have hP : va_P V.1 vwCl [(z 15, aI V 900 f_98), (z 16, aI V 6 f_96), (z 0, .inr (10, mo z pz0_0 pz0_5 pz0_6 pz0_7 pz0_8 pz0_9 pz0_10 pz0_11 pz0_12 pz0_13 pz0_14 pz0_18 pz0_19 pz0_22 pz0_23 pz0_29)), (z 1, aI V 3075 fz1)] H := hP
          have hD : va_D A [(z 15, aI V 900 f_98), (z 16, aI V 6 f_96), (z 0, .inr (10, mo z pz0_0 pz0_5 pz0_6 pz0_7 pz0_8 pz0_9 pz0_10 pz0_11 pz0_12 pz0_13 pz0_14 pz0_18 pz0_19 pz0_22 pz0_23 pz0_29)), (z 1, aI V 3075 fz1)] := hD
          exact absurd c_111 (by decide)
      · have b_117 : iv 1 1 r_97 := iv_n0 c_100 br_97 (iv_c (0 : Int32) (a := 0) (b := 0) (by decide)) (by decide)
        refine lv_iload hx hb dX10_nightTo_33 (lv_at hl 1 rfl) ?_
        refine lv_sipush (v := 625) hx hb dX10_nightTo_35 (by decide) ?_
        refine lv_iconst (v := 1) hx hb dX10_nightTo_38 (by decide) ?_
        refine lv_iload hx hb dX10_nightTo_39 (lv_at hl 0 rfl) ?_
        refine lv_ishl hx hb dX10_nightTo_41 ?_
        refine tpi (y := 4) (by decide +kernel) ?_
        refine lv_imul hx hb dX10_nightTo_42 ?_
        refine tpi (y := 2500) (by decide +kernel) ?_
        refine lv_iload hx hb dX10_nightTo_43 (lv_at hl 0 rfl) ?_
        refine jnI (wr := [(z 15, aI V 900 f_98), (z 16, aI V 6 f_96), (z 0, .inr (10, mo z pz0_0 pz0_5 pz0_6 pz0_7 pz0_8 pz0_9 pz0_10 pz0_11 pz0_12 pz0_13 pz0_14 pz0_18 pz0_19 pz0_22 pz0_23 pz0_29)), (z 1, aI V 3075 fz1)]) (rnS (rest := [.int 2500, .int u_2]) ⟨hx, hb, hml, hown, hg⟩ (k_X10_digitOf_0 l V 2 (iv_c (2 : Int32) (by decide))) mt_X10_digitOf q_7_15 ⟨Nat.le_of_ble_eq_true rfl, Nat.le_of_ble_eq_true rfl⟩ hK hP hD hS hA hE [] rfl rfl rfl hl.1 rfl (Nat.le_of_ble_eq_true rfl) dX10_nightTo_45 ⟨Nat.le_of_ble_eq_true rfl, Nat.le_of_ble_eq_true rfl⟩) hP hD hS hA [] [0, 1, 2, 3] rfl rfl rfl (by decide) (fun r_118 w H locs hw hP hD hS => ?_)
        rcases hw with ⟨c_119, c_120, c_121, rfl, rfl⟩ | ⟨c_122, c_123, c_124, rfl, rfl⟩ | ⟨c_125, c_126, rfl, rfl⟩ | ⟨c_127, rfl, rfl⟩
        · have hP : va_P V.1 vwCl [(z 15, aI V 900 f_98), (z 16, aI V 6 f_96), (z 0, .inr (10, mo z pz0_0 pz0_5 pz0_6 pz0_7 pz0_8 pz0_9 pz0_10 pz0_11 pz0_12 pz0_13 pz0_14 pz0_18 pz0_19 pz0_22 pz0_23 pz0_29)), (z 1, aI V 3075 fz1)] H := hP
          have hD : va_D A [(z 15, aI V 900 f_98), (z 16, aI V 6 f_96), (z 0, .inr (10, mo z pz0_0 pz0_5 pz0_6 pz0_7 pz0_8 pz0_9 pz0_10 pz0_11 pz0_12 pz0_13 pz0_14 pz0_18 pz0_19 pz0_22 pz0_23 pz0_29)), (z 1, aI V 3075 fz1)] := hD
          exact absurd c_121 (by decide)
        · have hP : va_P V.1 vwCl [(z 15, aI V 900 f_98), (z 16, aI V 6 f_96), (z 0, .inr (10, mo z pz0_0 pz0_5 pz0_6 pz0_7 pz0_8 pz0_9 pz0_10 pz0_11 pz0_12 pz0_13 pz0_14 pz0_18 pz0_19 pz0_22 pz0_23 pz0_29)), (z 1, aI V 3075 fz1)] H := hP
          have hD : va_D A [(z 15, aI V 900 f_98), (z 16, aI V 6 f_96), (z 0, .inr (10, mo z pz0_0 pz0_5 pz0_6 pz0_7 pz0_8 pz0_9 pz0_10 pz0_11 pz0_12 pz0_13 pz0_14 pz0_18 pz0_19 pz0_22 pz0_23 pz0_29)), (z 1, aI V 3075 fz1)] := hD
          refine lv_aload_n hx hb dX10_nightTo_48 rfl (lv_at hl 2 rfl) ?_
          refine va_get (ci := 10) (v := .ref (z 16)) (C := RX10) (T := TX10) (N := 40) hx hb hg inX10 hown hK hP 2 rfl rfl 16 (by decide) (hg _ q_6_0) (fun _ h9 => h9) rfl dX10_nightTo_49 ?_
          refine lv_iconst (v := 1) hx hb dX10_nightTo_52 (by decide) ?_
          refine va_iald hx hb hK hP 1 0 rfl rfl (vin (by decide +kernel)) dX10_nightTo_53 ?_
          refine lv_topi (fun x_128 ex_128 => ?_)
          have bx_128 : iv 0 4 x_128 := by rw [ex_128]; exact rdT (a := 1) (n := 1) tf_96 (iv_c (1 : Int32) (a := 1) (b := 1) (by decide)) (by decide) (by decide +kernel)
          refine lv_if_le (tgt := 68) hx hb dX10_nightTo_54 (by decide) (fun c_129 => ?_) (fun c_129 => ?_)
          · have b_130 : iv 0 0 x_128 := iv_e1 c_129 bx_128 (iv_c (0 : Int32) (a := 0) (b := 0) (by decide)) (by decide)
            refine lv_iconst (v := 0) hx hb dX10_nightTo_68 (by decide) ?_
            refine lv_imul hx hb dX10_nightTo_69 ?_
            refine tpi (y := 0) (by decide +kernel) ?_
            refine lv_iadd hx hb dX10_nightTo_70 ?_
            refine tpi (y := 2500) (by decide +kernel) ?_
            refine lv_iadd hx hb dX10_nightTo_71 ?_
            refine lv_topi (fun x_131 ex_131 => ?_)
            have bx_131 : iv 2500 4393 x_131 := by rw [ex_131]; exact iv_add b_95 (iv_c (2500 : Int32) (a := 2500) (b := 2500) (by decide)) (by decide)
            refine lv_istore (lv' := [(4, .int x_131), (5, .int 2), (0, .ref (z 0)), (1, .int a1), (2, .int a2), (3, .int a3)]) hx hb dX10_nightTo_72 hl (by decide) rfl (fun ls hl => ?_)
            refine lv_goto (tgt := 92) hx hb dX10_nightTo_74 (by decide) ?_
            refine lv_iinc (v := 3) (lv' := [(5, .int 3), (4, .int x_131), (0, .ref (z 0)), (1, .int a1), (2, .int a2), (3, .int a3)]) hx hb dX10_nightTo_92 hl (k := 1) rfl (by decide +kernel) (by decide) rfl (fun ls hl => ?_)
            refine lv_goto (tgt := 6) hx hb dX10_nightTo_95 (by decide) ?_
            exact ihn_5 _ _ _ _ (by rw [en_5]; decide) ⟨3, x_131, f_98, f_96, (iv_c (3 : Int32) (by decide)), (iv_w bx_131 (by decide)), tf_96, (nb_o bx_131 (by decide)), g_99, rfl, hP, hD, hS, lv_sub hl [0, 1, 2, 3, 4, 5] rfl⟩
          · have b_132 : iv 1 4 x_128 := iv_l2 (Int32.not_le.mp c_129) (iv_c (0 : Int32) (a := 0) (b := 0) (by decide)) bx_128 (by decide)
            refine lv_aload_n hx hb dX10_nightTo_57 rfl (lv_at hl 2 rfl) ?_
            refine va_get (ci := 10) (v := .ref (z 16)) (C := RX10) (T := TX10) (N := 40) hx hb hg inX10 hown hK hP 2 rfl rfl 16 (by decide) (hg _ q_6_0) (fun _ h9 => h9) rfl dX10_nightTo_58 ?_
            refine lv_iconst (v := 1) hx hb dX10_nightTo_61 (by decide) ?_
            refine va_iald hx hb hK hP 1 0 rfl rfl (vin (by decide +kernel)) dX10_nightTo_62 ?_
            refine tpi (y := x_128) ex_128.symm ?_
            refine lv_iconst (v := 1) hx hb dX10_nightTo_63 (by decide) ?_
            refine lv_isub hx hb dX10_nightTo_64 ?_
            refine lv_topi (fun x_133 ex_133 => ?_)
            have bx_133 : iv 0 3 x_133 := by rw [ex_133]; exact iv_sub b_132 (iv_c (1 : Int32) (a := 1) (b := 1) (by decide)) (by decide)
            refine lv_goto (tgt := 69) hx hb dX10_nightTo_65 (by decide) ?_
            refine lv_imul hx hb dX10_nightTo_69 ?_
            refine lv_topi (fun x_134 ex_134 => ?_)
            have bx_134 : iv 0 75 x_134 := by rw [ex_134]; exact iv_cmul (iv_c (25 : Int32) (a := 25) (b := 25) (by decide)) bx_133 (by decide)
            refine lv_iadd hx hb dX10_nightTo_70 ?_
            refine lv_topi (fun x_135 ex_135 => ?_)
            have bx_135 : iv 2500 2575 x_135 := by rw [ex_135]; exact iv_add (iv_c (2500 : Int32) (a := 2500) (b := 2500) (by decide)) bx_134 (by decide)
            refine lv_iadd hx hb dX10_nightTo_71 ?_
            refine lv_topi (fun x_136 ex_136 => ?_)
            have bx_136 : iv 2500 4468 x_136 := by rw [ex_136]; exact iv_add b_95 bx_135 (by decide)
            refine lv_istore (lv' := [(4, .int x_136), (5, .int 2), (0, .ref (z 0)), (1, .int a1), (2, .int a2), (3, .int a3)]) hx hb dX10_nightTo_72 hl (by decide) rfl (fun ls hl => ?_)
            refine lv_goto (tgt := 92) hx hb dX10_nightTo_74 (by decide) ?_
            refine lv_iinc (v := 3) (lv' := [(5, .int 3), (4, .int x_136), (0, .ref (z 0)), (1, .int a1), (2, .int a2), (3, .int a3)]) hx hb dX10_nightTo_92 hl (k := 1) rfl (by decide +kernel) (by decide) rfl (fun ls hl => ?_)
            refine lv_goto (tgt := 6) hx hb dX10_nightTo_95 (by decide) ?_
            exact ihn_5 _ _ _ _ (by rw [en_5]; decide) ⟨3, x_136, f_98, f_96, (iv_c (3 : Int32) (by decide)), (iv_w bx_136 (by decide)), tf_96, (nb_o bx_136 (by decide)), g_99, rfl, hP, hD, hS, lv_sub hl [0, 1, 2, 3, 4, 5] rfl⟩
        · have hP : va_P V.1 vwCl [(z 15, aI V 900 f_98), (z 16, aI V 6 f_96), (z 0, .inr (10, mo z pz0_0 pz0_5 pz0_6 pz0_7 pz0_8 pz0_9 pz0_10 pz0_11 pz0_12 pz0_13 pz0_14 pz0_18 pz0_19 pz0_22 pz0_23 pz0_29)), (z 1, aI V 3075 fz1)] H := hP
          have hD : va_D A [(z 15, aI V 900 f_98), (z 16, aI V 6 f_96), (z 0, .inr (10, mo z pz0_0 pz0_5 pz0_6 pz0_7 pz0_8 pz0_9 pz0_10 pz0_11 pz0_12 pz0_13 pz0_14 pz0_18 pz0_19 pz0_22 pz0_23 pz0_29)), (z 1, aI V 3075 fz1)] := hD
          exact absurd c_126 (by decide)
        · have hP : va_P V.1 vwCl [(z 15, aI V 900 f_98), (z 16, aI V 6 f_96), (z 0, .inr (10, mo z pz0_0 pz0_5 pz0_6 pz0_7 pz0_8 pz0_9 pz0_10 pz0_11 pz0_12 pz0_13 pz0_14 pz0_18 pz0_19 pz0_22 pz0_23 pz0_29)), (z 1, aI V 3075 fz1)] H := hP
          have hD : va_D A [(z 15, aI V 900 f_98), (z 16, aI V 6 f_96), (z 0, .inr (10, mo z pz0_0 pz0_5 pz0_6 pz0_7 pz0_8 pz0_9 pz0_10 pz0_11 pz0_12 pz0_13 pz0_14 pz0_18 pz0_19 pz0_22 pz0_23 pz0_29)), (z 1, aI V 3075 fz1)] := hD
          exact absurd c_127 (by decide)
    · have b_137 : iv 0 4468 u_2 := nb_i inn_5_0 (by decide)
      refine lv_aload_n hx hb dX10_nightTo_17 rfl (lv_at hl 2 rfl) ?_
      refine lv_iload_n hx hb dX10_nightTo_18 rfl (lv_at hl 3 rfl) ?_
      refine lv_iload hx hb dX10_nightTo_19 (lv_at hl 0 rfl) ?_
      refine lv_iload_n hx hb dX10_nightTo_21 rfl (lv_at hl 4 rfl) ?_
      refine lv_iload_n hx hb dX10_nightTo_22 rfl (lv_at hl 5 rfl) ?_
      refine jnV (wr := [(z 15, aI V 900 f_3)]) (rnV (rest := []) ⟨hx, hb, hml, hown, hg⟩ (k_X10_laysWords_0 l V z a1 3 a2 a3 f_4 pz0_0 pz0_5 pz0_6 pz0_7 pz0_8 pz0_9 pz0_10 pz0_11 pz0_12 pz0_13 pz0_14 pz0_18 pz0_19 pz0_22 pz0_23 pz0_29 fz1 ba1 (iv_c (3 : Int32) (by decide)) tf_4 bpz0_5 bpz0_6 bpz0_7 bpz0_8 bpz0_10 bpz0_11 bpz0_12 bpz0_13 bpz0_14 bpz0_18 bpz0_22 bpz0_29 tfz1) mt_X10_laysWords q_7_22 ⟨Nat.le_of_ble_eq_true rfl, Nat.le_of_ble_eq_true rfl⟩ hK hP hD hS hA hE [1, 2, 3] rfl rfl 2 rfl rfl rfl rfl hl.1 rfl (Nat.le_of_ble_eq_true rfl) dX10_nightTo_23 ⟨Nat.le_of_ble_eq_true rfl, Nat.le_of_ble_eq_true rfl⟩) hP hD hS hA [1, 2, 3] [0] rfl rfl rfl (by decide) (fun  w H locs hw hP hD hS => ?_)
      obtain ⟨f_138, tf_138, rfl⟩ := hw
      have hP : va_P V.1 vwCl [(z 15, aI V 900 f_3), (z 16, aI V 6 f_138), (z 0, .inr (10, mo z pz0_0 pz0_5 pz0_6 pz0_7 pz0_8 pz0_9 pz0_10 pz0_11 pz0_12 pz0_13 pz0_14 pz0_18 pz0_19 pz0_22 pz0_23 pz0_29)), (z 1, aI V 3075 fz1)] H := hP
      have hD : va_D A [(z 15, aI V 900 f_3), (z 16, aI V 6 f_138), (z 0, .inr (10, mo z pz0_0 pz0_5 pz0_6 pz0_7 pz0_8 pz0_9 pz0_10 pz0_11 pz0_12 pz0_13 pz0_14 pz0_18 pz0_19 pz0_22 pz0_23 pz0_29)), (z 1, aI V 3075 fz1)] := hD
      refine lv_aload_n hx hb dX10_nightTo_26 rfl (lv_at hl 2 rfl) ?_
      refine jnI (wr := []) (rnV (rest := []) ⟨hx, hb, hml, hown, hg⟩ (k_X10_takesNow_0 l V z f_3 f_138 pz0_0 pz0_5 pz0_6 pz0_7 pz0_8 pz0_9 pz0_10 pz0_11 pz0_12 pz0_13 pz0_14 pz0_18 pz0_19 pz0_22 pz0_23 pz0_29 fz1 tf_138 bpz0_5 bpz0_6 bpz0_7 bpz0_8 bpz0_10 bpz0_11 bpz0_12 bpz0_13 bpz0_14 bpz0_18 bpz0_22 bpz0_29 tfz1 inn_5_1) mt_X10_takesNow q_7_35 ⟨Nat.le_of_ble_eq_true rfl, Nat.le_of_ble_eq_true rfl⟩ hK hP hD hS hA hE [0, 1, 2, 3] rfl rfl 2 rfl rfl rfl rfl hl.1 rfl (Nat.le_of_ble_eq_true rfl) dX10_nightTo_27 ⟨Nat.le_of_ble_eq_true rfl, Nat.le_of_ble_eq_true rfl⟩) hP hD hS hA [0, 1, 2, 3] [] rfl rfl rfl (by decide) (fun r_139 w H locs hw hP hD hS => ?_)
      obtain ⟨f_140, br_139, g_141, rfl⟩ := hw
      have hP : va_P V.1 vwCl [(z 15, aI V 900 f_140), (z 16, aI V 6 f_138), (z 0, .inr (10, mo z pz0_0 pz0_5 pz0_6 pz0_7 pz0_8 pz0_9 pz0_10 pz0_11 pz0_12 pz0_13 pz0_14 pz0_18 pz0_19 pz0_22 pz0_23 pz0_29)), (z 1, aI V 3075 fz1)] H := hP
      have hD : va_D A [(z 15, aI V 900 f_140), (z 16, aI V 6 f_138), (z 0, .inr (10, mo z pz0_0 pz0_5 pz0_6 pz0_7 pz0_8 pz0_9 pz0_10 pz0_11 pz0_12 pz0_13 pz0_14 pz0_18 pz0_19 pz0_22 pz0_23 pz0_29)), (z 1, aI V 3075 fz1)] := hD
      refine lv_if_eq (tgt := 77) hx hb dX10_nightTo_30 (by decide) (fun c_142 => ?_) (fun c_142 => ?_)
      · have b_143 : iv 0 0 r_139 := iv_q c_142 (iv_c (0 : Int32) (a := 0) (b := 0) (by decide))
        refine lv_iload hx hb dX10_nightTo_77 (lv_at hl 1 rfl) ?_
        refine lv_iload hx hb dX10_nightTo_79 (lv_at hl 0 rfl) ?_
        refine jnI (wr := [(z 15, aI V 900 f_140), (z 16, aI V 6 f_138), (z 0, .inr (10, mo z pz0_0 pz0_5 pz0_6 pz0_7 pz0_8 pz0_9 pz0_10 pz0_11 pz0_12 pz0_13 pz0_14 pz0_18 pz0_19 pz0_22 pz0_23 pz0_29)), (z 1, aI V 3075 fz1)]) (rnS (rest := [.int u_2]) ⟨hx, hb, hml, hown, hg⟩ (k_X10_digitOf_0 l V 3 (iv_c (3 : Int32) (by decide))) mt_X10_digitOf q_7_15 ⟨Nat.le_of_ble_eq_true rfl, Nat.le_of_ble_eq_true rfl⟩ hK hP hD hS hA hE [] rfl rfl rfl hl.1 rfl (Nat.le_of_ble_eq_true rfl) dX10_nightTo_81 ⟨Nat.le_of_ble_eq_true rfl, Nat.le_of_ble_eq_true rfl⟩) hP hD hS hA [] [0, 1, 2, 3] rfl rfl rfl (by decide) (fun r_144 w H locs hw hP hD hS => ?_)
        rcases hw with ⟨c_145, c_146, c_147, rfl, rfl⟩ | ⟨c_148, c_149, c_150, rfl, rfl⟩ | ⟨c_151, c_152, rfl, rfl⟩ | ⟨c_153, rfl, rfl⟩
        · have hP : va_P V.1 vwCl [(z 15, aI V 900 f_140), (z 16, aI V 6 f_138), (z 0, .inr (10, mo z pz0_0 pz0_5 pz0_6 pz0_7 pz0_8 pz0_9 pz0_10 pz0_11 pz0_12 pz0_13 pz0_14 pz0_18 pz0_19 pz0_22 pz0_23 pz0_29)), (z 1, aI V 3075 fz1)] H := hP
          have hD : va_D A [(z 15, aI V 900 f_140), (z 16, aI V 6 f_138), (z 0, .inr (10, mo z pz0_0 pz0_5 pz0_6 pz0_7 pz0_8 pz0_9 pz0_10 pz0_11 pz0_12 pz0_13 pz0_14 pz0_18 pz0_19 pz0_22 pz0_23 pz0_29)), (z 1, aI V 3075 fz1)] := hD
          refine lv_aload_n hx hb dX10_nightTo_84 rfl (lv_at hl 2 rfl) ?_
          refine jnI (wr := []) (rnV (rest := [.int 125, .int u_2]) ⟨hx, hb, hml, hown, hg⟩ (k_X10_addedNow_0 l V z f_140 f_138 pz0_0 pz0_5 pz0_6 pz0_7 pz0_8 pz0_9 pz0_10 pz0_11 pz0_12 pz0_13 pz0_14 pz0_18 pz0_19 pz0_22 pz0_23 pz0_29 fz1 tf_138 bpz0_5 bpz0_6 bpz0_7 bpz0_8 bpz0_10 bpz0_11 bpz0_12 bpz0_13 bpz0_14 bpz0_18 bpz0_22 bpz0_29 tfz1 g_141) mt_X10_addedNow q_7_48 ⟨Nat.le_of_ble_eq_true rfl, Nat.le_of_ble_eq_true rfl⟩ hK hP hD hS hA hE [0, 1, 2, 3] rfl rfl 2 rfl rfl rfl rfl hl.1 rfl (Nat.le_of_ble_eq_true rfl) dX10_nightTo_85 ⟨Nat.le_of_ble_eq_true rfl, Nat.le_of_ble_eq_true rfl⟩) hP hD hS hA [0, 1, 2, 3] [] rfl rfl rfl (by decide) (fun r_154 w H locs hw hP hD hS => ?_)
          obtain ⟨f_155, br_154, g_156, rfl⟩ := hw
          have hP : va_P V.1 vwCl [(z 15, aI V 900 f_155), (z 16, aI V 6 f_138), (z 0, .inr (10, mo z pz0_0 pz0_5 pz0_6 pz0_7 pz0_8 pz0_9 pz0_10 pz0_11 pz0_12 pz0_13 pz0_14 pz0_18 pz0_19 pz0_22 pz0_23 pz0_29)), (z 1, aI V 3075 fz1)] H := hP
          have hD : va_D A [(z 15, aI V 900 f_155), (z 16, aI V 6 f_138), (z 0, .inr (10, mo z pz0_0 pz0_5 pz0_6 pz0_7 pz0_8 pz0_9 pz0_10 pz0_11 pz0_12 pz0_13 pz0_14 pz0_18 pz0_19 pz0_22 pz0_23 pz0_29)), (z 1, aI V 3075 fz1)] := hD
          refine lv_imul hx hb dX10_nightTo_88 ?_
          refine lv_topi (fun x_157 ex_157 => ?_)
          have bx_157 : iv 0 500 x_157 := by rw [ex_157]; exact iv_cmul (iv_c (125 : Int32) (a := 125) (b := 125) (by decide)) br_154 (by decide)
          refine lv_iadd hx hb dX10_nightTo_89 ?_
          refine lv_topi (fun x_158 ex_158 => ?_)
          have bx_158 : iv 0 4968 x_158 := by rw [ex_158]; exact iv_add b_137 bx_157 (by decide)
          refine lv_istore (lv' := [(4, .int x_158), (5, .int 3), (0, .ref (z 0)), (1, .int a1), (2, .int a2), (3, .int a3)]) hx hb dX10_nightTo_90 hl (by decide) rfl (fun ls hl => ?_)
          refine lv_iinc (v := 4) (lv' := [(5, .int 4), (4, .int x_158), (0, .ref (z 0)), (1, .int a1), (2, .int a2), (3, .int a3)]) hx hb dX10_nightTo_92 hl (k := 1) rfl (by decide +kernel) (by decide) rfl (fun ls hl => ?_)
          refine lv_goto (tgt := 6) hx hb dX10_nightTo_95 (by decide) ?_
          exact ihn_5 _ _ _ _ (by rw [en_5]; decide) ⟨4, x_158, f_155, f_138, (iv_c (4 : Int32) (by decide)), (iv_w bx_158 (by decide)), tf_138, (nb_o bx_158 (by decide)), g_156, rfl, hP, hD, hS, lv_sub hl [0, 1, 2, 3, 4, 5] rfl⟩
        · have hP : va_P V.1 vwCl [(z 15, aI V 900 f_140), (z 16, aI V 6 f_138), (z 0, .inr (10, mo z pz0_0 pz0_5 pz0_6 pz0_7 pz0_8 pz0_9 pz0_10 pz0_11 pz0_12 pz0_13 pz0_14 pz0_18 pz0_19 pz0_22 pz0_23 pz0_29)), (z 1, aI V 3075 fz1)] H := hP
          have hD : va_D A [(z 15, aI V 900 f_140), (z 16, aI V 6 f_138), (z 0, .inr (10, mo z pz0_0 pz0_5 pz0_6 pz0_7 pz0_8 pz0_9 pz0_10 pz0_11 pz0_12 pz0_13 pz0_14 pz0_18 pz0_19 pz0_22 pz0_23 pz0_29)), (z 1, aI V 3075 fz1)] := hD
          exact absurd c_150 (by decide)
        · have hP : va_P V.1 vwCl [(z 15, aI V 900 f_140), (z 16, aI V 6 f_138), (z 0, .inr (10, mo z pz0_0 pz0_5 pz0_6 pz0_7 pz0_8 pz0_9 pz0_10 pz0_11 pz0_12 pz0_13 pz0_14 pz0_18 pz0_19 pz0_22 pz0_23 pz0_29)), (z 1, aI V 3075 fz1)] H := hP
          have hD : va_D A [(z 15, aI V 900 f_140), (z 16, aI V 6 f_138), (z 0, .inr (10, mo z pz0_0 pz0_5 pz0_6 pz0_7 pz0_8 pz0_9 pz0_10 pz0_11 pz0_12 pz0_13 pz0_14 pz0_18 pz0_19 pz0_22 pz0_23 pz0_29)), (z 1, aI V 3075 fz1)] := hD
          exact absurd c_152 (by decide)
        · have hP : va_P V.1 vwCl [(z 15, aI V 900 f_140), (z 16, aI V 6 f_138), (z 0, .inr (10, mo z pz0_0 pz0_5 pz0_6 pz0_7 pz0_8 pz0_9 pz0_10 pz0_11 pz0_12 pz0_13 pz0_14 pz0_18 pz0_19 pz0_22 pz0_23 pz0_29)), (z 1, aI V 3075 fz1)] H := hP
          have hD : va_D A [(z 15, aI V 900 f_140), (z 16, aI V 6 f_138), (z 0, .inr (10, mo z pz0_0 pz0_5 pz0_6 pz0_7 pz0_8 pz0_9 pz0_10 pz0_11 pz0_12 pz0_13 pz0_14 pz0_18 pz0_19 pz0_22 pz0_23 pz0_29)), (z 1, aI V 3075 fz1)] := hD
          exact absurd c_153 (by decide)
      · have b_159 : iv 1 1 r_139 := iv_n0 c_142 br_139 (iv_c (0 : Int32) (a := 0) (b := 0) (by decide)) (by decide)
        refine lv_iload hx hb dX10_nightTo_33 (lv_at hl 1 rfl) ?_
        refine lv_sipush (v := 625) hx hb dX10_nightTo_35 (by decide) ?_
        refine lv_iconst (v := 1) hx hb dX10_nightTo_38 (by decide) ?_
        refine lv_iload hx hb dX10_nightTo_39 (lv_at hl 0 rfl) ?_
        refine lv_ishl hx hb dX10_nightTo_41 ?_
        refine tpi (y := 8) (by decide +kernel) ?_
        refine lv_imul hx hb dX10_nightTo_42 ?_
        refine tpi (y := 5000) (by decide +kernel) ?_
        refine lv_iload hx hb dX10_nightTo_43 (lv_at hl 0 rfl) ?_
        refine jnI (wr := [(z 15, aI V 900 f_140), (z 16, aI V 6 f_138), (z 0, .inr (10, mo z pz0_0 pz0_5 pz0_6 pz0_7 pz0_8 pz0_9 pz0_10 pz0_11 pz0_12 pz0_13 pz0_14 pz0_18 pz0_19 pz0_22 pz0_23 pz0_29)), (z 1, aI V 3075 fz1)]) (rnS (rest := [.int 5000, .int u_2]) ⟨hx, hb, hml, hown, hg⟩ (k_X10_digitOf_0 l V 3 (iv_c (3 : Int32) (by decide))) mt_X10_digitOf q_7_15 ⟨Nat.le_of_ble_eq_true rfl, Nat.le_of_ble_eq_true rfl⟩ hK hP hD hS hA hE [] rfl rfl rfl hl.1 rfl (Nat.le_of_ble_eq_true rfl) dX10_nightTo_45 ⟨Nat.le_of_ble_eq_true rfl, Nat.le_of_ble_eq_true rfl⟩) hP hD hS hA [] [0, 1, 2, 3] rfl rfl rfl (by decide) (fun r_160 w H locs hw hP hD hS => ?_)
        rcases hw with ⟨c_161, c_162, c_163, rfl, rfl⟩ | ⟨c_164, c_165, c_166, rfl, rfl⟩ | ⟨c_167, c_168, rfl, rfl⟩ | ⟨c_169, rfl, rfl⟩
        · have hP : va_P V.1 vwCl [(z 15, aI V 900 f_140), (z 16, aI V 6 f_138), (z 0, .inr (10, mo z pz0_0 pz0_5 pz0_6 pz0_7 pz0_8 pz0_9 pz0_10 pz0_11 pz0_12 pz0_13 pz0_14 pz0_18 pz0_19 pz0_22 pz0_23 pz0_29)), (z 1, aI V 3075 fz1)] H := hP
          have hD : va_D A [(z 15, aI V 900 f_140), (z 16, aI V 6 f_138), (z 0, .inr (10, mo z pz0_0 pz0_5 pz0_6 pz0_7 pz0_8 pz0_9 pz0_10 pz0_11 pz0_12 pz0_13 pz0_14 pz0_18 pz0_19 pz0_22 pz0_23 pz0_29)), (z 1, aI V 3075 fz1)] := hD
          refine lv_aload_n hx hb dX10_nightTo_48 rfl (lv_at hl 2 rfl) ?_
          refine va_get (ci := 10) (v := .ref (z 16)) (C := RX10) (T := TX10) (N := 40) hx hb hg inX10 hown hK hP 2 rfl rfl 16 (by decide) (hg _ q_6_0) (fun _ h9 => h9) rfl dX10_nightTo_49 ?_
          refine lv_iconst (v := 1) hx hb dX10_nightTo_52 (by decide) ?_
          refine va_iald hx hb hK hP 1 0 rfl rfl (vin (by decide +kernel)) dX10_nightTo_53 ?_
          refine lv_topi (fun x_170 ex_170 => ?_)
          have bx_170 : iv 0 4 x_170 := by rw [ex_170]; exact rdT (a := 1) (n := 1) tf_138 (iv_c (1 : Int32) (a := 1) (b := 1) (by decide)) (by decide) (by decide +kernel)
          refine lv_if_le (tgt := 68) hx hb dX10_nightTo_54 (by decide) (fun c_171 => ?_) (fun c_171 => ?_)
          · have b_172 : iv 0 0 x_170 := iv_e1 c_171 bx_170 (iv_c (0 : Int32) (a := 0) (b := 0) (by decide)) (by decide)
            refine lv_iconst (v := 0) hx hb dX10_nightTo_68 (by decide) ?_
            refine lv_imul hx hb dX10_nightTo_69 ?_
            refine tpi (y := 0) (by decide +kernel) ?_
            refine lv_iadd hx hb dX10_nightTo_70 ?_
            refine tpi (y := 5000) (by decide +kernel) ?_
            refine lv_iadd hx hb dX10_nightTo_71 ?_
            refine lv_topi (fun x_173 ex_173 => ?_)
            have bx_173 : iv 5000 9468 x_173 := by rw [ex_173]; exact iv_add b_137 (iv_c (5000 : Int32) (a := 5000) (b := 5000) (by decide)) (by decide)
            refine lv_istore (lv' := [(4, .int x_173), (5, .int 3), (0, .ref (z 0)), (1, .int a1), (2, .int a2), (3, .int a3)]) hx hb dX10_nightTo_72 hl (by decide) rfl (fun ls hl => ?_)
            refine lv_goto (tgt := 92) hx hb dX10_nightTo_74 (by decide) ?_
            refine lv_iinc (v := 4) (lv' := [(5, .int 4), (4, .int x_173), (0, .ref (z 0)), (1, .int a1), (2, .int a2), (3, .int a3)]) hx hb dX10_nightTo_92 hl (k := 1) rfl (by decide +kernel) (by decide) rfl (fun ls hl => ?_)
            refine lv_goto (tgt := 6) hx hb dX10_nightTo_95 (by decide) ?_
            exact ihn_5 _ _ _ _ (by rw [en_5]; decide) ⟨4, x_173, f_140, f_138, (iv_c (4 : Int32) (by decide)), (iv_w bx_173 (by decide)), tf_138, (nb_o bx_173 (by decide)), g_141, rfl, hP, hD, hS, lv_sub hl [0, 1, 2, 3, 4, 5] rfl⟩
          · have b_174 : iv 1 4 x_170 := iv_l2 (Int32.not_le.mp c_171) (iv_c (0 : Int32) (a := 0) (b := 0) (by decide)) bx_170 (by decide)
            refine lv_aload_n hx hb dX10_nightTo_57 rfl (lv_at hl 2 rfl) ?_
            refine va_get (ci := 10) (v := .ref (z 16)) (C := RX10) (T := TX10) (N := 40) hx hb hg inX10 hown hK hP 2 rfl rfl 16 (by decide) (hg _ q_6_0) (fun _ h9 => h9) rfl dX10_nightTo_58 ?_
            refine lv_iconst (v := 1) hx hb dX10_nightTo_61 (by decide) ?_
            refine va_iald hx hb hK hP 1 0 rfl rfl (vin (by decide +kernel)) dX10_nightTo_62 ?_
            refine tpi (y := x_170) ex_170.symm ?_
            refine lv_iconst (v := 1) hx hb dX10_nightTo_63 (by decide) ?_
            refine lv_isub hx hb dX10_nightTo_64 ?_
            refine lv_topi (fun x_175 ex_175 => ?_)
            have bx_175 : iv 0 3 x_175 := by rw [ex_175]; exact iv_sub b_174 (iv_c (1 : Int32) (a := 1) (b := 1) (by decide)) (by decide)
            refine lv_goto (tgt := 69) hx hb dX10_nightTo_65 (by decide) ?_
            refine lv_imul hx hb dX10_nightTo_69 ?_
            refine lv_topi (fun x_176 ex_176 => ?_)
            have bx_176 : iv 0 375 x_176 := by rw [ex_176]; exact iv_cmul (iv_c (125 : Int32) (a := 125) (b := 125) (by decide)) bx_175 (by decide)
            refine lv_iadd hx hb dX10_nightTo_70 ?_
            refine lv_topi (fun x_177 ex_177 => ?_)
            have bx_177 : iv 5000 5375 x_177 := by rw [ex_177]; exact iv_add (iv_c (5000 : Int32) (a := 5000) (b := 5000) (by decide)) bx_176 (by decide)
            refine lv_iadd hx hb dX10_nightTo_71 ?_
            refine lv_topi (fun x_178 ex_178 => ?_)
            have bx_178 : iv 5000 9843 x_178 := by rw [ex_178]; exact iv_add b_137 bx_177 (by decide)
            refine lv_istore (lv' := [(4, .int x_178), (5, .int 3), (0, .ref (z 0)), (1, .int a1), (2, .int a2), (3, .int a3)]) hx hb dX10_nightTo_72 hl (by decide) rfl (fun ls hl => ?_)
            refine lv_goto (tgt := 92) hx hb dX10_nightTo_74 (by decide) ?_
            refine lv_iinc (v := 4) (lv' := [(5, .int 4), (4, .int x_178), (0, .ref (z 0)), (1, .int a1), (2, .int a2), (3, .int a3)]) hx hb dX10_nightTo_92 hl (k := 1) rfl (by decide +kernel) (by decide) rfl (fun ls hl => ?_)
            refine lv_goto (tgt := 6) hx hb dX10_nightTo_95 (by decide) ?_
            exact ihn_5 _ _ _ _ (by rw [en_5]; decide) ⟨4, x_178, f_140, f_138, (iv_c (4 : Int32) (by decide)), (iv_w bx_178 (by decide)), tf_138, (nb_o bx_178 (by decide)), g_141, rfl, hP, hD, hS, lv_sub hl [0, 1, 2, 3, 4, 5] rfl⟩
        · have hP : va_P V.1 vwCl [(z 15, aI V 900 f_140), (z 16, aI V 6 f_138), (z 0, .inr (10, mo z pz0_0 pz0_5 pz0_6 pz0_7 pz0_8 pz0_9 pz0_10 pz0_11 pz0_12 pz0_13 pz0_14 pz0_18 pz0_19 pz0_22 pz0_23 pz0_29)), (z 1, aI V 3075 fz1)] H := hP
          have hD : va_D A [(z 15, aI V 900 f_140), (z 16, aI V 6 f_138), (z 0, .inr (10, mo z pz0_0 pz0_5 pz0_6 pz0_7 pz0_8 pz0_9 pz0_10 pz0_11 pz0_12 pz0_13 pz0_14 pz0_18 pz0_19 pz0_22 pz0_23 pz0_29)), (z 1, aI V 3075 fz1)] := hD
          exact absurd c_166 (by decide)
        · have hP : va_P V.1 vwCl [(z 15, aI V 900 f_140), (z 16, aI V 6 f_138), (z 0, .inr (10, mo z pz0_0 pz0_5 pz0_6 pz0_7 pz0_8 pz0_9 pz0_10 pz0_11 pz0_12 pz0_13 pz0_14 pz0_18 pz0_19 pz0_22 pz0_23 pz0_29)), (z 1, aI V 3075 fz1)] H := hP
          have hD : va_D A [(z 15, aI V 900 f_140), (z 16, aI V 6 f_138), (z 0, .inr (10, mo z pz0_0 pz0_5 pz0_6 pz0_7 pz0_8 pz0_9 pz0_10 pz0_11 pz0_12 pz0_13 pz0_14 pz0_18 pz0_19 pz0_22 pz0_23 pz0_29)), (z 1, aI V 3075 fz1)] := hD
          exact absurd c_168 (by decide)
        · have hP : va_P V.1 vwCl [(z 15, aI V 900 f_140), (z 16, aI V 6 f_138), (z 0, .inr (10, mo z pz0_0 pz0_5 pz0_6 pz0_7 pz0_8 pz0_9 pz0_10 pz0_11 pz0_12 pz0_13 pz0_14 pz0_18 pz0_19 pz0_22 pz0_23 pz0_29)), (z 1, aI V 3075 fz1)] H := hP
          have hD : va_D A [(z 15, aI V 900 f_140), (z 16, aI V 6 f_138), (z 0, .inr (10, mo z pz0_0 pz0_5 pz0_6 pz0_7 pz0_8 pz0_9 pz0_10 pz0_11 pz0_12 pz0_13 pz0_14 pz0_18 pz0_19 pz0_22 pz0_23 pz0_29)), (z 1, aI V 3075 fz1)] := hD
          exact absurd c_169 (by decide)
theorem dX10_takes_0 : decode cX10_takes 0 = .ok (.aload_n 0, 1) := by decide +kernel
theorem dX10_takes_1 : decode cX10_takes 1 = .ok (.iconst 0, 1) := by decide +kernel
theorem dX10_takes_2 : decode cX10_takes 2 = .ok (.putfield 1, 3) := by decide +kernel
theorem dX10_takes_5 : decode cX10_takes 5 = .ok (.aload_n 0, 1) := by decide +kernel
theorem dX10_takes_6 : decode cX10_takes 6 = .ok (.iload_n 2, 1) := by decide +kernel
theorem dX10_takes_7 : decode cX10_takes 7 = .ok (.i2l, 1) := by decide +kernel
theorem dX10_takes_8 : decode cX10_takes 8 = .ok (.invokevirtual 262, 3) := by decide +kernel
theorem dX10_takes_11 : decode cX10_takes 11 = .ok (.ifCond .ne 6, 3) := by decide +kernel
theorem dX10_takes_17 : decode cX10_takes 17 = .ok (.aload_n 0, 1) := by decide +kernel
theorem dX10_takes_18 : decode cX10_takes 18 = .ok (.iload_n 1, 1) := by decide +kernel
theorem dX10_takes_19 : decode cX10_takes 19 = .ok (.i2l, 1) := by decide +kernel
theorem q_7_10 : Cond.code yX10_isNight prog_12_method_51_code 3 (some FieldType.boolean) ∈ gw := gw_7 (i := 10) (rfl) rfl
theorem q_7_9 : Cond.instanceMethod yX10_isNight ∈ gw := gw_7 (i := 9) (by decide +kernel) rfl
theorem q_s_80 : Cond.selects "BeaconDelayModel" yX10_isNight yX10_isNight ∈ gw := gw_s (i := 80) (by decide +kernel) rfl
theorem mt_X10_isNight : MtV yX10_isNight cX10_isNight 3 (some .boolean) 1 := ⟨⟨q_7_10, q_1_9, by decide +kernel, by decide +kernel, by decide +kernel⟩, q_7_9, q_s_80⟩
theorem q_7_7 : Cond.methodLink "BeaconDelayModel" 266 yX10_isNight ∈ gw := gw_7 (i := 7) (by decide +kernel) rfl
theorem dX10_takes_20 : decode cX10_takes 20 = .ok (.invokevirtual 266, 3) := by decide +kernel
theorem dX10_takes_23 : decode cX10_takes 23 = .ok (.ifCond .eq 29, 3) := by decide +kernel
theorem dX10_takes_52 : decode cX10_takes 52 = .ok (.bipush (-5), 2) := by decide +kernel
theorem dX10_takes_54 : decode cX10_takes 54 = .ok (.ireturn, 1) := by decide +kernel
theorem dX10_takes_26 : decode cX10_takes 26 = .ok (.aload_n 0, 1) := by decide +kernel
theorem dX10_takes_27 : decode cX10_takes 27 = .ok (.aload_n 0, 1) := by decide +kernel
theorem q_7_14 : Cond.code yX10_standNow prog_12_method_40_code 3 (some FieldType.int) ∈ gw := gw_7 (i := 14) (rfl) rfl
theorem q_7_13 : Cond.instanceMethod yX10_standNow ∈ gw := gw_7 (i := 13) (by decide +kernel) rfl
theorem q_s_81 : Cond.selects "BeaconDelayModel" yX10_standNow yX10_standNow ∈ gw := gw_s (i := 81) (by decide +kernel) rfl
theorem mt_X10_standNow : MtV yX10_standNow cX10_standNow 3 (some .int) 0 := ⟨⟨q_7_14, q_1_9, by decide +kernel, by decide +kernel, by decide +kernel⟩, q_7_13, q_s_81⟩
theorem q_7_11 : Cond.methodLink "BeaconDelayModel" 269 yX10_standNow ∈ gw := gw_7 (i := 11) (by decide +kernel) rfl
theorem dX10_takes_28 : decode cX10_takes 28 = .ok (.invokevirtual 269, 3) := by decide +kernel
theorem dX10_takes_31 : decode cX10_takes 31 = .ok (.iload_n 1, 1) := by decide +kernel
theorem dX10_takes_32 : decode cX10_takes 32 = .ok (.aload_n 0, 1) := by decide +kernel
theorem dX10_takes_33 : decode cX10_takes 33 = .ok (.getfield 13, 3) := by decide +kernel
theorem dX10_takes_36 : decode cX10_takes 36 = .ok (.bipush 51, 2) := by decide +kernel
theorem dX10_takes_38 : decode cX10_takes 38 = .ok (.iaload, 1) := by decide +kernel
theorem q_7_21 : Cond.code yX10_nightTo prog_12_method_50_code 6 (some FieldType.int) ∈ gw := gw_7 (i := 21) (rfl) rfl
theorem q_7_20 : Cond.instanceMethod yX10_nightTo ∈ gw := gw_7 (i := 20) (by decide +kernel) rfl
theorem q_s_82 : Cond.selects "BeaconDelayModel" yX10_nightTo yX10_nightTo ∈ gw := gw_s (i := 82) (by decide +kernel) rfl
theorem mt_X10_nightTo : MtV yX10_nightTo cX10_nightTo 6 (some .int) 3 := ⟨⟨q_7_21, q_1_9, by decide +kernel, by decide +kernel, by decide +kernel⟩, q_7_20, q_s_82⟩
theorem q_7_18 : Cond.methodLink "BeaconDelayModel" 272 yX10_nightTo ∈ gw := gw_7 (i := 18) (by decide +kernel) rfl
theorem dX10_takes_39 : decode cX10_takes 39 = .ok (.invokevirtual 272, 3) := by decide +kernel
theorem dX10_takes_42 : decode cX10_takes 42 = .ok (.invokestatic 234, 3) := by decide +kernel
theorem dX10_takes_45 : decode cX10_takes 45 = .ok (.iload_n 2, 1) := by decide +kernel
theorem dX10_takes_46 : decode cX10_takes 46 = .ok (.ishr, 1) := by decide +kernel
theorem dX10_takes_47 : decode cX10_takes 47 = .ok (.iconst 1, 1) := by decide +kernel
theorem dX10_takes_48 : decode cX10_takes 48 = .ok (.iand, 1) := by decide +kernel
theorem dX10_takes_49 : decode cX10_takes 49 = .ok (.goto 5, 3) := by decide +kernel
theorem dX10_takes_14 : decode cX10_takes 14 = .ok (.bipush (-2), 2) := by decide +kernel
theorem dX10_takes_16 : decode cX10_takes 16 = .ok (.ireturn, 1) := by decide +kernel
set_option maxHeartbeats 4000000 in
set_option maxRecDepth 100000 in
theorem k_X10_takes_0 (l : Launch) (V : GV) (z : Nat → Nat) (a1 : Int32) (a2 : Int32) (pz0_0 : Int32) (pz0_5 : Int32) (pz0_6 : Int32) (pz0_7 : Int32) (pz0_8 : Int32) (pz0_9 : Int32) (pz0_10 : Int32) (pz0_11 : Int32) (pz0_12 : Int32) (pz0_13 : Int32) (pz0_14 : Int32) (pz0_18 : Int32) (pz0_19 : Int32) (pz0_22 : Int32) (pz0_23 : Int32) (pz0_29 : Int32) (fz1 : Nat → Int32) (fz15 : Nat → Int32) (fz16 : Nat → Int32) (bpz0_5 : iv 0 900 pz0_5) (bpz0_6 : iv 0 900 pz0_6) (bpz0_7 : iv 0 900 pz0_7) (bpz0_8 : iv 0 900 pz0_8) (bpz0_10 : iv 0 999 pz0_10) (bpz0_11 : iv 0 4 pz0_11) (bpz0_12 : iv 0 900 pz0_12) (bpz0_13 : iv 0 4 pz0_13) (bpz0_14 : iv (-1) 900 pz0_14) (bpz0_18 : iv 0 2 pz0_18) (bpz0_22 : iv 0 9999 pz0_22) (bpz0_29 : iv 0 10000 pz0_29) (tfz1 : ivT tA fz1) (tfz16 : ivT tW fz16) (hf0 : RW fz1) : Ct l V yX10_takes (.code yX10_takes cX10_takes 3 (some .int)) 5 [.ref (z 0), .int a1, .int a2] [(z 0, .inr (10, mo z pz0_0 pz0_5 pz0_6 pz0_7 pz0_8 pz0_9 pz0_10 pz0_11 pz0_12 pz0_13 pz0_14 pz0_18 pz0_19 pz0_22 pz0_23 pz0_29)), (z 1, aI V 3075 fz1), (z 15, aI V 900 fz15), (z 16, aI V 6 fz16)] 0 0 (QI V (fun (r : Int32) (w : va_W) => ∃ (v0 : Int32) (g1 : Nat → Int32) (g2 : Nat → Int32), (ivT tW g2) ∧ iv (-5) 1 r ∧ (RW fz1) ∧ w = [(z 0, .inr (10, mo z v0 pz0_5 pz0_6 pz0_7 pz0_8 pz0_9 pz0_10 pz0_11 pz0_12 pz0_13 pz0_14 pz0_18 pz0_19 pz0_22 pz0_23 pz0_29)), (z 1, aI V 3075 fz1), (z 15, aI V 900 g1), (z 16, aI V 6 g2)])) := by
  refine Ct.of (by decide) (Nat.le_of_ble_eq_true rfl) (fun p e s m below meth c A ls hx hb hr hml hown hlk hnm hg hP hK hD hE hA hS hl => ?_)
  have hl : lv_has ls 3 [(0, .ref (z 0)), (1, .int a1), (2, .int a2)] := hl
  refine lv_aload_n hx hb dX10_takes_0 rfl (lv_at hl 0 rfl) ?_
  refine lv_iconst (v := 0) hx hb dX10_takes_1 (by decide) ?_
  refine va_put (ci := 10) (v := .int 0) (ty := .int) (C := RX10) (T := TX10) (N := 40) hx hb hg inX10 tyX10 tyX10_ok nmX10 hown hK hP hD hS 0 rfl rfl 0 (by decide) (hg _ q_5_224) (fun _ h9 => h9) rfl (by decide +kernel) rfl rfl (Nat.le_of_ble_eq_true rfl) dX10_takes_2 (fun H locs hP hD hS => ?_)
  have hP : va_P V.1 vwCl [(z 0, .inr (10, mo z 0 pz0_5 pz0_6 pz0_7 pz0_8 pz0_9 pz0_10 pz0_11 pz0_12 pz0_13 pz0_14 pz0_18 pz0_19 pz0_22 pz0_23 pz0_29)), (z 1, aI V 3075 fz1), (z 15, aI V 900 fz15), (z 16, aI V 6 fz16)] H := hP
  have hD : va_D A [(z 0, .inr (10, mo z 0 pz0_5 pz0_6 pz0_7 pz0_8 pz0_9 pz0_10 pz0_11 pz0_12 pz0_13 pz0_14 pz0_18 pz0_19 pz0_22 pz0_23 pz0_29)), (z 1, aI V 3075 fz1), (z 15, aI V 900 fz15), (z 16, aI V 6 fz16)] := hD
  refine lv_aload_n hx hb dX10_takes_5 rfl (lv_at hl 0 rfl) ?_
  refine lv_iload_n hx hb dX10_takes_6 rfl (lv_at hl 2 rfl) ?_
  refine lv_i2l hx hb dX10_takes_7 rfl ?_
  refine lv_topl (fun j_1 ej_1 => ?_)
  refine jnI (wr := [(z 15, aI V 900 fz15), (z 16, aI V 6 fz16)]) (rnV (rest := []) ⟨hx, hb, hml, hown, hg⟩ (k_X10_isHill_0 l V z j_1 0 pz0_5 pz0_6 pz0_7 pz0_8 pz0_9 pz0_10 pz0_11 pz0_12 pz0_13 pz0_14 pz0_18 pz0_19 pz0_22 pz0_23 pz0_29 fz1 bpz0_5 bpz0_6 bpz0_7 bpz0_8 bpz0_10 bpz0_11 bpz0_12 bpz0_13 bpz0_14 bpz0_18 bpz0_22 bpz0_29 tfz1) mt_X10_isHill q_6_235 ⟨Nat.le_of_ble_eq_true rfl, Nat.le_of_ble_eq_true rfl⟩ hK hP hD hS hA hE [0, 1] rfl rfl 0 rfl rfl rfl rfl hl.1 rfl (Nat.le_of_ble_eq_true rfl) dX10_takes_8 ⟨Nat.le_of_ble_eq_true rfl, Nat.le_of_ble_eq_true rfl⟩) hP hD hS hA [0, 1] [2, 3] rfl rfl rfl (by decide) (fun r_2 w H locs hw hP hD hS => ?_)
  obtain ⟨br_2, g_3, rfl⟩ := hw
  have hP : va_P V.1 vwCl [(z 15, aI V 900 fz15), (z 16, aI V 6 fz16), (z 0, .inr (10, mo z 0 pz0_5 pz0_6 pz0_7 pz0_8 pz0_9 pz0_10 pz0_11 pz0_12 pz0_13 pz0_14 pz0_18 pz0_19 pz0_22 pz0_23 pz0_29)), (z 1, aI V 3075 fz1)] H := hP
  have hD : va_D A [(z 15, aI V 900 fz15), (z 16, aI V 6 fz16), (z 0, .inr (10, mo z 0 pz0_5 pz0_6 pz0_7 pz0_8 pz0_9 pz0_10 pz0_11 pz0_12 pz0_13 pz0_14 pz0_18 pz0_19 pz0_22 pz0_23 pz0_29)), (z 1, aI V 3075 fz1)] := hD
  refine lv_if_ne (tgt := 17) hx hb dX10_takes_11 (by decide) (fun c_4 => ?_) (fun c_4 => ?_)
  · have b_5 : iv 1 1 r_2 := iv_n0 c_4 br_2 (iv_c (0 : Int32) (a := 0) (b := 0) (by decide)) (by decide)
    have b_6 : ivL 0 3 j_1 := ivL_cap (g_3 (iv_eqp b_5 (iv_c (1 : Int32) (by decide)))) (ivL_top j_1) (by decide)
    have b_7 : iv 0 3 a2 := iv_cap (ivL_i ej_1 b_6) (iv_top a2) (by decide)
    refine lv_aload_n hx hb dX10_takes_17 rfl (lv_at hl 0 rfl) ?_
    refine lv_iload_n hx hb dX10_takes_18 rfl (lv_at hl 1 rfl) ?_
    refine lv_i2l hx hb dX10_takes_19 rfl ?_
    refine lv_topl (fun j_8 ej_8 => ?_)
    refine jnI (wr := [(z 15, aI V 900 fz15), (z 16, aI V 6 fz16)]) (rnV (rest := []) ⟨hx, hb, hml, hown, hg⟩ (k_X10_isNight_0 l V z j_8 0 pz0_5 pz0_6 pz0_7 pz0_8 pz0_9 pz0_10 pz0_11 pz0_12 pz0_13 pz0_14 pz0_18 pz0_19 pz0_22 pz0_23 pz0_29 fz1 bpz0_5 bpz0_6 bpz0_7 bpz0_8 bpz0_10 bpz0_11 bpz0_12 bpz0_13 bpz0_14 bpz0_18 bpz0_22 bpz0_29 tfz1) mt_X10_isNight q_7_7 ⟨Nat.le_of_ble_eq_true rfl, Nat.le_of_ble_eq_true rfl⟩ hK hP hD hS hA hE [2, 3] rfl rfl 2 rfl rfl rfl rfl hl.1 rfl (Nat.le_of_ble_eq_true rfl) dX10_takes_20 ⟨Nat.le_of_ble_eq_true rfl, Nat.le_of_ble_eq_true rfl⟩) hP hD hS hA [2, 3] [0, 1] rfl rfl rfl (by decide) (fun r_9 w H locs hw hP hD hS => ?_)
    obtain ⟨br_9, g_10, rfl⟩ := hw
    have hP : va_P V.1 vwCl [(z 15, aI V 900 fz15), (z 16, aI V 6 fz16), (z 0, .inr (10, mo z 0 pz0_5 pz0_6 pz0_7 pz0_8 pz0_9 pz0_10 pz0_11 pz0_12 pz0_13 pz0_14 pz0_18 pz0_19 pz0_22 pz0_23 pz0_29)), (z 1, aI V 3075 fz1)] H := hP
    have hD : va_D A [(z 15, aI V 900 fz15), (z 16, aI V 6 fz16), (z 0, .inr (10, mo z 0 pz0_5 pz0_6 pz0_7 pz0_8 pz0_9 pz0_10 pz0_11 pz0_12 pz0_13 pz0_14 pz0_18 pz0_19 pz0_22 pz0_23 pz0_29)), (z 1, aI V 3075 fz1)] := hD
    refine lv_if_eq (tgt := 52) hx hb dX10_takes_23 (by decide) (fun c_11 => ?_) (fun c_11 => ?_)
    · have b_12 : iv 0 0 r_9 := iv_q c_11 (iv_c (0 : Int32) (a := 0) (b := 0) (by decide))
      refine lv_bipush (v := (-5)) hx hb dX10_takes_52 (by decide) ?_
      have hP := subP (ws' := [(z 0, .inr (10, mo z 0 pz0_5 pz0_6 pz0_7 pz0_8 pz0_9 pz0_10 pz0_11 pz0_12 pz0_13 pz0_14 pz0_18 pz0_19 pz0_22 pz0_23 pz0_29)), (z 1, aI V 3075 fz1), (z 15, aI V 900 fz15), (z 16, aI V 6 fz16)]) hP [2, 3, 0, 1] rfl
      have hD := hD.sub (ws' := [(z 0, .inr (10, mo z 0 pz0_5 pz0_6 pz0_7 pz0_8 pz0_9 pz0_10 pz0_11 pz0_12 pz0_13 pz0_14 pz0_18 pz0_19 pz0_22 pz0_23 pz0_29)), (z 1, aI V 3075 fz1), (z 15, aI V 900 fz15), (z 16, aI V 6 fz16)]) [2, 3, 0, 1] rfl rfl
      exact fiI hx hb hr hlk hK hP hD hS dX10_takes_54 (Nat.le_of_ble_eq_true rfl) (Nat.le_of_ble_eq_true rfl) (⟨0, fz15, fz16, tfz16, (iv_c ((-5) : Int32) (by decide)), hf0, rfl⟩)
    · have b_13 : iv 1 1 r_9 := iv_n0 c_11 br_9 (iv_c (0 : Int32) (a := 0) (b := 0) (by decide)) (by decide)
      have b_14 : ivL 0 3 j_8 := ivL_cap (g_10 (iv_eqp b_13 (iv_c (1 : Int32) (by decide)))) (ivL_top j_8) (by decide)
      have b_15 : iv 0 3 a1 := iv_cap (ivL_i ej_8 b_14) (iv_top a1) (by decide)
      refine lv_aload_n hx hb dX10_takes_26 rfl (lv_at hl 0 rfl) ?_
      refine lv_aload_n hx hb dX10_takes_27 rfl (lv_at hl 0 rfl) ?_
      refine jnI (wr := [(z 15, aI V 900 fz15), (z 16, aI V 6 fz16)]) (rnV (rest := [.ref (z 0)]) ⟨hx, hb, hml, hown, hg⟩ (k_X10_standNow_0 l V z 0 pz0_5 pz0_6 pz0_7 pz0_8 pz0_9 pz0_10 pz0_11 pz0_12 pz0_13 pz0_14 pz0_18 pz0_19 pz0_22 pz0_23 pz0_29 fz1 bpz0_5 bpz0_6 bpz0_7 bpz0_8 bpz0_10 bpz0_11 bpz0_12 bpz0_13 bpz0_14 bpz0_18 bpz0_22 bpz0_29 tfz1) mt_X10_standNow q_7_11 ⟨Nat.le_of_ble_eq_true rfl, Nat.le_of_ble_eq_true rfl⟩ hK hP hD hS hA hE [2, 3] rfl rfl 2 rfl rfl rfl rfl hl.1 rfl (Nat.le_of_ble_eq_true rfl) dX10_takes_28 ⟨Nat.le_of_ble_eq_true rfl, Nat.le_of_ble_eq_true rfl⟩) hP hD hS hA [2, 3] [0, 1] rfl rfl rfl (by decide) (fun r_16 w H locs hw hP hD hS => ?_)
      obtain ⟨br_16, er_16, rfl⟩ := hw
      have hP : va_P V.1 vwCl [(z 15, aI V 900 fz15), (z 16, aI V 6 fz16), (z 0, .inr (10, mo z 0 pz0_5 pz0_6 pz0_7 pz0_8 pz0_9 pz0_10 pz0_11 pz0_12 pz0_13 pz0_14 pz0_18 pz0_19 pz0_22 pz0_23 pz0_29)), (z 1, aI V 3075 fz1)] H := hP
      have hD : va_D A [(z 15, aI V 900 fz15), (z 16, aI V 6 fz16), (z 0, .inr (10, mo z 0 pz0_5 pz0_6 pz0_7 pz0_8 pz0_9 pz0_10 pz0_11 pz0_12 pz0_13 pz0_14 pz0_18 pz0_19 pz0_22 pz0_23 pz0_29)), (z 1, aI V 3075 fz1)] := hD
      refine lv_iload_n hx hb dX10_takes_31 rfl (lv_at hl 1 rfl) ?_
      refine lv_aload_n hx hb dX10_takes_32 rfl (lv_at hl 0 rfl) ?_
      refine va_get (ci := 10) (v := .ref (z 1)) (C := RX10) (T := TX10) (N := 40) hx hb hg inX10 hown hK hP 2 rfl rfl 1 (by decide) (hg _ q_5_225) (fun _ h9 => h9) rfl dX10_takes_33 ?_
      refine lv_bipush (v := 51) hx hb dX10_takes_36 (by decide) ?_
      refine va_iald hx hb hK hP 3 0 rfl rfl (vin (by decide +kernel)) dX10_takes_38 ?_
      refine lv_topi (fun x_17 ex_17 => ?_)
      have bx_17 : iv 0 9 x_17 := by rw [ex_17]; exact rdT (a := 51) (n := 1) tfz1 (iv_c (51 : Int32) (a := 51) (b := 51) (by decide)) (by decide) (by decide +kernel)
      refine jnI (wr := []) (rnV (rest := []) ⟨hx, hb, hml, hown, hg⟩ (k_X10_nightTo_0 l V z r_16 a1 x_17 fz15 fz16 0 pz0_5 pz0_6 pz0_7 pz0_8 pz0_9 pz0_10 pz0_11 pz0_12 pz0_13 pz0_14 pz0_18 pz0_19 pz0_22 pz0_23 pz0_29 fz1 br_16 tfz16 bpz0_5 bpz0_6 bpz0_7 bpz0_8 bpz0_10 bpz0_11 bpz0_12 bpz0_13 bpz0_14 bpz0_18 bpz0_22 bpz0_29 tfz1 hf0) mt_X10_nightTo q_7_18 ⟨Nat.le_of_ble_eq_true rfl, Nat.le_of_ble_eq_true rfl⟩ hK hP hD hS hA hE [0, 1, 2, 3] rfl rfl 2 rfl rfl rfl rfl hl.1 rfl (Nat.le_of_ble_eq_true rfl) dX10_takes_39 ⟨Nat.le_of_ble_eq_true rfl, Nat.le_of_ble_eq_true rfl⟩) hP hD hS hA [0, 1, 2, 3] [] rfl rfl rfl (by decide) (fun r_18 w H locs hw hP hD hS => ?_)
      obtain ⟨f_19, f_20, tf_20, br_18, g_21, rfl⟩ := hw
      have hP : va_P V.1 vwCl [(z 15, aI V 900 f_19), (z 16, aI V 6 f_20), (z 0, .inr (10, mo z 0 pz0_5 pz0_6 pz0_7 pz0_8 pz0_9 pz0_10 pz0_11 pz0_12 pz0_13 pz0_14 pz0_18 pz0_19 pz0_22 pz0_23 pz0_29)), (z 1, aI V 3075 fz1)] H := hP
      have hD : va_D A [(z 15, aI V 900 f_19), (z 16, aI V 6 f_20), (z 0, .inr (10, mo z 0 pz0_5 pz0_6 pz0_7 pz0_8 pz0_9 pz0_10 pz0_11 pz0_12 pz0_13 pz0_14 pz0_18 pz0_19 pz0_22 pz0_23 pz0_29)), (z 1, aI V 3075 fz1)] := hD
      refine jnI (wr := [(z 15, aI V 900 f_19), (z 16, aI V 6 f_20), (z 0, .inr (10, mo z 0 pz0_5 pz0_6 pz0_7 pz0_8 pz0_9 pz0_10 pz0_11 pz0_12 pz0_13 pz0_14 pz0_18 pz0_19 pz0_22 pz0_23 pz0_29)), (z 1, aI V 3075 fz1)]) (rnS (rest := []) ⟨hx, hb, hml, hown, hg⟩ (k_X10_tookIn_0 l V r_18 (iv_w br_18 (by decide))) mt_X10_tookIn q_7_29 ⟨Nat.le_of_ble_eq_true rfl, Nat.le_of_ble_eq_true rfl⟩ hK hP hD hS hA hE [] rfl rfl rfl hl.1 rfl (Nat.le_of_ble_eq_true rfl) dX10_takes_42 ⟨Nat.le_of_ble_eq_true rfl, Nat.le_of_ble_eq_true rfl⟩) hP hD hS hA [] [0, 1, 2, 3] rfl rfl rfl (by decide) (fun r_22 w H locs hw hP hD hS => ?_)
      obtain ⟨br_22, rfl⟩ := hw
      have hP : va_P V.1 vwCl [(z 15, aI V 900 f_19), (z 16, aI V 6 f_20), (z 0, .inr (10, mo z 0 pz0_5 pz0_6 pz0_7 pz0_8 pz0_9 pz0_10 pz0_11 pz0_12 pz0_13 pz0_14 pz0_18 pz0_19 pz0_22 pz0_23 pz0_29)), (z 1, aI V 3075 fz1)] H := hP
      have hD : va_D A [(z 15, aI V 900 f_19), (z 16, aI V 6 f_20), (z 0, .inr (10, mo z 0 pz0_5 pz0_6 pz0_7 pz0_8 pz0_9 pz0_10 pz0_11 pz0_12 pz0_13 pz0_14 pz0_18 pz0_19 pz0_22 pz0_23 pz0_29)), (z 1, aI V 3075 fz1)] := hD
      refine lv_iload_n hx hb dX10_takes_45 rfl (lv_at hl 2 rfl) ?_
      refine lv_ishr hx hb dX10_takes_46 ?_
      refine lv_topi (fun x_23 ex_23 => ?_)
      refine lv_iconst (v := 1) hx hb dX10_takes_47 (by decide) ?_
      refine lv_iand hx hb dX10_takes_48 ?_
      refine lv_topi (fun x_24 ex_24 => ?_)
      have bx_24 : iv 0 1 x_24 := by rw [ex_24]; exact iv_and1 _
      refine lv_goto (tgt := 54) hx hb dX10_takes_49 (by decide) ?_
      have hP := subP (ws' := [(z 0, .inr (10, mo z 0 pz0_5 pz0_6 pz0_7 pz0_8 pz0_9 pz0_10 pz0_11 pz0_12 pz0_13 pz0_14 pz0_18 pz0_19 pz0_22 pz0_23 pz0_29)), (z 1, aI V 3075 fz1), (z 15, aI V 900 f_19), (z 16, aI V 6 f_20)]) hP [2, 3, 0, 1] rfl
      have hD := hD.sub (ws' := [(z 0, .inr (10, mo z 0 pz0_5 pz0_6 pz0_7 pz0_8 pz0_9 pz0_10 pz0_11 pz0_12 pz0_13 pz0_14 pz0_18 pz0_19 pz0_22 pz0_23 pz0_29)), (z 1, aI V 3075 fz1), (z 15, aI V 900 f_19), (z 16, aI V 6 f_20)]) [2, 3, 0, 1] rfl rfl
      exact fiI hx hb hr hlk hK hP hD hS dX10_takes_54 (Nat.le_of_ble_eq_true rfl) (Nat.le_of_ble_eq_true rfl) (⟨0, f_19, f_20, tf_20, (iv_w bx_24 (by decide)), g_21, rfl⟩)
  · have b_25 : iv 0 0 r_2 := iv_q c_4 (iv_c (0 : Int32) (a := 0) (b := 0) (by decide))
    refine lv_bipush (v := (-2)) hx hb dX10_takes_14 (by decide) ?_
    have hP := subP (ws' := [(z 0, .inr (10, mo z 0 pz0_5 pz0_6 pz0_7 pz0_8 pz0_9 pz0_10 pz0_11 pz0_12 pz0_13 pz0_14 pz0_18 pz0_19 pz0_22 pz0_23 pz0_29)), (z 1, aI V 3075 fz1), (z 15, aI V 900 fz15), (z 16, aI V 6 fz16)]) hP [2, 3, 0, 1] rfl
    have hD := hD.sub (ws' := [(z 0, .inr (10, mo z 0 pz0_5 pz0_6 pz0_7 pz0_8 pz0_9 pz0_10 pz0_11 pz0_12 pz0_13 pz0_14 pz0_18 pz0_19 pz0_22 pz0_23 pz0_29)), (z 1, aI V 3075 fz1), (z 15, aI V 900 fz15), (z 16, aI V 6 fz16)]) [2, 3, 0, 1] rfl rfl
    exact fiI hx hb hr hlk hK hP hD hS dX10_takes_16 (Nat.le_of_ble_eq_true rfl) (Nat.le_of_ble_eq_true rfl) (⟨0, fz15, fz16, tfz16, (iv_c ((-2) : Int32) (by decide)), hf0, rfl⟩)
theorem dX10_by_0 : decode cX10_by 0 = .ok (.aload_n 0, 1) := by decide +kernel
theorem dX10_by_1 : decode cX10_by 1 = .ok (.iconst 0, 1) := by decide +kernel
theorem dX10_by_2 : decode cX10_by 2 = .ok (.putfield 1, 3) := by decide +kernel
theorem dX10_by_5 : decode cX10_by 5 = .ok (.aload_n 0, 1) := by decide +kernel
theorem dX10_by_6 : decode cX10_by 6 = .ok (.iload_n 2, 1) := by decide +kernel
theorem dX10_by_7 : decode cX10_by 7 = .ok (.i2l, 1) := by decide +kernel
theorem dX10_by_8 : decode cX10_by 8 = .ok (.invokevirtual 262, 3) := by decide +kernel
theorem dX10_by_11 : decode cX10_by 11 = .ok (.ifCond .ne 6, 3) := by decide +kernel
theorem dX10_by_17 : decode cX10_by 17 = .ok (.aload_n 0, 1) := by decide +kernel
theorem dX10_by_18 : decode cX10_by 18 = .ok (.iload_n 1, 1) := by decide +kernel
theorem dX10_by_19 : decode cX10_by 19 = .ok (.i2l, 1) := by decide +kernel
theorem dX10_by_20 : decode cX10_by 20 = .ok (.invokevirtual 266, 3) := by decide +kernel
theorem dX10_by_23 : decode cX10_by 23 = .ok (.ifCond .eq 26, 3) := by decide +kernel
theorem dX10_by_49 : decode cX10_by 49 = .ok (.bipush (-5), 2) := by decide +kernel
theorem dX10_by_51 : decode cX10_by 51 = .ok (.ireturn, 1) := by decide +kernel
theorem dX10_by_26 : decode cX10_by 26 = .ok (.aload_n 0, 1) := by decide +kernel
theorem dX10_by_27 : decode cX10_by 27 = .ok (.aload_n 0, 1) := by decide +kernel
theorem dX10_by_28 : decode cX10_by 28 = .ok (.invokevirtual 269, 3) := by decide +kernel
theorem dX10_by_31 : decode cX10_by 31 = .ok (.iload_n 1, 1) := by decide +kernel
theorem dX10_by_32 : decode cX10_by 32 = .ok (.aload_n 0, 1) := by decide +kernel
theorem dX10_by_33 : decode cX10_by 33 = .ok (.getfield 13, 3) := by decide +kernel
theorem dX10_by_36 : decode cX10_by 36 = .ok (.bipush 51, 2) := by decide +kernel
theorem dX10_by_38 : decode cX10_by 38 = .ok (.iaload, 1) := by decide +kernel
theorem dX10_by_39 : decode cX10_by 39 = .ok (.invokevirtual 272, 3) := by decide +kernel
theorem dX10_by_42 : decode cX10_by 42 = .ok (.iload_n 2, 1) := by decide +kernel
theorem dX10_by_43 : decode cX10_by 43 = .ok (.invokestatic 231, 3) := by decide +kernel
theorem dX10_by_46 : decode cX10_by 46 = .ok (.goto 5, 3) := by decide +kernel
theorem dX10_by_14 : decode cX10_by 14 = .ok (.bipush (-2), 2) := by decide +kernel
theorem dX10_by_16 : decode cX10_by 16 = .ok (.ireturn, 1) := by decide +kernel
set_option maxHeartbeats 4000000 in
set_option maxRecDepth 100000 in
theorem k_X10_by_0 (l : Launch) (V : GV) (z : Nat → Nat) (a1 : Int32) (a2 : Int32) (pz0_0 : Int32) (pz0_5 : Int32) (pz0_6 : Int32) (pz0_7 : Int32) (pz0_8 : Int32) (pz0_9 : Int32) (pz0_10 : Int32) (pz0_11 : Int32) (pz0_12 : Int32) (pz0_13 : Int32) (pz0_14 : Int32) (pz0_18 : Int32) (pz0_19 : Int32) (pz0_22 : Int32) (pz0_23 : Int32) (pz0_29 : Int32) (fz1 : Nat → Int32) (fz15 : Nat → Int32) (fz16 : Nat → Int32) (bpz0_5 : iv 0 900 pz0_5) (bpz0_6 : iv 0 900 pz0_6) (bpz0_7 : iv 0 900 pz0_7) (bpz0_8 : iv 0 900 pz0_8) (bpz0_10 : iv 0 999 pz0_10) (bpz0_11 : iv 0 4 pz0_11) (bpz0_12 : iv 0 900 pz0_12) (bpz0_13 : iv 0 4 pz0_13) (bpz0_14 : iv (-1) 900 pz0_14) (bpz0_18 : iv 0 2 pz0_18) (bpz0_22 : iv 0 9999 pz0_22) (bpz0_29 : iv 0 10000 pz0_29) (tfz1 : ivT tA fz1) (tfz16 : ivT tW fz16) (hf0 : RW fz1) : Ct l V yX10_by (.code yX10_by cX10_by 3 (some .int)) 5 [.ref (z 0), .int a1, .int a2] [(z 0, .inr (10, mo z pz0_0 pz0_5 pz0_6 pz0_7 pz0_8 pz0_9 pz0_10 pz0_11 pz0_12 pz0_13 pz0_14 pz0_18 pz0_19 pz0_22 pz0_23 pz0_29)), (z 1, aI V 3075 fz1), (z 15, aI V 900 fz15), (z 16, aI V 6 fz16)] 0 0 (QI V (fun (r : Int32) (w : va_W) => ∃ (v0 : Int32) (g1 : Nat → Int32) (g2 : Nat → Int32), (ivT tW g2) ∧ iv (-5) 4 r ∧ (RW fz1) ∧ w = [(z 0, .inr (10, mo z v0 pz0_5 pz0_6 pz0_7 pz0_8 pz0_9 pz0_10 pz0_11 pz0_12 pz0_13 pz0_14 pz0_18 pz0_19 pz0_22 pz0_23 pz0_29)), (z 1, aI V 3075 fz1), (z 15, aI V 900 g1), (z 16, aI V 6 g2)])) := by
  refine Ct.of (by decide) (Nat.le_of_ble_eq_true rfl) (fun p e s m below meth c A ls hx hb hr hml hown hlk hnm hg hP hK hD hE hA hS hl => ?_)
  have hl : lv_has ls 3 [(0, .ref (z 0)), (1, .int a1), (2, .int a2)] := hl
  refine lv_aload_n hx hb dX10_by_0 rfl (lv_at hl 0 rfl) ?_
  refine lv_iconst (v := 0) hx hb dX10_by_1 (by decide) ?_
  refine va_put (ci := 10) (v := .int 0) (ty := .int) (C := RX10) (T := TX10) (N := 40) hx hb hg inX10 tyX10 tyX10_ok nmX10 hown hK hP hD hS 0 rfl rfl 0 (by decide) (hg _ q_5_224) (fun _ h9 => h9) rfl (by decide +kernel) rfl rfl (Nat.le_of_ble_eq_true rfl) dX10_by_2 (fun H locs hP hD hS => ?_)
  have hP : va_P V.1 vwCl [(z 0, .inr (10, mo z 0 pz0_5 pz0_6 pz0_7 pz0_8 pz0_9 pz0_10 pz0_11 pz0_12 pz0_13 pz0_14 pz0_18 pz0_19 pz0_22 pz0_23 pz0_29)), (z 1, aI V 3075 fz1), (z 15, aI V 900 fz15), (z 16, aI V 6 fz16)] H := hP
  have hD : va_D A [(z 0, .inr (10, mo z 0 pz0_5 pz0_6 pz0_7 pz0_8 pz0_9 pz0_10 pz0_11 pz0_12 pz0_13 pz0_14 pz0_18 pz0_19 pz0_22 pz0_23 pz0_29)), (z 1, aI V 3075 fz1), (z 15, aI V 900 fz15), (z 16, aI V 6 fz16)] := hD
  refine lv_aload_n hx hb dX10_by_5 rfl (lv_at hl 0 rfl) ?_
  refine lv_iload_n hx hb dX10_by_6 rfl (lv_at hl 2 rfl) ?_
  refine lv_i2l hx hb dX10_by_7 rfl ?_
  refine lv_topl (fun j_1 ej_1 => ?_)
  refine jnI (wr := [(z 15, aI V 900 fz15), (z 16, aI V 6 fz16)]) (rnV (rest := []) ⟨hx, hb, hml, hown, hg⟩ (k_X10_isHill_0 l V z j_1 0 pz0_5 pz0_6 pz0_7 pz0_8 pz0_9 pz0_10 pz0_11 pz0_12 pz0_13 pz0_14 pz0_18 pz0_19 pz0_22 pz0_23 pz0_29 fz1 bpz0_5 bpz0_6 bpz0_7 bpz0_8 bpz0_10 bpz0_11 bpz0_12 bpz0_13 bpz0_14 bpz0_18 bpz0_22 bpz0_29 tfz1) mt_X10_isHill q_6_235 ⟨Nat.le_of_ble_eq_true rfl, Nat.le_of_ble_eq_true rfl⟩ hK hP hD hS hA hE [0, 1] rfl rfl 0 rfl rfl rfl rfl hl.1 rfl (Nat.le_of_ble_eq_true rfl) dX10_by_8 ⟨Nat.le_of_ble_eq_true rfl, Nat.le_of_ble_eq_true rfl⟩) hP hD hS hA [0, 1] [2, 3] rfl rfl rfl (by decide) (fun r_2 w H locs hw hP hD hS => ?_)
  obtain ⟨br_2, g_3, rfl⟩ := hw
  have hP : va_P V.1 vwCl [(z 15, aI V 900 fz15), (z 16, aI V 6 fz16), (z 0, .inr (10, mo z 0 pz0_5 pz0_6 pz0_7 pz0_8 pz0_9 pz0_10 pz0_11 pz0_12 pz0_13 pz0_14 pz0_18 pz0_19 pz0_22 pz0_23 pz0_29)), (z 1, aI V 3075 fz1)] H := hP
  have hD : va_D A [(z 15, aI V 900 fz15), (z 16, aI V 6 fz16), (z 0, .inr (10, mo z 0 pz0_5 pz0_6 pz0_7 pz0_8 pz0_9 pz0_10 pz0_11 pz0_12 pz0_13 pz0_14 pz0_18 pz0_19 pz0_22 pz0_23 pz0_29)), (z 1, aI V 3075 fz1)] := hD
  refine lv_if_ne (tgt := 17) hx hb dX10_by_11 (by decide) (fun c_4 => ?_) (fun c_4 => ?_)
  · have b_5 : iv 1 1 r_2 := iv_n0 c_4 br_2 (iv_c (0 : Int32) (a := 0) (b := 0) (by decide)) (by decide)
    have b_6 : ivL 0 3 j_1 := ivL_cap (g_3 (iv_eqp b_5 (iv_c (1 : Int32) (by decide)))) (ivL_top j_1) (by decide)
    have b_7 : iv 0 3 a2 := iv_cap (ivL_i ej_1 b_6) (iv_top a2) (by decide)
    refine lv_aload_n hx hb dX10_by_17 rfl (lv_at hl 0 rfl) ?_
    refine lv_iload_n hx hb dX10_by_18 rfl (lv_at hl 1 rfl) ?_
    refine lv_i2l hx hb dX10_by_19 rfl ?_
    refine lv_topl (fun j_8 ej_8 => ?_)
    refine jnI (wr := [(z 15, aI V 900 fz15), (z 16, aI V 6 fz16)]) (rnV (rest := []) ⟨hx, hb, hml, hown, hg⟩ (k_X10_isNight_0 l V z j_8 0 pz0_5 pz0_6 pz0_7 pz0_8 pz0_9 pz0_10 pz0_11 pz0_12 pz0_13 pz0_14 pz0_18 pz0_19 pz0_22 pz0_23 pz0_29 fz1 bpz0_5 bpz0_6 bpz0_7 bpz0_8 bpz0_10 bpz0_11 bpz0_12 bpz0_13 bpz0_14 bpz0_18 bpz0_22 bpz0_29 tfz1) mt_X10_isNight q_7_7 ⟨Nat.le_of_ble_eq_true rfl, Nat.le_of_ble_eq_true rfl⟩ hK hP hD hS hA hE [2, 3] rfl rfl 2 rfl rfl rfl rfl hl.1 rfl (Nat.le_of_ble_eq_true rfl) dX10_by_20 ⟨Nat.le_of_ble_eq_true rfl, Nat.le_of_ble_eq_true rfl⟩) hP hD hS hA [2, 3] [0, 1] rfl rfl rfl (by decide) (fun r_9 w H locs hw hP hD hS => ?_)
    obtain ⟨br_9, g_10, rfl⟩ := hw
    have hP : va_P V.1 vwCl [(z 15, aI V 900 fz15), (z 16, aI V 6 fz16), (z 0, .inr (10, mo z 0 pz0_5 pz0_6 pz0_7 pz0_8 pz0_9 pz0_10 pz0_11 pz0_12 pz0_13 pz0_14 pz0_18 pz0_19 pz0_22 pz0_23 pz0_29)), (z 1, aI V 3075 fz1)] H := hP
    have hD : va_D A [(z 15, aI V 900 fz15), (z 16, aI V 6 fz16), (z 0, .inr (10, mo z 0 pz0_5 pz0_6 pz0_7 pz0_8 pz0_9 pz0_10 pz0_11 pz0_12 pz0_13 pz0_14 pz0_18 pz0_19 pz0_22 pz0_23 pz0_29)), (z 1, aI V 3075 fz1)] := hD
    refine lv_if_eq (tgt := 49) hx hb dX10_by_23 (by decide) (fun c_11 => ?_) (fun c_11 => ?_)
    · have b_12 : iv 0 0 r_9 := iv_q c_11 (iv_c (0 : Int32) (a := 0) (b := 0) (by decide))
      refine lv_bipush (v := (-5)) hx hb dX10_by_49 (by decide) ?_
      have hP := subP (ws' := [(z 0, .inr (10, mo z 0 pz0_5 pz0_6 pz0_7 pz0_8 pz0_9 pz0_10 pz0_11 pz0_12 pz0_13 pz0_14 pz0_18 pz0_19 pz0_22 pz0_23 pz0_29)), (z 1, aI V 3075 fz1), (z 15, aI V 900 fz15), (z 16, aI V 6 fz16)]) hP [2, 3, 0, 1] rfl
      have hD := hD.sub (ws' := [(z 0, .inr (10, mo z 0 pz0_5 pz0_6 pz0_7 pz0_8 pz0_9 pz0_10 pz0_11 pz0_12 pz0_13 pz0_14 pz0_18 pz0_19 pz0_22 pz0_23 pz0_29)), (z 1, aI V 3075 fz1), (z 15, aI V 900 fz15), (z 16, aI V 6 fz16)]) [2, 3, 0, 1] rfl rfl
      exact fiI hx hb hr hlk hK hP hD hS dX10_by_51 (Nat.le_of_ble_eq_true rfl) (Nat.le_of_ble_eq_true rfl) (⟨0, fz15, fz16, tfz16, (iv_c ((-5) : Int32) (by decide)), hf0, rfl⟩)
    · have b_13 : iv 1 1 r_9 := iv_n0 c_11 br_9 (iv_c (0 : Int32) (a := 0) (b := 0) (by decide)) (by decide)
      have b_14 : ivL 0 3 j_8 := ivL_cap (g_10 (iv_eqp b_13 (iv_c (1 : Int32) (by decide)))) (ivL_top j_8) (by decide)
      have b_15 : iv 0 3 a1 := iv_cap (ivL_i ej_8 b_14) (iv_top a1) (by decide)
      refine lv_aload_n hx hb dX10_by_26 rfl (lv_at hl 0 rfl) ?_
      refine lv_aload_n hx hb dX10_by_27 rfl (lv_at hl 0 rfl) ?_
      refine jnI (wr := [(z 15, aI V 900 fz15), (z 16, aI V 6 fz16)]) (rnV (rest := [.ref (z 0)]) ⟨hx, hb, hml, hown, hg⟩ (k_X10_standNow_0 l V z 0 pz0_5 pz0_6 pz0_7 pz0_8 pz0_9 pz0_10 pz0_11 pz0_12 pz0_13 pz0_14 pz0_18 pz0_19 pz0_22 pz0_23 pz0_29 fz1 bpz0_5 bpz0_6 bpz0_7 bpz0_8 bpz0_10 bpz0_11 bpz0_12 bpz0_13 bpz0_14 bpz0_18 bpz0_22 bpz0_29 tfz1) mt_X10_standNow q_7_11 ⟨Nat.le_of_ble_eq_true rfl, Nat.le_of_ble_eq_true rfl⟩ hK hP hD hS hA hE [2, 3] rfl rfl 2 rfl rfl rfl rfl hl.1 rfl (Nat.le_of_ble_eq_true rfl) dX10_by_28 ⟨Nat.le_of_ble_eq_true rfl, Nat.le_of_ble_eq_true rfl⟩) hP hD hS hA [2, 3] [0, 1] rfl rfl rfl (by decide) (fun r_16 w H locs hw hP hD hS => ?_)
      obtain ⟨br_16, er_16, rfl⟩ := hw
      have hP : va_P V.1 vwCl [(z 15, aI V 900 fz15), (z 16, aI V 6 fz16), (z 0, .inr (10, mo z 0 pz0_5 pz0_6 pz0_7 pz0_8 pz0_9 pz0_10 pz0_11 pz0_12 pz0_13 pz0_14 pz0_18 pz0_19 pz0_22 pz0_23 pz0_29)), (z 1, aI V 3075 fz1)] H := hP
      have hD : va_D A [(z 15, aI V 900 fz15), (z 16, aI V 6 fz16), (z 0, .inr (10, mo z 0 pz0_5 pz0_6 pz0_7 pz0_8 pz0_9 pz0_10 pz0_11 pz0_12 pz0_13 pz0_14 pz0_18 pz0_19 pz0_22 pz0_23 pz0_29)), (z 1, aI V 3075 fz1)] := hD
      refine lv_iload_n hx hb dX10_by_31 rfl (lv_at hl 1 rfl) ?_
      refine lv_aload_n hx hb dX10_by_32 rfl (lv_at hl 0 rfl) ?_
      refine va_get (ci := 10) (v := .ref (z 1)) (C := RX10) (T := TX10) (N := 40) hx hb hg inX10 hown hK hP 2 rfl rfl 1 (by decide) (hg _ q_5_225) (fun _ h9 => h9) rfl dX10_by_33 ?_
      refine lv_bipush (v := 51) hx hb dX10_by_36 (by decide) ?_
      refine va_iald hx hb hK hP 3 0 rfl rfl (vin (by decide +kernel)) dX10_by_38 ?_
      refine lv_topi (fun x_17 ex_17 => ?_)
      have bx_17 : iv 0 9 x_17 := by rw [ex_17]; exact rdT (a := 51) (n := 1) tfz1 (iv_c (51 : Int32) (a := 51) (b := 51) (by decide)) (by decide) (by decide +kernel)
      refine jnI (wr := []) (rnV (rest := []) ⟨hx, hb, hml, hown, hg⟩ (k_X10_nightTo_0 l V z r_16 a1 x_17 fz15 fz16 0 pz0_5 pz0_6 pz0_7 pz0_8 pz0_9 pz0_10 pz0_11 pz0_12 pz0_13 pz0_14 pz0_18 pz0_19 pz0_22 pz0_23 pz0_29 fz1 br_16 tfz16 bpz0_5 bpz0_6 bpz0_7 bpz0_8 bpz0_10 bpz0_11 bpz0_12 bpz0_13 bpz0_14 bpz0_18 bpz0_22 bpz0_29 tfz1 hf0) mt_X10_nightTo q_7_18 ⟨Nat.le_of_ble_eq_true rfl, Nat.le_of_ble_eq_true rfl⟩ hK hP hD hS hA hE [0, 1, 2, 3] rfl rfl 2 rfl rfl rfl rfl hl.1 rfl (Nat.le_of_ble_eq_true rfl) dX10_by_39 ⟨Nat.le_of_ble_eq_true rfl, Nat.le_of_ble_eq_true rfl⟩) hP hD hS hA [0, 1, 2, 3] [] rfl rfl rfl (by decide) (fun r_18 w H locs hw hP hD hS => ?_)
      obtain ⟨f_19, f_20, tf_20, br_18, g_21, rfl⟩ := hw
      have hP : va_P V.1 vwCl [(z 15, aI V 900 f_19), (z 16, aI V 6 f_20), (z 0, .inr (10, mo z 0 pz0_5 pz0_6 pz0_7 pz0_8 pz0_9 pz0_10 pz0_11 pz0_12 pz0_13 pz0_14 pz0_18 pz0_19 pz0_22 pz0_23 pz0_29)), (z 1, aI V 3075 fz1)] H := hP
      have hD : va_D A [(z 15, aI V 900 f_19), (z 16, aI V 6 f_20), (z 0, .inr (10, mo z 0 pz0_5 pz0_6 pz0_7 pz0_8 pz0_9 pz0_10 pz0_11 pz0_12 pz0_13 pz0_14 pz0_18 pz0_19 pz0_22 pz0_23 pz0_29)), (z 1, aI V 3075 fz1)] := hD
      refine lv_iload_n hx hb dX10_by_42 rfl (lv_at hl 2 rfl) ?_
      refine jnI (wr := [(z 15, aI V 900 f_19), (z 16, aI V 6 f_20), (z 0, .inr (10, mo z 0 pz0_5 pz0_6 pz0_7 pz0_8 pz0_9 pz0_10 pz0_11 pz0_12 pz0_13 pz0_14 pz0_18 pz0_19 pz0_22 pz0_23 pz0_29)), (z 1, aI V 3075 fz1)]) (rnS (rest := []) ⟨hx, hb, hml, hown, hg⟩ (k_X10_stackIn_0 l V r_18 a2 (iv_w br_18 (by decide)) b_7) mt_X10_stackIn q_7_26 ⟨Nat.le_of_ble_eq_true rfl, Nat.le_of_ble_eq_true rfl⟩ hK hP hD hS hA hE [] rfl rfl rfl hl.1 rfl (Nat.le_of_ble_eq_true rfl) dX10_by_43 ⟨Nat.le_of_ble_eq_true rfl, Nat.le_of_ble_eq_true rfl⟩) hP hD hS hA [] [0, 1, 2, 3] rfl rfl rfl (by decide) (fun r_22 w H locs hw hP hD hS => ?_)
      obtain ⟨br_22, er_22, rfl⟩ := hw
      have hP : va_P V.1 vwCl [(z 15, aI V 900 f_19), (z 16, aI V 6 f_20), (z 0, .inr (10, mo z 0 pz0_5 pz0_6 pz0_7 pz0_8 pz0_9 pz0_10 pz0_11 pz0_12 pz0_13 pz0_14 pz0_18 pz0_19 pz0_22 pz0_23 pz0_29)), (z 1, aI V 3075 fz1)] H := hP
      have hD : va_D A [(z 15, aI V 900 f_19), (z 16, aI V 6 f_20), (z 0, .inr (10, mo z 0 pz0_5 pz0_6 pz0_7 pz0_8 pz0_9 pz0_10 pz0_11 pz0_12 pz0_13 pz0_14 pz0_18 pz0_19 pz0_22 pz0_23 pz0_29)), (z 1, aI V 3075 fz1)] := hD
      refine lv_goto (tgt := 51) hx hb dX10_by_46 (by decide) ?_
      have hP := subP (ws' := [(z 0, .inr (10, mo z 0 pz0_5 pz0_6 pz0_7 pz0_8 pz0_9 pz0_10 pz0_11 pz0_12 pz0_13 pz0_14 pz0_18 pz0_19 pz0_22 pz0_23 pz0_29)), (z 1, aI V 3075 fz1), (z 15, aI V 900 f_19), (z 16, aI V 6 f_20)]) hP [2, 3, 0, 1] rfl
      have hD := hD.sub (ws' := [(z 0, .inr (10, mo z 0 pz0_5 pz0_6 pz0_7 pz0_8 pz0_9 pz0_10 pz0_11 pz0_12 pz0_13 pz0_14 pz0_18 pz0_19 pz0_22 pz0_23 pz0_29)), (z 1, aI V 3075 fz1), (z 15, aI V 900 f_19), (z 16, aI V 6 f_20)]) [2, 3, 0, 1] rfl rfl
      exact fiI hx hb hr hlk hK hP hD hS dX10_by_51 (Nat.le_of_ble_eq_true rfl) (Nat.le_of_ble_eq_true rfl) (⟨0, f_19, f_20, tf_20, (iv_w br_22 (by decide)), g_21, rfl⟩)
  · have b_23 : iv 0 0 r_2 := iv_q c_4 (iv_c (0 : Int32) (a := 0) (b := 0) (by decide))
    refine lv_bipush (v := (-2)) hx hb dX10_by_14 (by decide) ?_
    have hP := subP (ws' := [(z 0, .inr (10, mo z 0 pz0_5 pz0_6 pz0_7 pz0_8 pz0_9 pz0_10 pz0_11 pz0_12 pz0_13 pz0_14 pz0_18 pz0_19 pz0_22 pz0_23 pz0_29)), (z 1, aI V 3075 fz1), (z 15, aI V 900 fz15), (z 16, aI V 6 fz16)]) hP [2, 3, 0, 1] rfl
    have hD := hD.sub (ws' := [(z 0, .inr (10, mo z 0 pz0_5 pz0_6 pz0_7 pz0_8 pz0_9 pz0_10 pz0_11 pz0_12 pz0_13 pz0_14 pz0_18 pz0_19 pz0_22 pz0_23 pz0_29)), (z 1, aI V 3075 fz1), (z 15, aI V 900 fz15), (z 16, aI V 6 fz16)]) [2, 3, 0, 1] rfl rfl
    exact fiI hx hb hr hlk hK hP hD hS dX10_by_16 (Nat.le_of_ble_eq_true rfl) (Nat.le_of_ble_eq_true rfl) (⟨0, fz15, fz16, tfz16, (iv_c ((-2) : Int32) (by decide)), hf0, rfl⟩)
theorem dX10_stores_0 : decode cX10_stores 0 = .ok (.iconst 0, 1) := by decide +kernel
theorem dX10_stores_1 : decode cX10_stores 1 = .ok (.istore_n 1, 1) := by decide +kernel
theorem dX10_stores_2 : decode cX10_stores 2 = .ok (.iload_n 1, 1) := by decide +kernel
theorem dX10_stores_3 : decode cX10_stores 3 = .ok (.bipush 7, 2) := by decide +kernel
theorem dX10_stores_5 : decode cX10_stores 5 = .ok (.if_icmp .ge 24, 3) := by decide +kernel
theorem dX10_stores_8 : decode cX10_stores 8 = .ok (.aload_n 0, 1) := by decide +kernel
theorem q_6_1 : Cond.fieldLink "BeaconDelayModel" 36 "BeaconDelayModel" "was" "[I" ∈ gw := gw_6 (i := 1) (by decide +kernel) rfl
theorem dX10_stores_9 : decode cX10_stores 9 = .ok (.getfield 36, 3) := by decide +kernel
theorem dX10_stores_12 : decode cX10_stores 12 = .ok (.iload_n 1, 1) := by decide +kernel
theorem dX10_stores_13 : decode cX10_stores 13 = .ok (.aload_n 0, 1) := by decide +kernel
theorem dX10_stores_14 : decode cX10_stores 14 = .ok (.getfield 13, 3) := by decide +kernel
theorem dX10_stores_17 : decode cX10_stores 17 = .ok (.bipush 46, 2) := by decide +kernel
theorem dX10_stores_19 : decode cX10_stores 19 = .ok (.iload_n 1, 1) := by decide +kernel
theorem dX10_stores_20 : decode cX10_stores 20 = .ok (.iadd, 1) := by decide +kernel
theorem dX10_stores_21 : decode cX10_stores 21 = .ok (.iaload, 1) := by decide +kernel
theorem dX10_stores_22 : decode cX10_stores 22 = .ok (.iastore, 1) := by decide +kernel
theorem dX10_stores_23 : decode cX10_stores 23 = .ok (.iinc 1 1, 3) := by decide +kernel
theorem dX10_stores_26 : decode cX10_stores 26 = .ok (.goto (-24), 3) := by decide +kernel
theorem dX10_stores_29 : decode cX10_stores 29 = .ok (.return_, 1) := by decide +kernel
set_option maxHeartbeats 4000000 in
set_option maxRecDepth 100000 in
theorem k_X10_stores_0 (l : Launch) (V : GV) (z : Nat → Nat) (fz17 : Nat → Int32) (pz0_0 : Int32) (pz0_5 : Int32) (pz0_6 : Int32) (pz0_7 : Int32) (pz0_8 : Int32) (pz0_9 : Int32) (pz0_10 : Int32) (pz0_11 : Int32) (pz0_12 : Int32) (pz0_13 : Int32) (pz0_14 : Int32) (pz0_18 : Int32) (pz0_19 : Int32) (pz0_22 : Int32) (pz0_23 : Int32) (pz0_29 : Int32) (fz1 : Nat → Int32) (tfz17 : ivT tS fz17) (bpz0_5 : iv 0 900 pz0_5) (bpz0_6 : iv 0 900 pz0_6) (bpz0_7 : iv 0 900 pz0_7) (bpz0_8 : iv 0 900 pz0_8) (bpz0_10 : iv 0 999 pz0_10) (bpz0_11 : iv 0 4 pz0_11) (bpz0_12 : iv 0 900 pz0_12) (bpz0_13 : iv 0 4 pz0_13) (bpz0_14 : iv (-1) 900 pz0_14) (bpz0_18 : iv 0 2 pz0_18) (bpz0_22 : iv 0 9999 pz0_22) (bpz0_29 : iv 0 10000 pz0_29) (tfz1 : ivT tA fz1) : Ct l V yX10_stores (.code yX10_stores cX10_stores 2 none) 1 [.ref (z 0)] [(z 17, aI V 7 fz17), (z 0, .inr (10, mo z pz0_0 pz0_5 pz0_6 pz0_7 pz0_8 pz0_9 pz0_10 pz0_11 pz0_12 pz0_13 pz0_14 pz0_18 pz0_19 pz0_22 pz0_23 pz0_29)), (z 1, aI V 3075 fz1)] 0 0 (QV V (fun (w : va_W) => ∃ (g0 : Nat → Int32), (ivT tS g0) ∧ w = [(z 17, aI V 7 g0), (z 0, .inr (10, mo z pz0_0 pz0_5 pz0_6 pz0_7 pz0_8 pz0_9 pz0_10 pz0_11 pz0_12 pz0_13 pz0_14 pz0_18 pz0_19 pz0_22 pz0_23 pz0_29)), (z 1, aI V 3075 fz1)])) := by
  refine Ct.of (by decide) (Nat.le_of_ble_eq_true rfl) (fun p e s m below meth c A ls hx hb hr hml hown hlk hnm hg hP hK hD hE hA hS hl => ?_)
  have hl : lv_has ls 2 [(0, .ref (z 0))] := hl
  refine lv_iconst (v := 0) hx hb dX10_stores_0 (by decide) ?_
  refine lv_istore_n (lv' := [(1, .int 0), (0, .ref (z 0))]) hx hb dX10_stores_1 rfl hl (by decide) rfl (fun ls hl => ?_)
  refine lv_iload_n hx hb dX10_stores_2 rfl (lv_at hl 0 rfl) ?_
  refine lv_bipush (v := 7) hx hb dX10_stores_3 (by decide) ?_
  refine lv_icmp_ge (tgt := 29) hx hb dX10_stores_5 (by decide) (fun c_2 => absurd c_2 (by decide)) (fun _ => ?_)
  refine lv_aload_n hx hb dX10_stores_8 rfl (lv_at hl 1 rfl) ?_
  refine va_get (ci := 10) (v := .ref (z 17)) (C := RX10) (T := TX10) (N := 40) hx hb hg inX10 hown hK hP 1 rfl rfl 17 (by decide) (hg _ q_6_1) (fun _ h9 => h9) rfl dX10_stores_9 ?_
  refine lv_iload_n hx hb dX10_stores_12 rfl (lv_at hl 0 rfl) ?_
  refine lv_aload_n hx hb dX10_stores_13 rfl (lv_at hl 1 rfl) ?_
  refine va_get (ci := 10) (v := .ref (z 1)) (C := RX10) (T := TX10) (N := 40) hx hb hg inX10 hown hK hP 1 rfl rfl 1 (by decide) (hg _ q_5_225) (fun _ h9 => h9) rfl dX10_stores_14 ?_
  refine lv_bipush (v := 46) hx hb dX10_stores_17 (by decide) ?_
  refine lv_iload_n hx hb dX10_stores_19 rfl (lv_at hl 0 rfl) ?_
  refine lv_iadd hx hb dX10_stores_20 ?_
  refine tpi (y := 46) (by decide +kernel) ?_
  refine va_iald hx hb hK hP 2 0 rfl rfl (vin (by decide +kernel)) dX10_stores_21 ?_
  refine lv_topi (fun x_3 ex_3 => ?_)
  have bx_3 : iv 0 4 x_3 := by rw [ex_3]; exact rdT (a := 46) (n := 1) tfz1 (iv_c (46 : Int32) (a := 46) (b := 46) (by decide)) (by decide) (by decide +kernel)
  refine va_iast hx hb hK hP hD hS 0 0 rfl rfl (vin (by decide +kernel)) dX10_stores_22 (fun H locs hP hD hS => ?_)
  obtain ⟨f_4, ef_4, tf_4, hP, hD⟩ : ∃ f_4 : Nat → Int32, f_4 = (upd fz17 (0 : Int32).toNatClampNeg x_3) ∧ (ivT tS f_4) ∧ va_P V.1 vwCl [(z 17, aI V 7 f_4), (z 0, .inr (10, mo z pz0_0 pz0_5 pz0_6 pz0_7 pz0_8 pz0_9 pz0_10 pz0_11 pz0_12 pz0_13 pz0_14 pz0_18 pz0_19 pz0_22 pz0_23 pz0_29)), (z 1, aI V 3075 fz1)] H ∧ va_D A [(z 17, aI V 7 f_4), (z 0, .inr (10, mo z pz0_0 pz0_5 pz0_6 pz0_7 pz0_8 pz0_9 pz0_10 pz0_11 pz0_12 pz0_13 pz0_14 pz0_18 pz0_19 pz0_22 pz0_23 pz0_29)), (z 1, aI V 3075 fz1)] := ⟨_, rfl, upT (lo := 0) (hi := 4) (a := 0) (n := 1) tfz17 (iv_c (0 : Int32) (a := 0) (b := 0) (by decide)) (by decide) bx_3 (by decide +kernel), hP, hD⟩
  refine lv_iinc (v := 1) (lv' := [(1, .int 1), (0, .ref (z 0))]) hx hb dX10_stores_23 hl (k := 0) rfl (by decide +kernel) (by decide) rfl (fun ls hl => ?_)
  refine lv_goto (tgt := 2) hx hb dX10_stores_26 (by decide) ?_
  refine lv_iload_n hx hb dX10_stores_2 rfl (lv_at hl 0 rfl) ?_
  refine lv_bipush (v := 7) hx hb dX10_stores_3 (by decide) ?_
  refine lv_icmp_ge (tgt := 29) hx hb dX10_stores_5 (by decide) (fun c_6 => absurd c_6 (by decide)) (fun _ => ?_)
  refine lv_aload_n hx hb dX10_stores_8 rfl (lv_at hl 1 rfl) ?_
  refine va_get (ci := 10) (v := .ref (z 17)) (C := RX10) (T := TX10) (N := 40) hx hb hg inX10 hown hK hP 1 rfl rfl 17 (by decide) (hg _ q_6_1) (fun _ h9 => h9) rfl dX10_stores_9 ?_
  refine lv_iload_n hx hb dX10_stores_12 rfl (lv_at hl 0 rfl) ?_
  refine lv_aload_n hx hb dX10_stores_13 rfl (lv_at hl 1 rfl) ?_
  refine va_get (ci := 10) (v := .ref (z 1)) (C := RX10) (T := TX10) (N := 40) hx hb hg inX10 hown hK hP 1 rfl rfl 1 (by decide) (hg _ q_5_225) (fun _ h9 => h9) rfl dX10_stores_14 ?_
  refine lv_bipush (v := 46) hx hb dX10_stores_17 (by decide) ?_
  refine lv_iload_n hx hb dX10_stores_19 rfl (lv_at hl 0 rfl) ?_
  refine lv_iadd hx hb dX10_stores_20 ?_
  refine tpi (y := 47) (by decide +kernel) ?_
  refine va_iald hx hb hK hP 2 0 rfl rfl (vin (by decide +kernel)) dX10_stores_21 ?_
  refine lv_topi (fun x_7 ex_7 => ?_)
  have bx_7 : iv 0 4 x_7 := by rw [ex_7]; exact rdT (a := 47) (n := 1) tfz1 (iv_c (47 : Int32) (a := 47) (b := 47) (by decide)) (by decide) (by decide +kernel)
  refine va_iast hx hb hK hP hD hS 0 0 rfl rfl (vin (by decide +kernel)) dX10_stores_22 (fun H locs hP hD hS => ?_)
  obtain ⟨f_8, ef_8, tf_8, hP, hD⟩ : ∃ f_8 : Nat → Int32, f_8 = (upd f_4 (1 : Int32).toNatClampNeg x_7) ∧ (ivT tS f_8) ∧ va_P V.1 vwCl [(z 17, aI V 7 f_8), (z 0, .inr (10, mo z pz0_0 pz0_5 pz0_6 pz0_7 pz0_8 pz0_9 pz0_10 pz0_11 pz0_12 pz0_13 pz0_14 pz0_18 pz0_19 pz0_22 pz0_23 pz0_29)), (z 1, aI V 3075 fz1)] H ∧ va_D A [(z 17, aI V 7 f_8), (z 0, .inr (10, mo z pz0_0 pz0_5 pz0_6 pz0_7 pz0_8 pz0_9 pz0_10 pz0_11 pz0_12 pz0_13 pz0_14 pz0_18 pz0_19 pz0_22 pz0_23 pz0_29)), (z 1, aI V 3075 fz1)] := ⟨_, rfl, upT (lo := 0) (hi := 4) (a := 1) (n := 1) tf_4 (iv_c (1 : Int32) (a := 1) (b := 1) (by decide)) (by decide) bx_7 (by decide +kernel), hP, hD⟩
  refine lv_iinc (v := 2) (lv' := [(1, .int 2), (0, .ref (z 0))]) hx hb dX10_stores_23 hl (k := 0) rfl (by decide +kernel) (by decide) rfl (fun ls hl => ?_)
  refine lv_goto (tgt := 2) hx hb dX10_stores_26 (by decide) ?_
  refine lv_iload_n hx hb dX10_stores_2 rfl (lv_at hl 0 rfl) ?_
  refine lv_bipush (v := 7) hx hb dX10_stores_3 (by decide) ?_
  refine lv_icmp_ge (tgt := 29) hx hb dX10_stores_5 (by decide) (fun c_10 => absurd c_10 (by decide)) (fun _ => ?_)
  refine lv_aload_n hx hb dX10_stores_8 rfl (lv_at hl 1 rfl) ?_
  refine va_get (ci := 10) (v := .ref (z 17)) (C := RX10) (T := TX10) (N := 40) hx hb hg inX10 hown hK hP 1 rfl rfl 17 (by decide) (hg _ q_6_1) (fun _ h9 => h9) rfl dX10_stores_9 ?_
  refine lv_iload_n hx hb dX10_stores_12 rfl (lv_at hl 0 rfl) ?_
  refine lv_aload_n hx hb dX10_stores_13 rfl (lv_at hl 1 rfl) ?_
  refine va_get (ci := 10) (v := .ref (z 1)) (C := RX10) (T := TX10) (N := 40) hx hb hg inX10 hown hK hP 1 rfl rfl 1 (by decide) (hg _ q_5_225) (fun _ h9 => h9) rfl dX10_stores_14 ?_
  refine lv_bipush (v := 46) hx hb dX10_stores_17 (by decide) ?_
  refine lv_iload_n hx hb dX10_stores_19 rfl (lv_at hl 0 rfl) ?_
  refine lv_iadd hx hb dX10_stores_20 ?_
  refine tpi (y := 48) (by decide +kernel) ?_
  refine va_iald hx hb hK hP 2 0 rfl rfl (vin (by decide +kernel)) dX10_stores_21 ?_
  refine lv_topi (fun x_11 ex_11 => ?_)
  have bx_11 : iv 0 4 x_11 := by rw [ex_11]; exact rdT (a := 48) (n := 1) tfz1 (iv_c (48 : Int32) (a := 48) (b := 48) (by decide)) (by decide) (by decide +kernel)
  refine va_iast hx hb hK hP hD hS 0 0 rfl rfl (vin (by decide +kernel)) dX10_stores_22 (fun H locs hP hD hS => ?_)
  obtain ⟨f_12, ef_12, tf_12, hP, hD⟩ : ∃ f_12 : Nat → Int32, f_12 = (upd f_8 (2 : Int32).toNatClampNeg x_11) ∧ (ivT tS f_12) ∧ va_P V.1 vwCl [(z 17, aI V 7 f_12), (z 0, .inr (10, mo z pz0_0 pz0_5 pz0_6 pz0_7 pz0_8 pz0_9 pz0_10 pz0_11 pz0_12 pz0_13 pz0_14 pz0_18 pz0_19 pz0_22 pz0_23 pz0_29)), (z 1, aI V 3075 fz1)] H ∧ va_D A [(z 17, aI V 7 f_12), (z 0, .inr (10, mo z pz0_0 pz0_5 pz0_6 pz0_7 pz0_8 pz0_9 pz0_10 pz0_11 pz0_12 pz0_13 pz0_14 pz0_18 pz0_19 pz0_22 pz0_23 pz0_29)), (z 1, aI V 3075 fz1)] := ⟨_, rfl, upT (lo := 0) (hi := 4) (a := 2) (n := 1) tf_8 (iv_c (2 : Int32) (a := 2) (b := 2) (by decide)) (by decide) bx_11 (by decide +kernel), hP, hD⟩
  refine lv_iinc (v := 3) (lv' := [(1, .int 3), (0, .ref (z 0))]) hx hb dX10_stores_23 hl (k := 0) rfl (by decide +kernel) (by decide) rfl (fun ls hl => ?_)
  refine lv_goto (tgt := 2) hx hb dX10_stores_26 (by decide) ?_
  refine lv_iload_n hx hb dX10_stores_2 rfl (lv_at hl 0 rfl) ?_
  refine lv_bipush (v := 7) hx hb dX10_stores_3 (by decide) ?_
  refine lv_icmp_ge (tgt := 29) hx hb dX10_stores_5 (by decide) (fun c_14 => absurd c_14 (by decide)) (fun _ => ?_)
  refine lv_aload_n hx hb dX10_stores_8 rfl (lv_at hl 1 rfl) ?_
  refine va_get (ci := 10) (v := .ref (z 17)) (C := RX10) (T := TX10) (N := 40) hx hb hg inX10 hown hK hP 1 rfl rfl 17 (by decide) (hg _ q_6_1) (fun _ h9 => h9) rfl dX10_stores_9 ?_
  refine lv_iload_n hx hb dX10_stores_12 rfl (lv_at hl 0 rfl) ?_
  refine lv_aload_n hx hb dX10_stores_13 rfl (lv_at hl 1 rfl) ?_
  refine va_get (ci := 10) (v := .ref (z 1)) (C := RX10) (T := TX10) (N := 40) hx hb hg inX10 hown hK hP 1 rfl rfl 1 (by decide) (hg _ q_5_225) (fun _ h9 => h9) rfl dX10_stores_14 ?_
  refine lv_bipush (v := 46) hx hb dX10_stores_17 (by decide) ?_
  refine lv_iload_n hx hb dX10_stores_19 rfl (lv_at hl 0 rfl) ?_
  refine lv_iadd hx hb dX10_stores_20 ?_
  refine tpi (y := 49) (by decide +kernel) ?_
  refine va_iald hx hb hK hP 2 0 rfl rfl (vin (by decide +kernel)) dX10_stores_21 ?_
  refine lv_topi (fun x_15 ex_15 => ?_)
  have bx_15 : iv 0 4 x_15 := by rw [ex_15]; exact rdT (a := 49) (n := 1) tfz1 (iv_c (49 : Int32) (a := 49) (b := 49) (by decide)) (by decide) (by decide +kernel)
  refine va_iast hx hb hK hP hD hS 0 0 rfl rfl (vin (by decide +kernel)) dX10_stores_22 (fun H locs hP hD hS => ?_)
  obtain ⟨f_16, ef_16, tf_16, hP, hD⟩ : ∃ f_16 : Nat → Int32, f_16 = (upd f_12 (3 : Int32).toNatClampNeg x_15) ∧ (ivT tS f_16) ∧ va_P V.1 vwCl [(z 17, aI V 7 f_16), (z 0, .inr (10, mo z pz0_0 pz0_5 pz0_6 pz0_7 pz0_8 pz0_9 pz0_10 pz0_11 pz0_12 pz0_13 pz0_14 pz0_18 pz0_19 pz0_22 pz0_23 pz0_29)), (z 1, aI V 3075 fz1)] H ∧ va_D A [(z 17, aI V 7 f_16), (z 0, .inr (10, mo z pz0_0 pz0_5 pz0_6 pz0_7 pz0_8 pz0_9 pz0_10 pz0_11 pz0_12 pz0_13 pz0_14 pz0_18 pz0_19 pz0_22 pz0_23 pz0_29)), (z 1, aI V 3075 fz1)] := ⟨_, rfl, upT (lo := 0) (hi := 4) (a := 3) (n := 1) tf_12 (iv_c (3 : Int32) (a := 3) (b := 3) (by decide)) (by decide) bx_15 (by decide +kernel), hP, hD⟩
  refine lv_iinc (v := 4) (lv' := [(1, .int 4), (0, .ref (z 0))]) hx hb dX10_stores_23 hl (k := 0) rfl (by decide +kernel) (by decide) rfl (fun ls hl => ?_)
  refine lv_goto (tgt := 2) hx hb dX10_stores_26 (by decide) ?_
  refine lv_iload_n hx hb dX10_stores_2 rfl (lv_at hl 0 rfl) ?_
  refine lv_bipush (v := 7) hx hb dX10_stores_3 (by decide) ?_
  refine lv_icmp_ge (tgt := 29) hx hb dX10_stores_5 (by decide) (fun c_18 => absurd c_18 (by decide)) (fun _ => ?_)
  refine lv_aload_n hx hb dX10_stores_8 rfl (lv_at hl 1 rfl) ?_
  refine va_get (ci := 10) (v := .ref (z 17)) (C := RX10) (T := TX10) (N := 40) hx hb hg inX10 hown hK hP 1 rfl rfl 17 (by decide) (hg _ q_6_1) (fun _ h9 => h9) rfl dX10_stores_9 ?_
  refine lv_iload_n hx hb dX10_stores_12 rfl (lv_at hl 0 rfl) ?_
  refine lv_aload_n hx hb dX10_stores_13 rfl (lv_at hl 1 rfl) ?_
  refine va_get (ci := 10) (v := .ref (z 1)) (C := RX10) (T := TX10) (N := 40) hx hb hg inX10 hown hK hP 1 rfl rfl 1 (by decide) (hg _ q_5_225) (fun _ h9 => h9) rfl dX10_stores_14 ?_
  refine lv_bipush (v := 46) hx hb dX10_stores_17 (by decide) ?_
  refine lv_iload_n hx hb dX10_stores_19 rfl (lv_at hl 0 rfl) ?_
  refine lv_iadd hx hb dX10_stores_20 ?_
  refine tpi (y := 50) (by decide +kernel) ?_
  refine va_iald hx hb hK hP 2 0 rfl rfl (vin (by decide +kernel)) dX10_stores_21 ?_
  refine lv_topi (fun x_19 ex_19 => ?_)
  have bx_19 : iv 0 15 x_19 := by rw [ex_19]; exact rdT (a := 50) (n := 1) tfz1 (iv_c (50 : Int32) (a := 50) (b := 50) (by decide)) (by decide) (by decide +kernel)
  refine va_iast hx hb hK hP hD hS 0 0 rfl rfl (vin (by decide +kernel)) dX10_stores_22 (fun H locs hP hD hS => ?_)
  obtain ⟨f_20, ef_20, tf_20, hP, hD⟩ : ∃ f_20 : Nat → Int32, f_20 = (upd f_16 (4 : Int32).toNatClampNeg x_19) ∧ (ivT tS f_20) ∧ va_P V.1 vwCl [(z 17, aI V 7 f_20), (z 0, .inr (10, mo z pz0_0 pz0_5 pz0_6 pz0_7 pz0_8 pz0_9 pz0_10 pz0_11 pz0_12 pz0_13 pz0_14 pz0_18 pz0_19 pz0_22 pz0_23 pz0_29)), (z 1, aI V 3075 fz1)] H ∧ va_D A [(z 17, aI V 7 f_20), (z 0, .inr (10, mo z pz0_0 pz0_5 pz0_6 pz0_7 pz0_8 pz0_9 pz0_10 pz0_11 pz0_12 pz0_13 pz0_14 pz0_18 pz0_19 pz0_22 pz0_23 pz0_29)), (z 1, aI V 3075 fz1)] := ⟨_, rfl, upT (lo := 0) (hi := 15) (a := 4) (n := 1) tf_16 (iv_c (4 : Int32) (a := 4) (b := 4) (by decide)) (by decide) bx_19 (by decide +kernel), hP, hD⟩
  refine lv_iinc (v := 5) (lv' := [(1, .int 5), (0, .ref (z 0))]) hx hb dX10_stores_23 hl (k := 0) rfl (by decide +kernel) (by decide) rfl (fun ls hl => ?_)
  refine lv_goto (tgt := 2) hx hb dX10_stores_26 (by decide) ?_
  refine lv_iload_n hx hb dX10_stores_2 rfl (lv_at hl 0 rfl) ?_
  refine lv_bipush (v := 7) hx hb dX10_stores_3 (by decide) ?_
  refine lv_icmp_ge (tgt := 29) hx hb dX10_stores_5 (by decide) (fun c_22 => absurd c_22 (by decide)) (fun _ => ?_)
  refine lv_aload_n hx hb dX10_stores_8 rfl (lv_at hl 1 rfl) ?_
  refine va_get (ci := 10) (v := .ref (z 17)) (C := RX10) (T := TX10) (N := 40) hx hb hg inX10 hown hK hP 1 rfl rfl 17 (by decide) (hg _ q_6_1) (fun _ h9 => h9) rfl dX10_stores_9 ?_
  refine lv_iload_n hx hb dX10_stores_12 rfl (lv_at hl 0 rfl) ?_
  refine lv_aload_n hx hb dX10_stores_13 rfl (lv_at hl 1 rfl) ?_
  refine va_get (ci := 10) (v := .ref (z 1)) (C := RX10) (T := TX10) (N := 40) hx hb hg inX10 hown hK hP 1 rfl rfl 1 (by decide) (hg _ q_5_225) (fun _ h9 => h9) rfl dX10_stores_14 ?_
  refine lv_bipush (v := 46) hx hb dX10_stores_17 (by decide) ?_
  refine lv_iload_n hx hb dX10_stores_19 rfl (lv_at hl 0 rfl) ?_
  refine lv_iadd hx hb dX10_stores_20 ?_
  refine tpi (y := 51) (by decide +kernel) ?_
  refine va_iald hx hb hK hP 2 0 rfl rfl (vin (by decide +kernel)) dX10_stores_21 ?_
  refine lv_topi (fun x_23 ex_23 => ?_)
  have bx_23 : iv 0 9 x_23 := by rw [ex_23]; exact rdT (a := 51) (n := 1) tfz1 (iv_c (51 : Int32) (a := 51) (b := 51) (by decide)) (by decide) (by decide +kernel)
  refine va_iast hx hb hK hP hD hS 0 0 rfl rfl (vin (by decide +kernel)) dX10_stores_22 (fun H locs hP hD hS => ?_)
  obtain ⟨f_24, ef_24, tf_24, hP, hD⟩ : ∃ f_24 : Nat → Int32, f_24 = (upd f_20 (5 : Int32).toNatClampNeg x_23) ∧ (ivT tS f_24) ∧ va_P V.1 vwCl [(z 17, aI V 7 f_24), (z 0, .inr (10, mo z pz0_0 pz0_5 pz0_6 pz0_7 pz0_8 pz0_9 pz0_10 pz0_11 pz0_12 pz0_13 pz0_14 pz0_18 pz0_19 pz0_22 pz0_23 pz0_29)), (z 1, aI V 3075 fz1)] H ∧ va_D A [(z 17, aI V 7 f_24), (z 0, .inr (10, mo z pz0_0 pz0_5 pz0_6 pz0_7 pz0_8 pz0_9 pz0_10 pz0_11 pz0_12 pz0_13 pz0_14 pz0_18 pz0_19 pz0_22 pz0_23 pz0_29)), (z 1, aI V 3075 fz1)] := ⟨_, rfl, upT (lo := 0) (hi := 9) (a := 5) (n := 1) tf_20 (iv_c (5 : Int32) (a := 5) (b := 5) (by decide)) (by decide) bx_23 (by decide +kernel), hP, hD⟩
  refine lv_iinc (v := 6) (lv' := [(1, .int 6), (0, .ref (z 0))]) hx hb dX10_stores_23 hl (k := 0) rfl (by decide +kernel) (by decide) rfl (fun ls hl => ?_)
  refine lv_goto (tgt := 2) hx hb dX10_stores_26 (by decide) ?_
  refine lv_iload_n hx hb dX10_stores_2 rfl (lv_at hl 0 rfl) ?_
  refine lv_bipush (v := 7) hx hb dX10_stores_3 (by decide) ?_
  refine lv_icmp_ge (tgt := 29) hx hb dX10_stores_5 (by decide) (fun c_26 => absurd c_26 (by decide)) (fun _ => ?_)
  refine lv_aload_n hx hb dX10_stores_8 rfl (lv_at hl 1 rfl) ?_
  refine va_get (ci := 10) (v := .ref (z 17)) (C := RX10) (T := TX10) (N := 40) hx hb hg inX10 hown hK hP 1 rfl rfl 17 (by decide) (hg _ q_6_1) (fun _ h9 => h9) rfl dX10_stores_9 ?_
  refine lv_iload_n hx hb dX10_stores_12 rfl (lv_at hl 0 rfl) ?_
  refine lv_aload_n hx hb dX10_stores_13 rfl (lv_at hl 1 rfl) ?_
  refine va_get (ci := 10) (v := .ref (z 1)) (C := RX10) (T := TX10) (N := 40) hx hb hg inX10 hown hK hP 1 rfl rfl 1 (by decide) (hg _ q_5_225) (fun _ h9 => h9) rfl dX10_stores_14 ?_
  refine lv_bipush (v := 46) hx hb dX10_stores_17 (by decide) ?_
  refine lv_iload_n hx hb dX10_stores_19 rfl (lv_at hl 0 rfl) ?_
  refine lv_iadd hx hb dX10_stores_20 ?_
  refine tpi (y := 52) (by decide +kernel) ?_
  refine va_iald hx hb hK hP 2 0 rfl rfl (vin (by decide +kernel)) dX10_stores_21 ?_
  refine lv_topi (fun x_27 ex_27 => ?_)
  refine va_iast hx hb hK hP hD hS 0 0 rfl rfl (vin (by decide +kernel)) dX10_stores_22 (fun H locs hP hD hS => ?_)
  obtain ⟨f_28, ef_28, tf_28, hP, hD⟩ : ∃ f_28 : Nat → Int32, f_28 = (upd f_24 (6 : Int32).toNatClampNeg x_27) ∧ (ivT tS f_28) ∧ va_P V.1 vwCl [(z 17, aI V 7 f_28), (z 0, .inr (10, mo z pz0_0 pz0_5 pz0_6 pz0_7 pz0_8 pz0_9 pz0_10 pz0_11 pz0_12 pz0_13 pz0_14 pz0_18 pz0_19 pz0_22 pz0_23 pz0_29)), (z 1, aI V 3075 fz1)] H ∧ va_D A [(z 17, aI V 7 f_28), (z 0, .inr (10, mo z pz0_0 pz0_5 pz0_6 pz0_7 pz0_8 pz0_9 pz0_10 pz0_11 pz0_12 pz0_13 pz0_14 pz0_18 pz0_19 pz0_22 pz0_23 pz0_29)), (z 1, aI V 3075 fz1)] := ⟨_, rfl, upT (lo := (-2147483648)) (hi := 2147483647) (a := 6) (n := 1) tf_24 (iv_c (6 : Int32) (a := 6) (b := 6) (by decide)) (by decide) (iv_top x_27) (by decide +kernel), hP, hD⟩
  refine lv_iinc (v := 7) (lv' := [(1, .int 7), (0, .ref (z 0))]) hx hb dX10_stores_23 hl (k := 0) rfl (by decide +kernel) (by decide) rfl (fun ls hl => ?_)
  refine lv_goto (tgt := 2) hx hb dX10_stores_26 (by decide) ?_
  refine lv_iload_n hx hb dX10_stores_2 rfl (lv_at hl 0 rfl) ?_
  refine lv_bipush (v := 7) hx hb dX10_stores_3 (by decide) ?_
  refine lv_icmp_ge (tgt := 29) hx hb dX10_stores_5 (by decide) (fun _ => ?_) (fun c_30 => absurd c_30 (by decide))
  exact fiV hx hb hr hlk hK hP hD hS dX10_stores_29 (Nat.le_of_ble_eq_true rfl) (Nat.le_of_ble_eq_true rfl) (⟨f_28, tf_28, rfl⟩)
theorem dX10_isStand_0 : decode cX10_isStand 0 = .ok (.iconst 0, 1) := by decide +kernel
theorem dX10_isStand_1 : decode cX10_isStand 1 = .ok (.istore_n 2, 1) := by decide +kernel
theorem dX10_isStand_2 : decode cX10_isStand 2 = .ok (.iload_n 2, 1) := by decide +kernel
theorem dX10_isStand_3 : decode cX10_isStand 3 = .ok (.aload_n 0, 1) := by decide +kernel
theorem dX10_isStand_4 : decode cX10_isStand 4 = .ok (.getfield 13, 3) := by decide +kernel
theorem dX10_isStand_7 : decode cX10_isStand 7 = .ok (.iconst 1, 1) := by decide +kernel
theorem dX10_isStand_8 : decode cX10_isStand 8 = .ok (.iaload, 1) := by decide +kernel
theorem dX10_isStand_9 : decode cX10_isStand 9 = .ok (.if_icmp .ge 23, 3) := by decide +kernel
theorem dX10_isStand_32 : decode cX10_isStand 32 = .ok (.aload_n 0, 1) := by decide +kernel
theorem dX10_isStand_33 : decode cX10_isStand 33 = .ok (.getfield 13, 3) := by decide +kernel
theorem dX10_isStand_36 : decode cX10_isStand 36 = .ok (.bipush 50, 2) := by decide +kernel
theorem dX10_isStand_38 : decode cX10_isStand 38 = .ok (.iload_n 1, 1) := by decide +kernel
theorem dX10_isStand_39 : decode cX10_isStand 39 = .ok (.invokestatic 234, 3) := by decide +kernel
theorem dX10_isStand_42 : decode cX10_isStand 42 = .ok (.iastore, 1) := by decide +kernel
theorem dX10_isStand_43 : decode cX10_isStand 43 = .ok (.return_, 1) := by decide +kernel
theorem dX10_isStand_12 : decode cX10_isStand 12 = .ok (.aload_n 0, 1) := by decide +kernel
theorem dX10_isStand_13 : decode cX10_isStand 13 = .ok (.getfield 13, 3) := by decide +kernel
theorem dX10_isStand_16 : decode cX10_isStand 16 = .ok (.bipush 46, 2) := by decide +kernel
theorem dX10_isStand_18 : decode cX10_isStand 18 = .ok (.iload_n 2, 1) := by decide +kernel
theorem dX10_isStand_19 : decode cX10_isStand 19 = .ok (.iadd, 1) := by decide +kernel
theorem dX10_isStand_20 : decode cX10_isStand 20 = .ok (.iload_n 1, 1) := by decide +kernel
theorem dX10_isStand_21 : decode cX10_isStand 21 = .ok (.iload_n 2, 1) := by decide +kernel
theorem dX10_isStand_22 : decode cX10_isStand 22 = .ok (.invokestatic 231, 3) := by decide +kernel
theorem dX10_isStand_25 : decode cX10_isStand 25 = .ok (.iastore, 1) := by decide +kernel
theorem dX10_isStand_26 : decode cX10_isStand 26 = .ok (.iinc 2 1, 3) := by decide +kernel
theorem dX10_isStand_29 : decode cX10_isStand 29 = .ok (.goto (-27), 3) := by decide +kernel
set_option maxHeartbeats 4000000 in
set_option maxRecDepth 100000 in
theorem k_X10_isStand_0 (l : Launch) (V : GV) (z : Nat → Nat) (a1 : Int32) (pz0_0 : Int32) (pz0_5 : Int32) (pz0_6 : Int32) (pz0_7 : Int32) (pz0_8 : Int32) (pz0_9 : Int32) (pz0_10 : Int32) (pz0_11 : Int32) (pz0_12 : Int32) (pz0_13 : Int32) (pz0_14 : Int32) (pz0_18 : Int32) (pz0_19 : Int32) (pz0_22 : Int32) (pz0_23 : Int32) (pz0_29 : Int32) (fz1 : Nat → Int32) (ba1 : iv 0 9999 a1) (bpz0_5 : iv 0 900 pz0_5) (bpz0_6 : iv 0 900 pz0_6) (bpz0_7 : iv 0 900 pz0_7) (bpz0_8 : iv 0 900 pz0_8) (bpz0_10 : iv 0 999 pz0_10) (bpz0_11 : iv 0 4 pz0_11) (bpz0_12 : iv 0 900 pz0_12) (bpz0_13 : iv 0 4 pz0_13) (bpz0_14 : iv (-1) 900 pz0_14) (bpz0_18 : iv 0 2 pz0_18) (bpz0_22 : iv 0 9999 pz0_22) (bpz0_29 : iv 0 10000 pz0_29) (tfz1 : ivT tA fz1) (hf0 : RW fz1) : Ct l V yX10_isStand (.code yX10_isStand cX10_isStand 3 none) 3 [.ref (z 0), .int a1] [(z 0, .inr (10, mo z pz0_0 pz0_5 pz0_6 pz0_7 pz0_8 pz0_9 pz0_10 pz0_11 pz0_12 pz0_13 pz0_14 pz0_18 pz0_19 pz0_22 pz0_23 pz0_29)), (z 1, aI V 3075 fz1)] 0 0 (QV V (fun (w : va_W) => ∃ (g0 : Nat → Int32), (ivT tA g0) ∧ (RW g0) ∧ w = [(z 0, .inr (10, mo z pz0_0 pz0_5 pz0_6 pz0_7 pz0_8 pz0_9 pz0_10 pz0_11 pz0_12 pz0_13 pz0_14 pz0_18 pz0_19 pz0_22 pz0_23 pz0_29)), (z 1, aI V 3075 g0)])) := by
  refine Ct.of (by decide) (Nat.le_of_ble_eq_true rfl) (fun p e s m below meth c A ls hx hb hr hml hown hlk hnm hg hP hK hD hE hA hS hl => ?_)
  have hl : lv_has ls 3 [(0, .ref (z 0)), (1, .int a1)] := hl
  refine lv_iconst (v := 0) hx hb dX10_isStand_0 (by decide) ?_
  refine lv_istore_n (lv' := [(2, .int 0), (0, .ref (z 0)), (1, .int a1)]) hx hb dX10_isStand_1 rfl hl (by decide) rfl (fun ls hl => ?_)
  refine loopF (X := fun (n_3 : Nat) (H : Heap) (locs : List Loc) (ls : Array Slot) => ∃ (u_1 : Int32) (f_2 : Nat → Int32), (iv 0 2147483647 u_1) ∧ (ivT tA f_2) ∧ (RW f_2) ∧ n_3 = (2147483647 - (u_1 : Int32).toInt).toNat ∧ va_P V.1 vwCl [(z 0, .inr (10, mo z pz0_0 pz0_5 pz0_6 pz0_7 pz0_8 pz0_9 pz0_10 pz0_11 pz0_12 pz0_13 pz0_14 pz0_18 pz0_19 pz0_22 pz0_23 pz0_29)), (z 1, aI V 3075 f_2)] H ∧ va_D A [(z 0, .inr (10, mo z pz0_0 pz0_5 pz0_6 pz0_7 pz0_8 pz0_9 pz0_10 pz0_11 pz0_12 pz0_13 pz0_14 pz0_18 pz0_19 pz0_22 pz0_23 pz0_29)), (z 1, aI V 3075 f_2)] ∧ va_S A s.heap H locs ∧ lv_has ls 3 [(2, .int u_1), (0, .ref (z 0)), (1, .int a1)]) (g := fun ls => F0 m 2 ls []) (fun n_3 H locs ls hX ihn_3 => ?_) _ ⟨0, fz1, (iv_c (0 : Int32) (by decide)), tfz1, hf0, rfl, hP, hD, hS, lv_sub hl [0, 1, 2] rfl⟩
  obtain ⟨u_1, f_2, bu_1, tf_2, inn_3_0, en_3, hP, hD, hS, hl⟩ := hX
  refine lv_iload_n hx hb dX10_isStand_2 rfl (lv_at hl 0 rfl) ?_
  refine lv_aload_n hx hb dX10_isStand_3 rfl (lv_at hl 1 rfl) ?_
  refine va_get (ci := 10) (v := .ref (z 1)) (C := RX10) (T := TX10) (N := 40) hx hb hg inX10 hown hK hP 0 rfl rfl 1 (by decide) (hg _ q_5_225) (fun _ h9 => h9) rfl dX10_isStand_4 ?_
  refine lv_iconst (v := 1) hx hb dX10_isStand_7 (by decide) ?_
  refine va_iald hx hb hK hP 1 0 rfl rfl (vin (by decide +kernel)) dX10_isStand_8 ?_
  refine lv_topi (fun x_4 ex_4 => ?_)
  have bx_4 : iv 0 4 x_4 := by rw [ex_4]; exact rdT (a := 1) (n := 1) tf_2 (iv_c (1 : Int32) (a := 1) (b := 1) (by decide)) (by decide) (by decide +kernel)
  refine lv_icmp_ge (tgt := 32) hx hb dX10_isStand_9 (by decide) (fun c_5 => ?_) (fun c_5 => ?_)
  · refine lv_aload_n hx hb dX10_isStand_32 rfl (lv_at hl 1 rfl) ?_
    refine va_get (ci := 10) (v := .ref (z 1)) (C := RX10) (T := TX10) (N := 40) hx hb hg inX10 hown hK hP 0 rfl rfl 1 (by decide) (hg _ q_5_225) (fun _ h9 => h9) rfl dX10_isStand_33 ?_
    refine lv_bipush (v := 50) hx hb dX10_isStand_36 (by decide) ?_
    refine lv_iload_n hx hb dX10_isStand_38 rfl (lv_at hl 2 rfl) ?_
    refine jnI (wr := [(z 0, .inr (10, mo z pz0_0 pz0_5 pz0_6 pz0_7 pz0_8 pz0_9 pz0_10 pz0_11 pz0_12 pz0_13 pz0_14 pz0_18 pz0_19 pz0_22 pz0_23 pz0_29)), (z 1, aI V 3075 f_2)]) (rnS (rest := [.int 50, .ref (z 1)]) ⟨hx, hb, hml, hown, hg⟩ (k_X10_tookIn_0 l V a1 ba1) mt_X10_tookIn q_7_29 ⟨Nat.le_of_ble_eq_true rfl, Nat.le_of_ble_eq_true rfl⟩ hK hP hD hS hA hE [] rfl rfl rfl hl.1 rfl (Nat.le_of_ble_eq_true rfl) dX10_isStand_39 ⟨Nat.le_of_ble_eq_true rfl, Nat.le_of_ble_eq_true rfl⟩) hP hD hS hA [] [0, 1] rfl rfl rfl (by decide) (fun r_6 w H locs hw hP hD hS => ?_)
    obtain ⟨br_6, rfl⟩ := hw
    have hP : va_P V.1 vwCl [(z 0, .inr (10, mo z pz0_0 pz0_5 pz0_6 pz0_7 pz0_8 pz0_9 pz0_10 pz0_11 pz0_12 pz0_13 pz0_14 pz0_18 pz0_19 pz0_22 pz0_23 pz0_29)), (z 1, aI V 3075 f_2)] H := hP
    have hD : va_D A [(z 0, .inr (10, mo z pz0_0 pz0_5 pz0_6 pz0_7 pz0_8 pz0_9 pz0_10 pz0_11 pz0_12 pz0_13 pz0_14 pz0_18 pz0_19 pz0_22 pz0_23 pz0_29)), (z 1, aI V 3075 f_2)] := hD
    refine va_iast hx hb hK hP hD hS 1 0 rfl rfl (vin (by decide +kernel)) dX10_isStand_42 (fun H locs hP hD hS => ?_)
    obtain ⟨f_7, ef_7, tf_7, hP, hD⟩ : ∃ f_7 : Nat → Int32, f_7 = (upd f_2 (50 : Int32).toNatClampNeg r_6) ∧ (ivT tA f_7) ∧ va_P V.1 vwCl [(z 0, .inr (10, mo z pz0_0 pz0_5 pz0_6 pz0_7 pz0_8 pz0_9 pz0_10 pz0_11 pz0_12 pz0_13 pz0_14 pz0_18 pz0_19 pz0_22 pz0_23 pz0_29)), (z 1, aI V 3075 f_7)] H ∧ va_D A [(z 0, .inr (10, mo z pz0_0 pz0_5 pz0_6 pz0_7 pz0_8 pz0_9 pz0_10 pz0_11 pz0_12 pz0_13 pz0_14 pz0_18 pz0_19 pz0_22 pz0_23 pz0_29)), (z 1, aI V 3075 f_7)] := ⟨_, rfl, upT (lo := 0) (hi := 15) (a := 50) (n := 1) tf_2 (iv_c (50 : Int32) (a := 50) (b := 50) (by decide)) (by decide) br_6 (by decide +kernel), hP, hD⟩
    exact fiV hx hb hr hlk hK hP hD hS dX10_isStand_43 (Nat.le_of_ble_eq_true rfl) (Nat.le_of_ble_eq_true rfl) (⟨f_7, tf_7, (RW_up inn_3_0 (iv_c (50 : Int32) (a := 50) (b := 50) (by decide)) (by decide) ef_7), rfl⟩)
  · have b_8 : iv 0 3 u_1 := iv_l1 (Int32.not_le.mp c_5) bu_1 bx_4 (by decide)
    have b_9 : iv 1 4 x_4 := iv_l2 (Int32.not_le.mp c_5) bu_1 bx_4 (by decide)
    refine lv_aload_n hx hb dX10_isStand_12 rfl (lv_at hl 1 rfl) ?_
    refine va_get (ci := 10) (v := .ref (z 1)) (C := RX10) (T := TX10) (N := 40) hx hb hg inX10 hown hK hP 0 rfl rfl 1 (by decide) (hg _ q_5_225) (fun _ h9 => h9) rfl dX10_isStand_13 ?_
    refine lv_bipush (v := 46) hx hb dX10_isStand_16 (by decide) ?_
    refine lv_iload_n hx hb dX10_isStand_18 rfl (lv_at hl 0 rfl) ?_
    refine lv_iadd hx hb dX10_isStand_19 ?_
    refine lv_topi (fun x_10 ex_10 => ?_)
    have bx_10 : iv 46 49 x_10 := by rw [ex_10]; exact iv_add (iv_c (46 : Int32) (a := 46) (b := 46) (by decide)) b_8 (by decide)
    refine lv_iload_n hx hb dX10_isStand_20 rfl (lv_at hl 2 rfl) ?_
    refine lv_iload_n hx hb dX10_isStand_21 rfl (lv_at hl 0 rfl) ?_
    refine jnI (wr := [(z 0, .inr (10, mo z pz0_0 pz0_5 pz0_6 pz0_7 pz0_8 pz0_9 pz0_10 pz0_11 pz0_12 pz0_13 pz0_14 pz0_18 pz0_19 pz0_22 pz0_23 pz0_29)), (z 1, aI V 3075 f_2)]) (rnS (rest := [.int x_10, .ref (z 1)]) ⟨hx, hb, hml, hown, hg⟩ (k_X10_stackIn_0 l V a1 u_1 ba1 b_8) mt_X10_stackIn q_7_26 ⟨Nat.le_of_ble_eq_true rfl, Nat.le_of_ble_eq_true rfl⟩ hK hP hD hS hA hE [] rfl rfl rfl hl.1 rfl (Nat.le_of_ble_eq_true rfl) dX10_isStand_22 ⟨Nat.le_of_ble_eq_true rfl, Nat.le_of_ble_eq_true rfl⟩) hP hD hS hA [] [0, 1] rfl rfl rfl (by decide) (fun r_11 w H locs hw hP hD hS => ?_)
    obtain ⟨br_11, er_11, rfl⟩ := hw
    have hP : va_P V.1 vwCl [(z 0, .inr (10, mo z pz0_0 pz0_5 pz0_6 pz0_7 pz0_8 pz0_9 pz0_10 pz0_11 pz0_12 pz0_13 pz0_14 pz0_18 pz0_19 pz0_22 pz0_23 pz0_29)), (z 1, aI V 3075 f_2)] H := hP
    have hD : va_D A [(z 0, .inr (10, mo z pz0_0 pz0_5 pz0_6 pz0_7 pz0_8 pz0_9 pz0_10 pz0_11 pz0_12 pz0_13 pz0_14 pz0_18 pz0_19 pz0_22 pz0_23 pz0_29)), (z 1, aI V 3075 f_2)] := hD
    refine va_iast hx hb hK hP hD hS 1 0 rfl rfl (iv_in bx_10 (by decide)) dX10_isStand_25 (fun H locs hP hD hS => ?_)
    obtain ⟨f_12, ef_12, tf_12, hP, hD⟩ : ∃ f_12 : Nat → Int32, f_12 = (upd f_2 (x_10 : Int32).toNatClampNeg r_11) ∧ (ivT tA f_12) ∧ va_P V.1 vwCl [(z 0, .inr (10, mo z pz0_0 pz0_5 pz0_6 pz0_7 pz0_8 pz0_9 pz0_10 pz0_11 pz0_12 pz0_13 pz0_14 pz0_18 pz0_19 pz0_22 pz0_23 pz0_29)), (z 1, aI V 3075 f_12)] H ∧ va_D A [(z 0, .inr (10, mo z pz0_0 pz0_5 pz0_6 pz0_7 pz0_8 pz0_9 pz0_10 pz0_11 pz0_12 pz0_13 pz0_14 pz0_18 pz0_19 pz0_22 pz0_23 pz0_29)), (z 1, aI V 3075 f_12)] := ⟨_, rfl, upT (lo := 0) (hi := 4) (a := 46) (n := 4) tf_2 bx_10 (by decide) br_11 (by decide +kernel), hP, hD⟩
    obtain ⟨x_13, ex_13⟩ : ∃ z9 : Int32, z9 = u_1 + 1 := ⟨_, rfl⟩
    have bx_13 : iv 1 4 x_13 := by rw [ex_13]; exact iv_add b_8 (iv_c (1 : Int32) (a := 1) (b := 1) (by decide)) (by decide)
    refine lv_iinc (v := x_13) (lv' := [(2, .int x_13), (0, .ref (z 0)), (1, .int a1)]) hx hb dX10_isStand_26 hl (k := 0) rfl (by rw [ex_13]; rfl) (by decide) rfl (fun ls hl => ?_)
    refine lv_goto (tgt := 2) hx hb dX10_isStand_29 (by decide) ?_
    exact ihn_3 _ _ _ _ (by rw [en_3, ex_13]; exact mu_up b_8 (by decide)) ⟨x_13, f_12, (iv_w bx_13 (by decide)), tf_12, (RW_up inn_3_0 bx_10 (by decide) ef_12), rfl, hP, hD, hS, lv_sub hl [0, 1, 2] rfl⟩
theorem dX10_goesNight_0 : decode cX10_goesNight 0 = .ok (.aload_n 0, 1) := by decide +kernel
theorem dX10_goesNight_1 : decode cX10_goesNight 1 = .ok (.aload_n 0, 1) := by decide +kernel
theorem dX10_goesNight_2 : decode cX10_goesNight 2 = .ok (.aload_n 0, 1) := by decide +kernel
theorem dX10_goesNight_3 : decode cX10_goesNight 3 = .ok (.invokevirtual 269, 3) := by decide +kernel
theorem dX10_goesNight_6 : decode cX10_goesNight 6 = .ok (.iload_n 1, 1) := by decide +kernel
theorem dX10_goesNight_7 : decode cX10_goesNight 7 = .ok (.aload_n 0, 1) := by decide +kernel
theorem dX10_goesNight_8 : decode cX10_goesNight 8 = .ok (.getfield 13, 3) := by decide +kernel
theorem dX10_goesNight_11 : decode cX10_goesNight 11 = .ok (.bipush 51, 2) := by decide +kernel
theorem dX10_goesNight_13 : decode cX10_goesNight 13 = .ok (.iaload, 1) := by decide +kernel
theorem dX10_goesNight_14 : decode cX10_goesNight 14 = .ok (.invokevirtual 272, 3) := by decide +kernel
theorem q_7_71 : Cond.code yX10_isStand prog_12_method_41_code 3 none ∈ gw := gw_7 (i := 71) (rfl) rfl
theorem q_7_70 : Cond.instanceMethod yX10_isStand ∈ gw := gw_7 (i := 70) (by decide +kernel) rfl
theorem q_s_89 : Cond.selects "BeaconDelayModel" yX10_isStand yX10_isStand ∈ gw := gw_s (i := 89) (by decide +kernel) rfl
theorem mt_X10_isStand : MtV yX10_isStand cX10_isStand 3 none 1 := ⟨⟨q_7_71, q_1_9, by decide +kernel, by decide +kernel, by decide +kernel⟩, q_7_70, q_s_89⟩
theorem q_7_68 : Cond.methodLink "BeaconDelayModel" 275 yX10_isStand ∈ gw := gw_7 (i := 68) (by decide +kernel) rfl
theorem dX10_goesNight_17 : decode cX10_goesNight 17 = .ok (.invokevirtual 275, 3) := by decide +kernel
theorem dX10_goesNight_20 : decode cX10_goesNight 20 = .ok (.aload_n 0, 1) := by decide +kernel
theorem dX10_goesNight_21 : decode cX10_goesNight 21 = .ok (.getfield 13, 3) := by decide +kernel
theorem dX10_goesNight_24 : decode cX10_goesNight 24 = .ok (.bipush 52, 2) := by decide +kernel
theorem dX10_goesNight_26 : decode cX10_goesNight 26 = .ok (.dup2, 1) := by decide +kernel
theorem dX10_goesNight_27 : decode cX10_goesNight 27 = .ok (.iaload, 1) := by decide +kernel
theorem dX10_goesNight_28 : decode cX10_goesNight 28 = .ok (.iconst 1, 1) := by decide +kernel
theorem dX10_goesNight_29 : decode cX10_goesNight 29 = .ok (.iadd, 1) := by decide +kernel
theorem dX10_goesNight_30 : decode cX10_goesNight 30 = .ok (.iastore, 1) := by decide +kernel
theorem dX10_goesNight_31 : decode cX10_goesNight 31 = .ok (.return_, 1) := by decide +kernel
set_option maxHeartbeats 4000000 in
set_option maxRecDepth 100000 in
theorem k_X10_goesNight_0 (l : Launch) (V : GV) (z : Nat → Nat) (a1 : Int32) (fz15 : Nat → Int32) (fz16 : Nat → Int32) (pz0_0 : Int32) (pz0_5 : Int32) (pz0_6 : Int32) (pz0_7 : Int32) (pz0_8 : Int32) (pz0_9 : Int32) (pz0_10 : Int32) (pz0_11 : Int32) (pz0_12 : Int32) (pz0_13 : Int32) (pz0_14 : Int32) (pz0_18 : Int32) (pz0_19 : Int32) (pz0_22 : Int32) (pz0_23 : Int32) (pz0_29 : Int32) (fz1 : Nat → Int32) (ba1 : iv 0 3 a1) (tfz16 : ivT tW fz16) (bpz0_5 : iv 0 900 pz0_5) (bpz0_6 : iv 0 900 pz0_6) (bpz0_7 : iv 0 900 pz0_7) (bpz0_8 : iv 0 900 pz0_8) (bpz0_10 : iv 0 999 pz0_10) (bpz0_11 : iv 0 4 pz0_11) (bpz0_12 : iv 0 900 pz0_12) (bpz0_13 : iv 0 4 pz0_13) (bpz0_14 : iv (-1) 900 pz0_14) (bpz0_18 : iv 0 2 pz0_18) (bpz0_22 : iv 0 9999 pz0_22) (bpz0_29 : iv 0 10000 pz0_29) (tfz1 : ivT tA fz1) (hf0 : RW fz1) : Ct l V yX10_goesNight (.code yX10_goesNight cX10_goesNight 2 none) 5 [.ref (z 0), .int a1] [(z 15, aI V 900 fz15), (z 16, aI V 6 fz16), (z 0, .inr (10, mo z pz0_0 pz0_5 pz0_6 pz0_7 pz0_8 pz0_9 pz0_10 pz0_11 pz0_12 pz0_13 pz0_14 pz0_18 pz0_19 pz0_22 pz0_23 pz0_29)), (z 1, aI V 3075 fz1)] 0 0 (QV V (fun (w : va_W) => ∃ (g0 : Nat → Int32) (g1 : Nat → Int32) (g2 : Nat → Int32), (ivT tW g1) ∧ (ivT tA g2) ∧ (RW g2) ∧ w = [(z 15, aI V 900 g0), (z 16, aI V 6 g1), (z 0, .inr (10, mo z pz0_0 pz0_5 pz0_6 pz0_7 pz0_8 pz0_9 pz0_10 pz0_11 pz0_12 pz0_13 pz0_14 pz0_18 pz0_19 pz0_22 pz0_23 pz0_29)), (z 1, aI V 3075 g2)])) := by
  refine Ct.of (by decide) (Nat.le_of_ble_eq_true rfl) (fun p e s m below meth c A ls hx hb hr hml hown hlk hnm hg hP hK hD hE hA hS hl => ?_)
  have hl : lv_has ls 2 [(0, .ref (z 0)), (1, .int a1)] := hl
  refine lv_aload_n hx hb dX10_goesNight_0 rfl (lv_at hl 0 rfl) ?_
  refine lv_aload_n hx hb dX10_goesNight_1 rfl (lv_at hl 0 rfl) ?_
  refine lv_aload_n hx hb dX10_goesNight_2 rfl (lv_at hl 0 rfl) ?_
  refine jnI (wr := [(z 15, aI V 900 fz15), (z 16, aI V 6 fz16)]) (rnV (rest := [.ref (z 0), .ref (z 0)]) ⟨hx, hb, hml, hown, hg⟩ (k_X10_standNow_0 l V z pz0_0 pz0_5 pz0_6 pz0_7 pz0_8 pz0_9 pz0_10 pz0_11 pz0_12 pz0_13 pz0_14 pz0_18 pz0_19 pz0_22 pz0_23 pz0_29 fz1 bpz0_5 bpz0_6 bpz0_7 bpz0_8 bpz0_10 bpz0_11 bpz0_12 bpz0_13 bpz0_14 bpz0_18 bpz0_22 bpz0_29 tfz1) mt_X10_standNow q_7_11 ⟨Nat.le_of_ble_eq_true rfl, Nat.le_of_ble_eq_true rfl⟩ hK hP hD hS hA hE [2, 3] rfl rfl 2 rfl rfl rfl rfl hl.1 rfl (Nat.le_of_ble_eq_true rfl) dX10_goesNight_3 ⟨Nat.le_of_ble_eq_true rfl, Nat.le_of_ble_eq_true rfl⟩) hP hD hS hA [2, 3] [0, 1] rfl rfl rfl (by decide) (fun r_1 w H locs hw hP hD hS => ?_)
  obtain ⟨br_1, er_1, rfl⟩ := hw
  have hP : va_P V.1 vwCl [(z 15, aI V 900 fz15), (z 16, aI V 6 fz16), (z 0, .inr (10, mo z pz0_0 pz0_5 pz0_6 pz0_7 pz0_8 pz0_9 pz0_10 pz0_11 pz0_12 pz0_13 pz0_14 pz0_18 pz0_19 pz0_22 pz0_23 pz0_29)), (z 1, aI V 3075 fz1)] H := hP
  have hD : va_D A [(z 15, aI V 900 fz15), (z 16, aI V 6 fz16), (z 0, .inr (10, mo z pz0_0 pz0_5 pz0_6 pz0_7 pz0_8 pz0_9 pz0_10 pz0_11 pz0_12 pz0_13 pz0_14 pz0_18 pz0_19 pz0_22 pz0_23 pz0_29)), (z 1, aI V 3075 fz1)] := hD
  refine lv_iload_n hx hb dX10_goesNight_6 rfl (lv_at hl 1 rfl) ?_
  refine lv_aload_n hx hb dX10_goesNight_7 rfl (lv_at hl 0 rfl) ?_
  refine va_get (ci := 10) (v := .ref (z 1)) (C := RX10) (T := TX10) (N := 40) hx hb hg inX10 hown hK hP 2 rfl rfl 1 (by decide) (hg _ q_5_225) (fun _ h9 => h9) rfl dX10_goesNight_8 ?_
  refine lv_bipush (v := 51) hx hb dX10_goesNight_11 (by decide) ?_
  refine va_iald hx hb hK hP 3 0 rfl rfl (vin (by decide +kernel)) dX10_goesNight_13 ?_
  refine lv_topi (fun x_2 ex_2 => ?_)
  have bx_2 : iv 0 9 x_2 := by rw [ex_2]; exact rdT (a := 51) (n := 1) tfz1 (iv_c (51 : Int32) (a := 51) (b := 51) (by decide)) (by decide) (by decide +kernel)
  refine jnI (wr := []) (rnV (rest := [.ref (z 0)]) ⟨hx, hb, hml, hown, hg⟩ (k_X10_nightTo_0 l V z r_1 a1 x_2 fz15 fz16 pz0_0 pz0_5 pz0_6 pz0_7 pz0_8 pz0_9 pz0_10 pz0_11 pz0_12 pz0_13 pz0_14 pz0_18 pz0_19 pz0_22 pz0_23 pz0_29 fz1 br_1 tfz16 bpz0_5 bpz0_6 bpz0_7 bpz0_8 bpz0_10 bpz0_11 bpz0_12 bpz0_13 bpz0_14 bpz0_18 bpz0_22 bpz0_29 tfz1 hf0) mt_X10_nightTo q_7_18 ⟨Nat.le_of_ble_eq_true rfl, Nat.le_of_ble_eq_true rfl⟩ hK hP hD hS hA hE [0, 1, 2, 3] rfl rfl 2 rfl rfl rfl rfl hl.1 rfl (Nat.le_of_ble_eq_true rfl) dX10_goesNight_14 ⟨Nat.le_of_ble_eq_true rfl, Nat.le_of_ble_eq_true rfl⟩) hP hD hS hA [0, 1, 2, 3] [] rfl rfl rfl (by decide) (fun r_3 w H locs hw hP hD hS => ?_)
  obtain ⟨f_4, f_5, tf_5, br_3, g_6, rfl⟩ := hw
  have hP : va_P V.1 vwCl [(z 15, aI V 900 f_4), (z 16, aI V 6 f_5), (z 0, .inr (10, mo z pz0_0 pz0_5 pz0_6 pz0_7 pz0_8 pz0_9 pz0_10 pz0_11 pz0_12 pz0_13 pz0_14 pz0_18 pz0_19 pz0_22 pz0_23 pz0_29)), (z 1, aI V 3075 fz1)] H := hP
  have hD : va_D A [(z 15, aI V 900 f_4), (z 16, aI V 6 f_5), (z 0, .inr (10, mo z pz0_0 pz0_5 pz0_6 pz0_7 pz0_8 pz0_9 pz0_10 pz0_11 pz0_12 pz0_13 pz0_14 pz0_18 pz0_19 pz0_22 pz0_23 pz0_29)), (z 1, aI V 3075 fz1)] := hD
  refine jnV (wr := [(z 15, aI V 900 f_4), (z 16, aI V 6 f_5)]) (rnV (rest := []) ⟨hx, hb, hml, hown, hg⟩ (k_X10_isStand_0 l V z r_3 pz0_0 pz0_5 pz0_6 pz0_7 pz0_8 pz0_9 pz0_10 pz0_11 pz0_12 pz0_13 pz0_14 pz0_18 pz0_19 pz0_22 pz0_23 pz0_29 fz1 (iv_w br_3 (by decide)) bpz0_5 bpz0_6 bpz0_7 bpz0_8 bpz0_10 bpz0_11 bpz0_12 bpz0_13 bpz0_14 bpz0_18 bpz0_22 bpz0_29 tfz1 g_6) mt_X10_isStand q_7_68 ⟨Nat.le_of_ble_eq_true rfl, Nat.le_of_ble_eq_true rfl⟩ hK hP hD hS hA hE [2, 3] rfl rfl 2 rfl rfl rfl rfl hl.1 rfl (Nat.le_of_ble_eq_true rfl) dX10_goesNight_17 ⟨Nat.le_of_ble_eq_true rfl, Nat.le_of_ble_eq_true rfl⟩) hP hD hS hA [2, 3] [0, 1] rfl rfl rfl (by decide) (fun  w H locs hw hP hD hS => ?_)
  obtain ⟨f_7, tf_7, g_8, rfl⟩ := hw
  have hP : va_P V.1 vwCl [(z 15, aI V 900 f_4), (z 16, aI V 6 f_5), (z 0, .inr (10, mo z pz0_0 pz0_5 pz0_6 pz0_7 pz0_8 pz0_9 pz0_10 pz0_11 pz0_12 pz0_13 pz0_14 pz0_18 pz0_19 pz0_22 pz0_23 pz0_29)), (z 1, aI V 3075 f_7)] H := hP
  have hD : va_D A [(z 15, aI V 900 f_4), (z 16, aI V 6 f_5), (z 0, .inr (10, mo z pz0_0 pz0_5 pz0_6 pz0_7 pz0_8 pz0_9 pz0_10 pz0_11 pz0_12 pz0_13 pz0_14 pz0_18 pz0_19 pz0_22 pz0_23 pz0_29)), (z 1, aI V 3075 f_7)] := hD
  refine lv_aload_n hx hb dX10_goesNight_20 rfl (lv_at hl 0 rfl) ?_
  refine va_get (ci := 10) (v := .ref (z 1)) (C := RX10) (T := TX10) (N := 40) hx hb hg inX10 hown hK hP 2 rfl rfl 1 (by decide) (hg _ q_5_225) (fun _ h9 => h9) rfl dX10_goesNight_21 ?_
  refine lv_bipush (v := 52) hx hb dX10_goesNight_24 (by decide) ?_
  refine lv_dup2_11 hx hb dX10_goesNight_26 rfl rfl ?_
  refine va_iald hx hb hK hP 3 0 rfl rfl (vin (by decide +kernel)) dX10_goesNight_27 ?_
  refine lv_topi (fun x_9 ex_9 => ?_)
  refine lv_iconst (v := 1) hx hb dX10_goesNight_28 (by decide) ?_
  refine lv_iadd hx hb dX10_goesNight_29 ?_
  refine lv_topi (fun x_10 ex_10 => ?_)
  refine va_iast hx hb hK hP hD hS 3 0 rfl rfl (vin (by decide +kernel)) dX10_goesNight_30 (fun H locs hP hD hS => ?_)
  obtain ⟨f_11, ef_11, tf_11, hP, hD⟩ : ∃ f_11 : Nat → Int32, f_11 = (upd f_7 (52 : Int32).toNatClampNeg x_10) ∧ (ivT tA f_11) ∧ va_P V.1 vwCl [(z 15, aI V 900 f_4), (z 16, aI V 6 f_5), (z 0, .inr (10, mo z pz0_0 pz0_5 pz0_6 pz0_7 pz0_8 pz0_9 pz0_10 pz0_11 pz0_12 pz0_13 pz0_14 pz0_18 pz0_19 pz0_22 pz0_23 pz0_29)), (z 1, aI V 3075 f_11)] H ∧ va_D A [(z 15, aI V 900 f_4), (z 16, aI V 6 f_5), (z 0, .inr (10, mo z pz0_0 pz0_5 pz0_6 pz0_7 pz0_8 pz0_9 pz0_10 pz0_11 pz0_12 pz0_13 pz0_14 pz0_18 pz0_19 pz0_22 pz0_23 pz0_29)), (z 1, aI V 3075 f_11)] := ⟨_, rfl, upT (lo := (-2147483648)) (hi := 2147483647) (a := 52) (n := 1) tf_7 (iv_c (52 : Int32) (a := 52) (b := 52) (by decide)) (by decide) (iv_top x_10) (by decide +kernel), hP, hD⟩
  exact fiV hx hb hr hlk hK hP hD hS dX10_goesNight_31 (Nat.le_of_ble_eq_true rfl) (Nat.le_of_ble_eq_true rfl) (⟨f_4, f_5, f_11, tf_5, tf_11, (RW_up g_8 (iv_c (52 : Int32) (a := 52) (b := 52) (by decide)) (by decide) ef_11), rfl⟩)
theorem dX10_notes_0 : decode cX10_notes 0 = .ok (.aload_n 0, 1) := by decide +kernel
theorem dX10_notes_1 : decode cX10_notes 1 = .ok (.getfield 13, 3) := by decide +kernel
theorem dX10_notes_4 : decode cX10_notes 4 = .ok (.bipush 53, 2) := by decide +kernel
theorem dX10_notes_6 : decode cX10_notes 6 = .ok (.iaload, 1) := by decide +kernel
theorem dX10_notes_7 : decode cX10_notes 7 = .ok (.bipush 10, 2) := by decide +kernel
theorem dX10_notes_9 : decode cX10_notes 9 = .ok (.if_icmp .ne 46, 3) := by decide +kernel
theorem dX10_notes_55 : decode cX10_notes 55 = .ok (.iconst 0, 1) := by decide +kernel
theorem dX10_notes_56 : decode cX10_notes 56 = .ok (.istore_n 1, 1) := by decide +kernel
theorem dX10_notes_57 : decode cX10_notes 57 = .ok (.iload_n 1, 1) := by decide +kernel
theorem dX10_notes_58 : decode cX10_notes 58 = .ok (.bipush 7, 2) := by decide +kernel
theorem dX10_notes_60 : decode cX10_notes 60 = .ok (.if_icmp .ge 35, 3) := by decide +kernel
theorem dX10_notes_63 : decode cX10_notes 63 = .ok (.aload_n 0, 1) := by decide +kernel
theorem dX10_notes_64 : decode cX10_notes 64 = .ok (.getfield 13, 3) := by decide +kernel
theorem dX10_notes_67 : decode cX10_notes 67 = .ok (.bipush 54, 2) := by decide +kernel
theorem dX10_notes_69 : decode cX10_notes 69 = .ok (.bipush 7, 2) := by decide +kernel
theorem dX10_notes_71 : decode cX10_notes 71 = .ok (.aload_n 0, 1) := by decide +kernel
theorem dX10_notes_72 : decode cX10_notes 72 = .ok (.getfield 13, 3) := by decide +kernel
theorem dX10_notes_75 : decode cX10_notes 75 = .ok (.bipush 53, 2) := by decide +kernel
theorem dX10_notes_77 : decode cX10_notes 77 = .ok (.iaload, 1) := by decide +kernel
theorem dX10_notes_78 : decode cX10_notes 78 = .ok (.imul, 1) := by decide +kernel
theorem dX10_notes_79 : decode cX10_notes 79 = .ok (.iadd, 1) := by decide +kernel
theorem dX10_notes_80 : decode cX10_notes 80 = .ok (.iload_n 1, 1) := by decide +kernel
theorem dX10_notes_81 : decode cX10_notes 81 = .ok (.iadd, 1) := by decide +kernel
theorem dX10_notes_82 : decode cX10_notes 82 = .ok (.aload_n 0, 1) := by decide +kernel
theorem dX10_notes_83 : decode cX10_notes 83 = .ok (.getfield 36, 3) := by decide +kernel
theorem dX10_notes_86 : decode cX10_notes 86 = .ok (.iload_n 1, 1) := by decide +kernel
theorem dX10_notes_87 : decode cX10_notes 87 = .ok (.iaload, 1) := by decide +kernel
theorem dX10_notes_88 : decode cX10_notes 88 = .ok (.iastore, 1) := by decide +kernel
theorem dX10_notes_89 : decode cX10_notes 89 = .ok (.iinc 1 1, 3) := by decide +kernel
theorem dX10_notes_92 : decode cX10_notes 92 = .ok (.goto (-35), 3) := by decide +kernel
theorem dX10_notes_95 : decode cX10_notes 95 = .ok (.aload_n 0, 1) := by decide +kernel
theorem dX10_notes_96 : decode cX10_notes 96 = .ok (.getfield 13, 3) := by decide +kernel
theorem dX10_notes_99 : decode cX10_notes 99 = .ok (.bipush 53, 2) := by decide +kernel
theorem dX10_notes_101 : decode cX10_notes 101 = .ok (.dup2, 1) := by decide +kernel
theorem dX10_notes_102 : decode cX10_notes 102 = .ok (.iaload, 1) := by decide +kernel
theorem dX10_notes_103 : decode cX10_notes 103 = .ok (.iconst 1, 1) := by decide +kernel
theorem dX10_notes_104 : decode cX10_notes 104 = .ok (.iadd, 1) := by decide +kernel
theorem dX10_notes_105 : decode cX10_notes 105 = .ok (.iastore, 1) := by decide +kernel
theorem dX10_notes_106 : decode cX10_notes 106 = .ok (.return_, 1) := by decide +kernel
theorem dX10_notes_12 : decode cX10_notes 12 = .ok (.iconst 0, 1) := by decide +kernel
theorem dX10_notes_13 : decode cX10_notes 13 = .ok (.istore_n 1, 1) := by decide +kernel
theorem dX10_notes_14 : decode cX10_notes 14 = .ok (.iload_n 1, 1) := by decide +kernel
theorem dX10_notes_15 : decode cX10_notes 15 = .ok (.bipush 63, 2) := by decide +kernel
theorem dX10_notes_17 : decode cX10_notes 17 = .ok (.if_icmp .ge 27, 3) := by decide +kernel
theorem dX10_notes_44 : decode cX10_notes 44 = .ok (.aload_n 0, 1) := by decide +kernel
theorem dX10_notes_45 : decode cX10_notes 45 = .ok (.getfield 13, 3) := by decide +kernel
theorem dX10_notes_48 : decode cX10_notes 48 = .ok (.bipush 53, 2) := by decide +kernel
theorem dX10_notes_50 : decode cX10_notes 50 = .ok (.dup2, 1) := by decide +kernel
theorem dX10_notes_51 : decode cX10_notes 51 = .ok (.iaload, 1) := by decide +kernel
theorem dX10_notes_52 : decode cX10_notes 52 = .ok (.iconst 1, 1) := by decide +kernel
theorem dX10_notes_53 : decode cX10_notes 53 = .ok (.isub, 1) := by decide +kernel
theorem dX10_notes_54 : decode cX10_notes 54 = .ok (.iastore, 1) := by decide +kernel
theorem dX10_notes_20 : decode cX10_notes 20 = .ok (.aload_n 0, 1) := by decide +kernel
theorem dX10_notes_21 : decode cX10_notes 21 = .ok (.getfield 13, 3) := by decide +kernel
theorem dX10_notes_24 : decode cX10_notes 24 = .ok (.bipush 54, 2) := by decide +kernel
theorem dX10_notes_26 : decode cX10_notes 26 = .ok (.iload_n 1, 1) := by decide +kernel
theorem dX10_notes_27 : decode cX10_notes 27 = .ok (.iadd, 1) := by decide +kernel
theorem dX10_notes_28 : decode cX10_notes 28 = .ok (.aload_n 0, 1) := by decide +kernel
theorem dX10_notes_29 : decode cX10_notes 29 = .ok (.getfield 13, 3) := by decide +kernel
theorem dX10_notes_32 : decode cX10_notes 32 = .ok (.bipush 61, 2) := by decide +kernel
theorem dX10_notes_34 : decode cX10_notes 34 = .ok (.iload_n 1, 1) := by decide +kernel
theorem dX10_notes_35 : decode cX10_notes 35 = .ok (.iadd, 1) := by decide +kernel
theorem dX10_notes_36 : decode cX10_notes 36 = .ok (.iaload, 1) := by decide +kernel
theorem dX10_notes_37 : decode cX10_notes 37 = .ok (.iastore, 1) := by decide +kernel
theorem dX10_notes_38 : decode cX10_notes 38 = .ok (.iinc 1 1, 3) := by decide +kernel
theorem dX10_notes_41 : decode cX10_notes 41 = .ok (.goto (-27), 3) := by decide +kernel
set_option maxHeartbeats 4000000 in
set_option maxRecDepth 100000 in
theorem k_X10_notes_0 (l : Launch) (V : GV) (z : Nat → Nat) (fz17 : Nat → Int32) (pz0_0 : Int32) (pz0_5 : Int32) (pz0_6 : Int32) (pz0_7 : Int32) (pz0_8 : Int32) (pz0_9 : Int32) (pz0_10 : Int32) (pz0_11 : Int32) (pz0_12 : Int32) (pz0_13 : Int32) (pz0_14 : Int32) (pz0_18 : Int32) (pz0_19 : Int32) (pz0_22 : Int32) (pz0_23 : Int32) (pz0_29 : Int32) (fz1 : Nat → Int32) (tfz17 : ivT tS fz17) (bpz0_5 : iv 0 900 pz0_5) (bpz0_6 : iv 0 900 pz0_6) (bpz0_7 : iv 0 900 pz0_7) (bpz0_8 : iv 0 900 pz0_8) (bpz0_10 : iv 0 999 pz0_10) (bpz0_11 : iv 0 4 pz0_11) (bpz0_12 : iv 0 900 pz0_12) (bpz0_13 : iv 0 4 pz0_13) (bpz0_14 : iv (-1) 900 pz0_14) (bpz0_18 : iv 0 2 pz0_18) (bpz0_22 : iv 0 9999 pz0_22) (bpz0_29 : iv 0 10000 pz0_29) (tfz1 : ivT tA fz1) (hf0 : RW fz1) : Ct l V yX10_notes (.code yX10_notes cX10_notes 2 none) 1 [.ref (z 0)] [(z 17, aI V 7 fz17), (z 0, .inr (10, mo z pz0_0 pz0_5 pz0_6 pz0_7 pz0_8 pz0_9 pz0_10 pz0_11 pz0_12 pz0_13 pz0_14 pz0_18 pz0_19 pz0_22 pz0_23 pz0_29)), (z 1, aI V 3075 fz1)] 0 0 (QV V (fun (w : va_W) => ∃ (g0 : Nat → Int32), (ivT tA g0) ∧ (RW g0) ∧ w = [(z 17, aI V 7 fz17), (z 0, .inr (10, mo z pz0_0 pz0_5 pz0_6 pz0_7 pz0_8 pz0_9 pz0_10 pz0_11 pz0_12 pz0_13 pz0_14 pz0_18 pz0_19 pz0_22 pz0_23 pz0_29)), (z 1, aI V 3075 g0)])) := by
  refine Ct.of (by decide) (Nat.le_of_ble_eq_true rfl) (fun p e s m below meth c A ls hx hb hr hml hown hlk hnm hg hP hK hD hE hA hS hl => ?_)
  have hl : lv_has ls 2 [(0, .ref (z 0))] := hl
  refine lv_aload_n hx hb dX10_notes_0 rfl (lv_at hl 0 rfl) ?_
  refine va_get (ci := 10) (v := .ref (z 1)) (C := RX10) (T := TX10) (N := 40) hx hb hg inX10 hown hK hP 1 rfl rfl 1 (by decide) (hg _ q_5_225) (fun _ h9 => h9) rfl dX10_notes_1 ?_
  refine lv_bipush (v := 53) hx hb dX10_notes_4 (by decide) ?_
  refine va_iald hx hb hK hP 2 0 rfl rfl (vin (by decide +kernel)) dX10_notes_6 ?_
  refine lv_topi (fun x_1 ex_1 => ?_)
  have bx_1 : iv 0 10 x_1 := by rw [ex_1]; exact rdT (a := 53) (n := 1) tfz1 (iv_c (53 : Int32) (a := 53) (b := 53) (by decide)) (by decide) (by decide +kernel)
  refine lv_bipush (v := 10) hx hb dX10_notes_7 (by decide) ?_
  refine lv_icmp_ne (tgt := 55) hx hb dX10_notes_9 (by decide) (fun c_2 => ?_) (fun c_2 => ?_)
  · have b_3 : iv 0 9 x_1 := iv_n1 c_2 bx_1 (iv_c (10 : Int32) (a := 10) (b := 10) (by decide)) (by decide)
    refine lv_iconst (v := 0) hx hb dX10_notes_55 (by decide) ?_
    refine lv_istore_n (lv' := [(1, .int 0), (0, .ref (z 0))]) hx hb dX10_notes_56 rfl hl (by decide) rfl (fun ls hl => ?_)
    refine lv_iload_n hx hb dX10_notes_57 rfl (lv_at hl 0 rfl) ?_
    refine lv_bipush (v := 7) hx hb dX10_notes_58 (by decide) ?_
    refine lv_icmp_ge (tgt := 95) hx hb dX10_notes_60 (by decide) (fun c_5 => absurd c_5 (by decide)) (fun _ => ?_)
    refine lv_aload_n hx hb dX10_notes_63 rfl (lv_at hl 1 rfl) ?_
    refine va_get (ci := 10) (v := .ref (z 1)) (C := RX10) (T := TX10) (N := 40) hx hb hg inX10 hown hK hP 1 rfl rfl 1 (by decide) (hg _ q_5_225) (fun _ h9 => h9) rfl dX10_notes_64 ?_
    refine lv_bipush (v := 54) hx hb dX10_notes_67 (by decide) ?_
    refine lv_bipush (v := 7) hx hb dX10_notes_69 (by decide) ?_
    refine lv_aload_n hx hb dX10_notes_71 rfl (lv_at hl 1 rfl) ?_
    refine va_get (ci := 10) (v := .ref (z 1)) (C := RX10) (T := TX10) (N := 40) hx hb hg inX10 hown hK hP 1 rfl rfl 1 (by decide) (hg _ q_5_225) (fun _ h9 => h9) rfl dX10_notes_72 ?_
    refine lv_bipush (v := 53) hx hb dX10_notes_75 (by decide) ?_
    refine va_iald hx hb hK hP 2 0 rfl rfl (vin (by decide +kernel)) dX10_notes_77 ?_
    refine tpi (y := x_1) ex_1.symm ?_
    refine lv_imul hx hb dX10_notes_78 ?_
    refine lv_topi (fun x_6 ex_6 => ?_)
    have bx_6 : iv 0 63 x_6 := by rw [ex_6]; exact iv_cmul (iv_c (7 : Int32) (a := 7) (b := 7) (by decide)) b_3 (by decide)
    refine lv_iadd hx hb dX10_notes_79 ?_
    refine lv_topi (fun x_7 ex_7 => ?_)
    have bx_7 : iv 54 117 x_7 := by rw [ex_7]; exact iv_add (iv_c (54 : Int32) (a := 54) (b := 54) (by decide)) bx_6 (by decide)
    refine lv_iload_n hx hb dX10_notes_80 rfl (lv_at hl 0 rfl) ?_
    refine lv_iadd hx hb dX10_notes_81 ?_
    refine lv_topi (fun x_8 ex_8 => ?_)
    have bx_8 : iv 54 117 x_8 := by rw [ex_8]; exact iv_add bx_7 (iv_c (0 : Int32) (a := 0) (b := 0) (by decide)) (by decide)
    refine lv_aload_n hx hb dX10_notes_82 rfl (lv_at hl 1 rfl) ?_
    refine va_get (ci := 10) (v := .ref (z 17)) (C := RX10) (T := TX10) (N := 40) hx hb hg inX10 hown hK hP 1 rfl rfl 17 (by decide) (hg _ q_6_1) (fun _ h9 => h9) rfl dX10_notes_83 ?_
    refine lv_iload_n hx hb dX10_notes_86 rfl (lv_at hl 0 rfl) ?_
    refine va_iald hx hb hK hP 0 0 rfl rfl (vin (by decide +kernel)) dX10_notes_87 ?_
    refine lv_topi (fun x_9 ex_9 => ?_)
    have bx_9 : iv 0 4 x_9 := by rw [ex_9]; exact rdT (a := 0) (n := 1) tfz17 (iv_c (0 : Int32) (a := 0) (b := 0) (by decide)) (by decide) (by decide +kernel)
    refine va_iast hx hb hK hP hD hS 2 0 rfl rfl (iv_in bx_8 (by decide)) dX10_notes_88 (fun H locs hP hD hS => ?_)
    obtain ⟨f_10, ef_10, tf_10, hP, hD⟩ : ∃ f_10 : Nat → Int32, f_10 = (upd fz1 (x_8 : Int32).toNatClampNeg x_9) ∧ (ivT tA f_10) ∧ va_P V.1 vwCl [(z 17, aI V 7 fz17), (z 0, .inr (10, mo z pz0_0 pz0_5 pz0_6 pz0_7 pz0_8 pz0_9 pz0_10 pz0_11 pz0_12 pz0_13 pz0_14 pz0_18 pz0_19 pz0_22 pz0_23 pz0_29)), (z 1, aI V 3075 f_10)] H ∧ va_D A [(z 17, aI V 7 fz17), (z 0, .inr (10, mo z pz0_0 pz0_5 pz0_6 pz0_7 pz0_8 pz0_9 pz0_10 pz0_11 pz0_12 pz0_13 pz0_14 pz0_18 pz0_19 pz0_22 pz0_23 pz0_29)), (z 1, aI V 3075 f_10)] := ⟨_, rfl, upT (lo := 0) (hi := 4) (a := 54) (n := 64) tfz1 bx_8 (by decide) bx_9 (by decide +kernel), hP, hD⟩
    refine lv_iinc (v := 1) (lv' := [(1, .int 1), (0, .ref (z 0))]) hx hb dX10_notes_89 hl (k := 0) rfl (by decide +kernel) (by decide) rfl (fun ls hl => ?_)
    refine lv_goto (tgt := 57) hx hb dX10_notes_92 (by decide) ?_
    refine lv_iload_n hx hb dX10_notes_57 rfl (lv_at hl 0 rfl) ?_
    refine lv_bipush (v := 7) hx hb dX10_notes_58 (by decide) ?_
    refine lv_icmp_ge (tgt := 95) hx hb dX10_notes_60 (by decide) (fun c_12 => absurd c_12 (by decide)) (fun _ => ?_)
    refine lv_aload_n hx hb dX10_notes_63 rfl (lv_at hl 1 rfl) ?_
    refine va_get (ci := 10) (v := .ref (z 1)) (C := RX10) (T := TX10) (N := 40) hx hb hg inX10 hown hK hP 1 rfl rfl 1 (by decide) (hg _ q_5_225) (fun _ h9 => h9) rfl dX10_notes_64 ?_
    refine lv_bipush (v := 54) hx hb dX10_notes_67 (by decide) ?_
    refine lv_bipush (v := 7) hx hb dX10_notes_69 (by decide) ?_
    refine lv_aload_n hx hb dX10_notes_71 rfl (lv_at hl 1 rfl) ?_
    refine va_get (ci := 10) (v := .ref (z 1)) (C := RX10) (T := TX10) (N := 40) hx hb hg inX10 hown hK hP 1 rfl rfl 1 (by decide) (hg _ q_5_225) (fun _ h9 => h9) rfl dX10_notes_72 ?_
    refine lv_bipush (v := 53) hx hb dX10_notes_75 (by decide) ?_
    refine va_iald hx hb hK hP 2 0 rfl rfl (vin (by decide +kernel)) dX10_notes_77 ?_
    refine tpi (y := x_1) ((show f_10 (53 : Int32).toNatClampNeg = fz1 (53 : Int32).toNatClampNeg from by rw [ef_10]; exact upd_ne (cl_ne (iv_c (53 : Int32) (a := 53) (b := 53) (by decide)) bx_8 (by decide))).trans ex_1.symm) ?_
    refine lv_imul hx hb dX10_notes_78 ?_
    refine tpi (y := x_6) ex_6.symm ?_
    refine lv_iadd hx hb dX10_notes_79 ?_
    refine tpi (y := x_7) ex_7.symm ?_
    refine lv_iload_n hx hb dX10_notes_80 rfl (lv_at hl 0 rfl) ?_
    refine lv_iadd hx hb dX10_notes_81 ?_
    refine lv_topi (fun x_13 ex_13 => ?_)
    have bx_13 : iv 55 118 x_13 := by rw [ex_13]; exact iv_add bx_7 (iv_c (1 : Int32) (a := 1) (b := 1) (by decide)) (by decide)
    refine lv_aload_n hx hb dX10_notes_82 rfl (lv_at hl 1 rfl) ?_
    refine va_get (ci := 10) (v := .ref (z 17)) (C := RX10) (T := TX10) (N := 40) hx hb hg inX10 hown hK hP 1 rfl rfl 17 (by decide) (hg _ q_6_1) (fun _ h9 => h9) rfl dX10_notes_83 ?_
    refine lv_iload_n hx hb dX10_notes_86 rfl (lv_at hl 0 rfl) ?_
    refine va_iald hx hb hK hP 0 0 rfl rfl (vin (by decide +kernel)) dX10_notes_87 ?_
    refine lv_topi (fun x_14 ex_14 => ?_)
    have bx_14 : iv 0 4 x_14 := by rw [ex_14]; exact rdT (a := 1) (n := 1) tfz17 (iv_c (1 : Int32) (a := 1) (b := 1) (by decide)) (by decide) (by decide +kernel)
    refine va_iast hx hb hK hP hD hS 2 0 rfl rfl (iv_in bx_13 (by decide)) dX10_notes_88 (fun H locs hP hD hS => ?_)
    obtain ⟨f_15, ef_15, tf_15, hP, hD⟩ : ∃ f_15 : Nat → Int32, f_15 = (upd f_10 (x_13 : Int32).toNatClampNeg x_14) ∧ (ivT tA f_15) ∧ va_P V.1 vwCl [(z 17, aI V 7 fz17), (z 0, .inr (10, mo z pz0_0 pz0_5 pz0_6 pz0_7 pz0_8 pz0_9 pz0_10 pz0_11 pz0_12 pz0_13 pz0_14 pz0_18 pz0_19 pz0_22 pz0_23 pz0_29)), (z 1, aI V 3075 f_15)] H ∧ va_D A [(z 17, aI V 7 fz17), (z 0, .inr (10, mo z pz0_0 pz0_5 pz0_6 pz0_7 pz0_8 pz0_9 pz0_10 pz0_11 pz0_12 pz0_13 pz0_14 pz0_18 pz0_19 pz0_22 pz0_23 pz0_29)), (z 1, aI V 3075 f_15)] := ⟨_, rfl, upT (lo := 0) (hi := 4) (a := 55) (n := 64) tf_10 bx_13 (by decide) bx_14 (by decide +kernel), hP, hD⟩
    refine lv_iinc (v := 2) (lv' := [(1, .int 2), (0, .ref (z 0))]) hx hb dX10_notes_89 hl (k := 0) rfl (by decide +kernel) (by decide) rfl (fun ls hl => ?_)
    refine lv_goto (tgt := 57) hx hb dX10_notes_92 (by decide) ?_
    refine lv_iload_n hx hb dX10_notes_57 rfl (lv_at hl 0 rfl) ?_
    refine lv_bipush (v := 7) hx hb dX10_notes_58 (by decide) ?_
    refine lv_icmp_ge (tgt := 95) hx hb dX10_notes_60 (by decide) (fun c_17 => absurd c_17 (by decide)) (fun _ => ?_)
    refine lv_aload_n hx hb dX10_notes_63 rfl (lv_at hl 1 rfl) ?_
    refine va_get (ci := 10) (v := .ref (z 1)) (C := RX10) (T := TX10) (N := 40) hx hb hg inX10 hown hK hP 1 rfl rfl 1 (by decide) (hg _ q_5_225) (fun _ h9 => h9) rfl dX10_notes_64 ?_
    refine lv_bipush (v := 54) hx hb dX10_notes_67 (by decide) ?_
    refine lv_bipush (v := 7) hx hb dX10_notes_69 (by decide) ?_
    refine lv_aload_n hx hb dX10_notes_71 rfl (lv_at hl 1 rfl) ?_
    refine va_get (ci := 10) (v := .ref (z 1)) (C := RX10) (T := TX10) (N := 40) hx hb hg inX10 hown hK hP 1 rfl rfl 1 (by decide) (hg _ q_5_225) (fun _ h9 => h9) rfl dX10_notes_72 ?_
    refine lv_bipush (v := 53) hx hb dX10_notes_75 (by decide) ?_
    refine va_iald hx hb hK hP 2 0 rfl rfl (vin (by decide +kernel)) dX10_notes_77 ?_
    refine tpi (y := x_1) (((show f_15 (53 : Int32).toNatClampNeg = f_10 (53 : Int32).toNatClampNeg from by rw [ef_15]; exact upd_ne (cl_ne (iv_c (53 : Int32) (a := 53) (b := 53) (by decide)) bx_13 (by decide))).trans (show f_10 (53 : Int32).toNatClampNeg = fz1 (53 : Int32).toNatClampNeg from by rw [ef_10]; exact upd_ne (cl_ne (iv_c (53 : Int32) (a := 53) (b := 53) (by decide)) bx_8 (by decide)))).trans ex_1.symm) ?_
    refine lv_imul hx hb dX10_notes_78 ?_
    refine tpi (y := x_6) ex_6.symm ?_
    refine lv_iadd hx hb dX10_notes_79 ?_
    refine tpi (y := x_7) ex_7.symm ?_
    refine lv_iload_n hx hb dX10_notes_80 rfl (lv_at hl 0 rfl) ?_
    refine lv_iadd hx hb dX10_notes_81 ?_
    refine lv_topi (fun x_18 ex_18 => ?_)
    have bx_18 : iv 56 119 x_18 := by rw [ex_18]; exact iv_add bx_7 (iv_c (2 : Int32) (a := 2) (b := 2) (by decide)) (by decide)
    refine lv_aload_n hx hb dX10_notes_82 rfl (lv_at hl 1 rfl) ?_
    refine va_get (ci := 10) (v := .ref (z 17)) (C := RX10) (T := TX10) (N := 40) hx hb hg inX10 hown hK hP 1 rfl rfl 17 (by decide) (hg _ q_6_1) (fun _ h9 => h9) rfl dX10_notes_83 ?_
    refine lv_iload_n hx hb dX10_notes_86 rfl (lv_at hl 0 rfl) ?_
    refine va_iald hx hb hK hP 0 0 rfl rfl (vin (by decide +kernel)) dX10_notes_87 ?_
    refine lv_topi (fun x_19 ex_19 => ?_)
    have bx_19 : iv 0 4 x_19 := by rw [ex_19]; exact rdT (a := 2) (n := 1) tfz17 (iv_c (2 : Int32) (a := 2) (b := 2) (by decide)) (by decide) (by decide +kernel)
    refine va_iast hx hb hK hP hD hS 2 0 rfl rfl (iv_in bx_18 (by decide)) dX10_notes_88 (fun H locs hP hD hS => ?_)
    obtain ⟨f_20, ef_20, tf_20, hP, hD⟩ : ∃ f_20 : Nat → Int32, f_20 = (upd f_15 (x_18 : Int32).toNatClampNeg x_19) ∧ (ivT tA f_20) ∧ va_P V.1 vwCl [(z 17, aI V 7 fz17), (z 0, .inr (10, mo z pz0_0 pz0_5 pz0_6 pz0_7 pz0_8 pz0_9 pz0_10 pz0_11 pz0_12 pz0_13 pz0_14 pz0_18 pz0_19 pz0_22 pz0_23 pz0_29)), (z 1, aI V 3075 f_20)] H ∧ va_D A [(z 17, aI V 7 fz17), (z 0, .inr (10, mo z pz0_0 pz0_5 pz0_6 pz0_7 pz0_8 pz0_9 pz0_10 pz0_11 pz0_12 pz0_13 pz0_14 pz0_18 pz0_19 pz0_22 pz0_23 pz0_29)), (z 1, aI V 3075 f_20)] := ⟨_, rfl, upT (lo := 0) (hi := 4) (a := 56) (n := 64) tf_15 bx_18 (by decide) bx_19 (by decide +kernel), hP, hD⟩
    refine lv_iinc (v := 3) (lv' := [(1, .int 3), (0, .ref (z 0))]) hx hb dX10_notes_89 hl (k := 0) rfl (by decide +kernel) (by decide) rfl (fun ls hl => ?_)
    refine lv_goto (tgt := 57) hx hb dX10_notes_92 (by decide) ?_
    refine lv_iload_n hx hb dX10_notes_57 rfl (lv_at hl 0 rfl) ?_
    refine lv_bipush (v := 7) hx hb dX10_notes_58 (by decide) ?_
    refine lv_icmp_ge (tgt := 95) hx hb dX10_notes_60 (by decide) (fun c_22 => absurd c_22 (by decide)) (fun _ => ?_)
    refine lv_aload_n hx hb dX10_notes_63 rfl (lv_at hl 1 rfl) ?_
    refine va_get (ci := 10) (v := .ref (z 1)) (C := RX10) (T := TX10) (N := 40) hx hb hg inX10 hown hK hP 1 rfl rfl 1 (by decide) (hg _ q_5_225) (fun _ h9 => h9) rfl dX10_notes_64 ?_
    refine lv_bipush (v := 54) hx hb dX10_notes_67 (by decide) ?_
    refine lv_bipush (v := 7) hx hb dX10_notes_69 (by decide) ?_
    refine lv_aload_n hx hb dX10_notes_71 rfl (lv_at hl 1 rfl) ?_
    refine va_get (ci := 10) (v := .ref (z 1)) (C := RX10) (T := TX10) (N := 40) hx hb hg inX10 hown hK hP 1 rfl rfl 1 (by decide) (hg _ q_5_225) (fun _ h9 => h9) rfl dX10_notes_72 ?_
    refine lv_bipush (v := 53) hx hb dX10_notes_75 (by decide) ?_
    refine va_iald hx hb hK hP 2 0 rfl rfl (vin (by decide +kernel)) dX10_notes_77 ?_
    refine tpi (y := x_1) ((((show f_20 (53 : Int32).toNatClampNeg = f_15 (53 : Int32).toNatClampNeg from by rw [ef_20]; exact upd_ne (cl_ne (iv_c (53 : Int32) (a := 53) (b := 53) (by decide)) bx_18 (by decide))).trans (show f_15 (53 : Int32).toNatClampNeg = f_10 (53 : Int32).toNatClampNeg from by rw [ef_15]; exact upd_ne (cl_ne (iv_c (53 : Int32) (a := 53) (b := 53) (by decide)) bx_13 (by decide)))).trans (show f_10 (53 : Int32).toNatClampNeg = fz1 (53 : Int32).toNatClampNeg from by rw [ef_10]; exact upd_ne (cl_ne (iv_c (53 : Int32) (a := 53) (b := 53) (by decide)) bx_8 (by decide)))).trans ex_1.symm) ?_
    refine lv_imul hx hb dX10_notes_78 ?_
    refine tpi (y := x_6) ex_6.symm ?_
    refine lv_iadd hx hb dX10_notes_79 ?_
    refine tpi (y := x_7) ex_7.symm ?_
    refine lv_iload_n hx hb dX10_notes_80 rfl (lv_at hl 0 rfl) ?_
    refine lv_iadd hx hb dX10_notes_81 ?_
    refine lv_topi (fun x_23 ex_23 => ?_)
    have bx_23 : iv 57 120 x_23 := by rw [ex_23]; exact iv_add bx_7 (iv_c (3 : Int32) (a := 3) (b := 3) (by decide)) (by decide)
    refine lv_aload_n hx hb dX10_notes_82 rfl (lv_at hl 1 rfl) ?_
    refine va_get (ci := 10) (v := .ref (z 17)) (C := RX10) (T := TX10) (N := 40) hx hb hg inX10 hown hK hP 1 rfl rfl 17 (by decide) (hg _ q_6_1) (fun _ h9 => h9) rfl dX10_notes_83 ?_
    refine lv_iload_n hx hb dX10_notes_86 rfl (lv_at hl 0 rfl) ?_
    refine va_iald hx hb hK hP 0 0 rfl rfl (vin (by decide +kernel)) dX10_notes_87 ?_
    refine lv_topi (fun x_24 ex_24 => ?_)
    have bx_24 : iv 0 4 x_24 := by rw [ex_24]; exact rdT (a := 3) (n := 1) tfz17 (iv_c (3 : Int32) (a := 3) (b := 3) (by decide)) (by decide) (by decide +kernel)
    refine va_iast hx hb hK hP hD hS 2 0 rfl rfl (iv_in bx_23 (by decide)) dX10_notes_88 (fun H locs hP hD hS => ?_)
    obtain ⟨f_25, ef_25, tf_25, hP, hD⟩ : ∃ f_25 : Nat → Int32, f_25 = (upd f_20 (x_23 : Int32).toNatClampNeg x_24) ∧ (ivT tA f_25) ∧ va_P V.1 vwCl [(z 17, aI V 7 fz17), (z 0, .inr (10, mo z pz0_0 pz0_5 pz0_6 pz0_7 pz0_8 pz0_9 pz0_10 pz0_11 pz0_12 pz0_13 pz0_14 pz0_18 pz0_19 pz0_22 pz0_23 pz0_29)), (z 1, aI V 3075 f_25)] H ∧ va_D A [(z 17, aI V 7 fz17), (z 0, .inr (10, mo z pz0_0 pz0_5 pz0_6 pz0_7 pz0_8 pz0_9 pz0_10 pz0_11 pz0_12 pz0_13 pz0_14 pz0_18 pz0_19 pz0_22 pz0_23 pz0_29)), (z 1, aI V 3075 f_25)] := ⟨_, rfl, upT (lo := 0) (hi := 4) (a := 57) (n := 64) tf_20 bx_23 (by decide) bx_24 (by decide +kernel), hP, hD⟩
    refine lv_iinc (v := 4) (lv' := [(1, .int 4), (0, .ref (z 0))]) hx hb dX10_notes_89 hl (k := 0) rfl (by decide +kernel) (by decide) rfl (fun ls hl => ?_)
    refine lv_goto (tgt := 57) hx hb dX10_notes_92 (by decide) ?_
    refine lv_iload_n hx hb dX10_notes_57 rfl (lv_at hl 0 rfl) ?_
    refine lv_bipush (v := 7) hx hb dX10_notes_58 (by decide) ?_
    refine lv_icmp_ge (tgt := 95) hx hb dX10_notes_60 (by decide) (fun c_27 => absurd c_27 (by decide)) (fun _ => ?_)
    refine lv_aload_n hx hb dX10_notes_63 rfl (lv_at hl 1 rfl) ?_
    refine va_get (ci := 10) (v := .ref (z 1)) (C := RX10) (T := TX10) (N := 40) hx hb hg inX10 hown hK hP 1 rfl rfl 1 (by decide) (hg _ q_5_225) (fun _ h9 => h9) rfl dX10_notes_64 ?_
    refine lv_bipush (v := 54) hx hb dX10_notes_67 (by decide) ?_
    refine lv_bipush (v := 7) hx hb dX10_notes_69 (by decide) ?_
    refine lv_aload_n hx hb dX10_notes_71 rfl (lv_at hl 1 rfl) ?_
    refine va_get (ci := 10) (v := .ref (z 1)) (C := RX10) (T := TX10) (N := 40) hx hb hg inX10 hown hK hP 1 rfl rfl 1 (by decide) (hg _ q_5_225) (fun _ h9 => h9) rfl dX10_notes_72 ?_
    refine lv_bipush (v := 53) hx hb dX10_notes_75 (by decide) ?_
    refine va_iald hx hb hK hP 2 0 rfl rfl (vin (by decide +kernel)) dX10_notes_77 ?_
    refine tpi (y := x_1) (((((show f_25 (53 : Int32).toNatClampNeg = f_20 (53 : Int32).toNatClampNeg from by rw [ef_25]; exact upd_ne (cl_ne (iv_c (53 : Int32) (a := 53) (b := 53) (by decide)) bx_23 (by decide))).trans (show f_20 (53 : Int32).toNatClampNeg = f_15 (53 : Int32).toNatClampNeg from by rw [ef_20]; exact upd_ne (cl_ne (iv_c (53 : Int32) (a := 53) (b := 53) (by decide)) bx_18 (by decide)))).trans (show f_15 (53 : Int32).toNatClampNeg = f_10 (53 : Int32).toNatClampNeg from by rw [ef_15]; exact upd_ne (cl_ne (iv_c (53 : Int32) (a := 53) (b := 53) (by decide)) bx_13 (by decide)))).trans (show f_10 (53 : Int32).toNatClampNeg = fz1 (53 : Int32).toNatClampNeg from by rw [ef_10]; exact upd_ne (cl_ne (iv_c (53 : Int32) (a := 53) (b := 53) (by decide)) bx_8 (by decide)))).trans ex_1.symm) ?_
    refine lv_imul hx hb dX10_notes_78 ?_
    refine tpi (y := x_6) ex_6.symm ?_
    refine lv_iadd hx hb dX10_notes_79 ?_
    refine tpi (y := x_7) ex_7.symm ?_
    refine lv_iload_n hx hb dX10_notes_80 rfl (lv_at hl 0 rfl) ?_
    refine lv_iadd hx hb dX10_notes_81 ?_
    refine lv_topi (fun x_28 ex_28 => ?_)
    have bx_28 : iv 58 121 x_28 := by rw [ex_28]; exact iv_add bx_7 (iv_c (4 : Int32) (a := 4) (b := 4) (by decide)) (by decide)
    refine lv_aload_n hx hb dX10_notes_82 rfl (lv_at hl 1 rfl) ?_
    refine va_get (ci := 10) (v := .ref (z 17)) (C := RX10) (T := TX10) (N := 40) hx hb hg inX10 hown hK hP 1 rfl rfl 17 (by decide) (hg _ q_6_1) (fun _ h9 => h9) rfl dX10_notes_83 ?_
    refine lv_iload_n hx hb dX10_notes_86 rfl (lv_at hl 0 rfl) ?_
    refine va_iald hx hb hK hP 0 0 rfl rfl (vin (by decide +kernel)) dX10_notes_87 ?_
    refine lv_topi (fun x_29 ex_29 => ?_)
    have bx_29 : iv 0 15 x_29 := by rw [ex_29]; exact rdT (a := 4) (n := 1) tfz17 (iv_c (4 : Int32) (a := 4) (b := 4) (by decide)) (by decide) (by decide +kernel)
    refine va_iast hx hb hK hP hD hS 2 0 rfl rfl (iv_in bx_28 (by decide)) dX10_notes_88 (fun H locs hP hD hS => ?_)
    obtain ⟨f_30, ef_30, tf_30, hP, hD⟩ : ∃ f_30 : Nat → Int32, f_30 = (upd f_25 (x_28 : Int32).toNatClampNeg x_29) ∧ (ivT tA f_30) ∧ va_P V.1 vwCl [(z 17, aI V 7 fz17), (z 0, .inr (10, mo z pz0_0 pz0_5 pz0_6 pz0_7 pz0_8 pz0_9 pz0_10 pz0_11 pz0_12 pz0_13 pz0_14 pz0_18 pz0_19 pz0_22 pz0_23 pz0_29)), (z 1, aI V 3075 f_30)] H ∧ va_D A [(z 17, aI V 7 fz17), (z 0, .inr (10, mo z pz0_0 pz0_5 pz0_6 pz0_7 pz0_8 pz0_9 pz0_10 pz0_11 pz0_12 pz0_13 pz0_14 pz0_18 pz0_19 pz0_22 pz0_23 pz0_29)), (z 1, aI V 3075 f_30)] := ⟨_, rfl, (by have q_x_6 := toInt_mulC (k := 7) ex_6 b_3 (by decide) (by decide); have q_x_7 := toInt_add ex_7 (iv_c (54 : Int32) (a := 54) (b := 54) (by decide)) bx_6 (by decide); have k_x_7 : (54 : Int32).toInt = 54 := (by decide); have q_x_28 := toInt_add ex_28 bx_7 (iv_c (4 : Int32) (a := 4) (b := 4) (by decide)) (by decide); have k_x_28 : (4 : Int32).toInt = 4 := (by decide); exact upS (lo := 0) (hi := 15) (c := 58) (k := 7) (a := 0) (n := 10) tf_25 (show _ = 58 + 7 * (x_1 : Int32).toInt by omega) b_3 (by decide) bx_29 (by decide +kernel)), hP, hD⟩
    refine lv_iinc (v := 5) (lv' := [(1, .int 5), (0, .ref (z 0))]) hx hb dX10_notes_89 hl (k := 0) rfl (by decide +kernel) (by decide) rfl (fun ls hl => ?_)
    refine lv_goto (tgt := 57) hx hb dX10_notes_92 (by decide) ?_
    refine lv_iload_n hx hb dX10_notes_57 rfl (lv_at hl 0 rfl) ?_
    refine lv_bipush (v := 7) hx hb dX10_notes_58 (by decide) ?_
    refine lv_icmp_ge (tgt := 95) hx hb dX10_notes_60 (by decide) (fun c_32 => absurd c_32 (by decide)) (fun _ => ?_)
    refine lv_aload_n hx hb dX10_notes_63 rfl (lv_at hl 1 rfl) ?_
    refine va_get (ci := 10) (v := .ref (z 1)) (C := RX10) (T := TX10) (N := 40) hx hb hg inX10 hown hK hP 1 rfl rfl 1 (by decide) (hg _ q_5_225) (fun _ h9 => h9) rfl dX10_notes_64 ?_
    refine lv_bipush (v := 54) hx hb dX10_notes_67 (by decide) ?_
    refine lv_bipush (v := 7) hx hb dX10_notes_69 (by decide) ?_
    refine lv_aload_n hx hb dX10_notes_71 rfl (lv_at hl 1 rfl) ?_
    refine va_get (ci := 10) (v := .ref (z 1)) (C := RX10) (T := TX10) (N := 40) hx hb hg inX10 hown hK hP 1 rfl rfl 1 (by decide) (hg _ q_5_225) (fun _ h9 => h9) rfl dX10_notes_72 ?_
    refine lv_bipush (v := 53) hx hb dX10_notes_75 (by decide) ?_
    refine va_iald hx hb hK hP 2 0 rfl rfl (vin (by decide +kernel)) dX10_notes_77 ?_
    refine tpi (y := x_1) ((((((show f_30 (53 : Int32).toNatClampNeg = f_25 (53 : Int32).toNatClampNeg from by rw [ef_30]; exact upd_ne (cl_ne (iv_c (53 : Int32) (a := 53) (b := 53) (by decide)) bx_28 (by decide))).trans (show f_25 (53 : Int32).toNatClampNeg = f_20 (53 : Int32).toNatClampNeg from by rw [ef_25]; exact upd_ne (cl_ne (iv_c (53 : Int32) (a := 53) (b := 53) (by decide)) bx_23 (by decide)))).trans (show f_20 (53 : Int32).toNatClampNeg = f_15 (53 : Int32).toNatClampNeg from by rw [ef_20]; exact upd_ne (cl_ne (iv_c (53 : Int32) (a := 53) (b := 53) (by decide)) bx_18 (by decide)))).trans (show f_15 (53 : Int32).toNatClampNeg = f_10 (53 : Int32).toNatClampNeg from by rw [ef_15]; exact upd_ne (cl_ne (iv_c (53 : Int32) (a := 53) (b := 53) (by decide)) bx_13 (by decide)))).trans (show f_10 (53 : Int32).toNatClampNeg = fz1 (53 : Int32).toNatClampNeg from by rw [ef_10]; exact upd_ne (cl_ne (iv_c (53 : Int32) (a := 53) (b := 53) (by decide)) bx_8 (by decide)))).trans ex_1.symm) ?_
    refine lv_imul hx hb dX10_notes_78 ?_
    refine tpi (y := x_6) ex_6.symm ?_
    refine lv_iadd hx hb dX10_notes_79 ?_
    refine tpi (y := x_7) ex_7.symm ?_
    refine lv_iload_n hx hb dX10_notes_80 rfl (lv_at hl 0 rfl) ?_
    refine lv_iadd hx hb dX10_notes_81 ?_
    refine lv_topi (fun x_33 ex_33 => ?_)
    have bx_33 : iv 59 122 x_33 := by rw [ex_33]; exact iv_add bx_7 (iv_c (5 : Int32) (a := 5) (b := 5) (by decide)) (by decide)
    refine lv_aload_n hx hb dX10_notes_82 rfl (lv_at hl 1 rfl) ?_
    refine va_get (ci := 10) (v := .ref (z 17)) (C := RX10) (T := TX10) (N := 40) hx hb hg inX10 hown hK hP 1 rfl rfl 17 (by decide) (hg _ q_6_1) (fun _ h9 => h9) rfl dX10_notes_83 ?_
    refine lv_iload_n hx hb dX10_notes_86 rfl (lv_at hl 0 rfl) ?_
    refine va_iald hx hb hK hP 0 0 rfl rfl (vin (by decide +kernel)) dX10_notes_87 ?_
    refine lv_topi (fun x_34 ex_34 => ?_)
    have bx_34 : iv 0 9 x_34 := by rw [ex_34]; exact rdT (a := 5) (n := 1) tfz17 (iv_c (5 : Int32) (a := 5) (b := 5) (by decide)) (by decide) (by decide +kernel)
    refine va_iast hx hb hK hP hD hS 2 0 rfl rfl (iv_in bx_33 (by decide)) dX10_notes_88 (fun H locs hP hD hS => ?_)
    obtain ⟨f_35, ef_35, tf_35, hP, hD⟩ : ∃ f_35 : Nat → Int32, f_35 = (upd f_30 (x_33 : Int32).toNatClampNeg x_34) ∧ (ivT tA f_35) ∧ va_P V.1 vwCl [(z 17, aI V 7 fz17), (z 0, .inr (10, mo z pz0_0 pz0_5 pz0_6 pz0_7 pz0_8 pz0_9 pz0_10 pz0_11 pz0_12 pz0_13 pz0_14 pz0_18 pz0_19 pz0_22 pz0_23 pz0_29)), (z 1, aI V 3075 f_35)] H ∧ va_D A [(z 17, aI V 7 fz17), (z 0, .inr (10, mo z pz0_0 pz0_5 pz0_6 pz0_7 pz0_8 pz0_9 pz0_10 pz0_11 pz0_12 pz0_13 pz0_14 pz0_18 pz0_19 pz0_22 pz0_23 pz0_29)), (z 1, aI V 3075 f_35)] := ⟨_, rfl, (by have q_x_6 := toInt_mulC (k := 7) ex_6 b_3 (by decide) (by decide); have q_x_7 := toInt_add ex_7 (iv_c (54 : Int32) (a := 54) (b := 54) (by decide)) bx_6 (by decide); have k_x_7 : (54 : Int32).toInt = 54 := (by decide); have q_x_33 := toInt_add ex_33 bx_7 (iv_c (5 : Int32) (a := 5) (b := 5) (by decide)) (by decide); have k_x_33 : (5 : Int32).toInt = 5 := (by decide); exact upS (lo := 0) (hi := 9) (c := 59) (k := 7) (a := 0) (n := 10) tf_30 (show _ = 59 + 7 * (x_1 : Int32).toInt by omega) b_3 (by decide) bx_34 (by decide +kernel)), hP, hD⟩
    refine lv_iinc (v := 6) (lv' := [(1, .int 6), (0, .ref (z 0))]) hx hb dX10_notes_89 hl (k := 0) rfl (by decide +kernel) (by decide) rfl (fun ls hl => ?_)
    refine lv_goto (tgt := 57) hx hb dX10_notes_92 (by decide) ?_
    refine lv_iload_n hx hb dX10_notes_57 rfl (lv_at hl 0 rfl) ?_
    refine lv_bipush (v := 7) hx hb dX10_notes_58 (by decide) ?_
    refine lv_icmp_ge (tgt := 95) hx hb dX10_notes_60 (by decide) (fun c_37 => absurd c_37 (by decide)) (fun _ => ?_)
    refine lv_aload_n hx hb dX10_notes_63 rfl (lv_at hl 1 rfl) ?_
    refine va_get (ci := 10) (v := .ref (z 1)) (C := RX10) (T := TX10) (N := 40) hx hb hg inX10 hown hK hP 1 rfl rfl 1 (by decide) (hg _ q_5_225) (fun _ h9 => h9) rfl dX10_notes_64 ?_
    refine lv_bipush (v := 54) hx hb dX10_notes_67 (by decide) ?_
    refine lv_bipush (v := 7) hx hb dX10_notes_69 (by decide) ?_
    refine lv_aload_n hx hb dX10_notes_71 rfl (lv_at hl 1 rfl) ?_
    refine va_get (ci := 10) (v := .ref (z 1)) (C := RX10) (T := TX10) (N := 40) hx hb hg inX10 hown hK hP 1 rfl rfl 1 (by decide) (hg _ q_5_225) (fun _ h9 => h9) rfl dX10_notes_72 ?_
    refine lv_bipush (v := 53) hx hb dX10_notes_75 (by decide) ?_
    refine va_iald hx hb hK hP 2 0 rfl rfl (vin (by decide +kernel)) dX10_notes_77 ?_
    refine tpi (y := x_1) (((((((show f_35 (53 : Int32).toNatClampNeg = f_30 (53 : Int32).toNatClampNeg from by rw [ef_35]; exact upd_ne (cl_ne (iv_c (53 : Int32) (a := 53) (b := 53) (by decide)) bx_33 (by decide))).trans (show f_30 (53 : Int32).toNatClampNeg = f_25 (53 : Int32).toNatClampNeg from by rw [ef_30]; exact upd_ne (cl_ne (iv_c (53 : Int32) (a := 53) (b := 53) (by decide)) bx_28 (by decide)))).trans (show f_25 (53 : Int32).toNatClampNeg = f_20 (53 : Int32).toNatClampNeg from by rw [ef_25]; exact upd_ne (cl_ne (iv_c (53 : Int32) (a := 53) (b := 53) (by decide)) bx_23 (by decide)))).trans (show f_20 (53 : Int32).toNatClampNeg = f_15 (53 : Int32).toNatClampNeg from by rw [ef_20]; exact upd_ne (cl_ne (iv_c (53 : Int32) (a := 53) (b := 53) (by decide)) bx_18 (by decide)))).trans (show f_15 (53 : Int32).toNatClampNeg = f_10 (53 : Int32).toNatClampNeg from by rw [ef_15]; exact upd_ne (cl_ne (iv_c (53 : Int32) (a := 53) (b := 53) (by decide)) bx_13 (by decide)))).trans (show f_10 (53 : Int32).toNatClampNeg = fz1 (53 : Int32).toNatClampNeg from by rw [ef_10]; exact upd_ne (cl_ne (iv_c (53 : Int32) (a := 53) (b := 53) (by decide)) bx_8 (by decide)))).trans ex_1.symm) ?_
    refine lv_imul hx hb dX10_notes_78 ?_
    refine tpi (y := x_6) ex_6.symm ?_
    refine lv_iadd hx hb dX10_notes_79 ?_
    refine tpi (y := x_7) ex_7.symm ?_
    refine lv_iload_n hx hb dX10_notes_80 rfl (lv_at hl 0 rfl) ?_
    refine lv_iadd hx hb dX10_notes_81 ?_
    refine lv_topi (fun x_38 ex_38 => ?_)
    have bx_38 : iv 60 123 x_38 := by rw [ex_38]; exact iv_add bx_7 (iv_c (6 : Int32) (a := 6) (b := 6) (by decide)) (by decide)
    refine lv_aload_n hx hb dX10_notes_82 rfl (lv_at hl 1 rfl) ?_
    refine va_get (ci := 10) (v := .ref (z 17)) (C := RX10) (T := TX10) (N := 40) hx hb hg inX10 hown hK hP 1 rfl rfl 17 (by decide) (hg _ q_6_1) (fun _ h9 => h9) rfl dX10_notes_83 ?_
    refine lv_iload_n hx hb dX10_notes_86 rfl (lv_at hl 0 rfl) ?_
    refine va_iald hx hb hK hP 0 0 rfl rfl (vin (by decide +kernel)) dX10_notes_87 ?_
    refine lv_topi (fun x_39 ex_39 => ?_)
    refine va_iast hx hb hK hP hD hS 2 0 rfl rfl (iv_in bx_38 (by decide)) dX10_notes_88 (fun H locs hP hD hS => ?_)
    obtain ⟨f_40, ef_40, tf_40, hP, hD⟩ : ∃ f_40 : Nat → Int32, f_40 = (upd f_35 (x_38 : Int32).toNatClampNeg x_39) ∧ (ivT tA f_40) ∧ va_P V.1 vwCl [(z 17, aI V 7 fz17), (z 0, .inr (10, mo z pz0_0 pz0_5 pz0_6 pz0_7 pz0_8 pz0_9 pz0_10 pz0_11 pz0_12 pz0_13 pz0_14 pz0_18 pz0_19 pz0_22 pz0_23 pz0_29)), (z 1, aI V 3075 f_40)] H ∧ va_D A [(z 17, aI V 7 fz17), (z 0, .inr (10, mo z pz0_0 pz0_5 pz0_6 pz0_7 pz0_8 pz0_9 pz0_10 pz0_11 pz0_12 pz0_13 pz0_14 pz0_18 pz0_19 pz0_22 pz0_23 pz0_29)), (z 1, aI V 3075 f_40)] := ⟨_, rfl, (by have q_x_6 := toInt_mulC (k := 7) ex_6 b_3 (by decide) (by decide); have q_x_7 := toInt_add ex_7 (iv_c (54 : Int32) (a := 54) (b := 54) (by decide)) bx_6 (by decide); have k_x_7 : (54 : Int32).toInt = 54 := (by decide); have q_x_38 := toInt_add ex_38 bx_7 (iv_c (6 : Int32) (a := 6) (b := 6) (by decide)) (by decide); have k_x_38 : (6 : Int32).toInt = 6 := (by decide); exact upS (lo := (-2147483648)) (hi := 2147483647) (c := 60) (k := 7) (a := 0) (n := 10) tf_35 (show _ = 60 + 7 * (x_1 : Int32).toInt by omega) b_3 (by decide) (iv_top x_39) (by decide +kernel)), hP, hD⟩
    refine lv_iinc (v := 7) (lv' := [(1, .int 7), (0, .ref (z 0))]) hx hb dX10_notes_89 hl (k := 0) rfl (by decide +kernel) (by decide) rfl (fun ls hl => ?_)
    refine lv_goto (tgt := 57) hx hb dX10_notes_92 (by decide) ?_
    refine lv_iload_n hx hb dX10_notes_57 rfl (lv_at hl 0 rfl) ?_
    refine lv_bipush (v := 7) hx hb dX10_notes_58 (by decide) ?_
    refine lv_icmp_ge (tgt := 95) hx hb dX10_notes_60 (by decide) (fun _ => ?_) (fun c_42 => absurd c_42 (by decide))
    refine lv_aload_n hx hb dX10_notes_95 rfl (lv_at hl 1 rfl) ?_
    refine va_get (ci := 10) (v := .ref (z 1)) (C := RX10) (T := TX10) (N := 40) hx hb hg inX10 hown hK hP 1 rfl rfl 1 (by decide) (hg _ q_5_225) (fun _ h9 => h9) rfl dX10_notes_96 ?_
    refine lv_bipush (v := 53) hx hb dX10_notes_99 (by decide) ?_
    refine lv_dup2_11 hx hb dX10_notes_101 rfl rfl ?_
    refine va_iald hx hb hK hP 2 0 rfl rfl (vin (by decide +kernel)) dX10_notes_102 ?_
    refine tpi (y := x_1) ((((((((show f_40 (53 : Int32).toNatClampNeg = f_35 (53 : Int32).toNatClampNeg from by rw [ef_40]; exact upd_ne (cl_ne (iv_c (53 : Int32) (a := 53) (b := 53) (by decide)) bx_38 (by decide))).trans (show f_35 (53 : Int32).toNatClampNeg = f_30 (53 : Int32).toNatClampNeg from by rw [ef_35]; exact upd_ne (cl_ne (iv_c (53 : Int32) (a := 53) (b := 53) (by decide)) bx_33 (by decide)))).trans (show f_30 (53 : Int32).toNatClampNeg = f_25 (53 : Int32).toNatClampNeg from by rw [ef_30]; exact upd_ne (cl_ne (iv_c (53 : Int32) (a := 53) (b := 53) (by decide)) bx_28 (by decide)))).trans (show f_25 (53 : Int32).toNatClampNeg = f_20 (53 : Int32).toNatClampNeg from by rw [ef_25]; exact upd_ne (cl_ne (iv_c (53 : Int32) (a := 53) (b := 53) (by decide)) bx_23 (by decide)))).trans (show f_20 (53 : Int32).toNatClampNeg = f_15 (53 : Int32).toNatClampNeg from by rw [ef_20]; exact upd_ne (cl_ne (iv_c (53 : Int32) (a := 53) (b := 53) (by decide)) bx_18 (by decide)))).trans (show f_15 (53 : Int32).toNatClampNeg = f_10 (53 : Int32).toNatClampNeg from by rw [ef_15]; exact upd_ne (cl_ne (iv_c (53 : Int32) (a := 53) (b := 53) (by decide)) bx_13 (by decide)))).trans (show f_10 (53 : Int32).toNatClampNeg = fz1 (53 : Int32).toNatClampNeg from by rw [ef_10]; exact upd_ne (cl_ne (iv_c (53 : Int32) (a := 53) (b := 53) (by decide)) bx_8 (by decide)))).trans ex_1.symm) ?_
    refine lv_iconst (v := 1) hx hb dX10_notes_103 (by decide) ?_
    refine lv_iadd hx hb dX10_notes_104 ?_
    refine lv_topi (fun x_43 ex_43 => ?_)
    have bx_43 : iv 1 10 x_43 := by rw [ex_43]; exact iv_add b_3 (iv_c (1 : Int32) (a := 1) (b := 1) (by decide)) (by decide)
    refine va_iast hx hb hK hP hD hS 2 0 rfl rfl (vin (by decide +kernel)) dX10_notes_105 (fun H locs hP hD hS => ?_)
    obtain ⟨f_44, ef_44, tf_44, hP, hD⟩ : ∃ f_44 : Nat → Int32, f_44 = (upd f_40 (53 : Int32).toNatClampNeg x_43) ∧ (ivT tA f_44) ∧ va_P V.1 vwCl [(z 17, aI V 7 fz17), (z 0, .inr (10, mo z pz0_0 pz0_5 pz0_6 pz0_7 pz0_8 pz0_9 pz0_10 pz0_11 pz0_12 pz0_13 pz0_14 pz0_18 pz0_19 pz0_22 pz0_23 pz0_29)), (z 1, aI V 3075 f_44)] H ∧ va_D A [(z 17, aI V 7 fz17), (z 0, .inr (10, mo z pz0_0 pz0_5 pz0_6 pz0_7 pz0_8 pz0_9 pz0_10 pz0_11 pz0_12 pz0_13 pz0_14 pz0_18 pz0_19 pz0_22 pz0_23 pz0_29)), (z 1, aI V 3075 f_44)] := ⟨_, rfl, upT (lo := 0) (hi := 10) (a := 53) (n := 1) tf_40 (iv_c (53 : Int32) (a := 53) (b := 53) (by decide)) (by decide) (iv_w bx_43 (by decide)) (by decide +kernel), hP, hD⟩
    exact fiV hx hb hr hlk hK hP hD hS dX10_notes_106 (Nat.le_of_ble_eq_true rfl) (Nat.le_of_ble_eq_true rfl) (⟨f_44, tf_44, (RW_up (RW_up (RW_up (RW_up (RW_up (RW_up (RW_up (RW_up hf0 bx_8 (by decide) ef_10) bx_13 (by decide) ef_15) bx_18 (by decide) ef_20) bx_23 (by decide) ef_25) bx_28 (by decide) ef_30) bx_33 (by decide) ef_35) bx_38 (by decide) ef_40) (iv_c (53 : Int32) (a := 53) (b := 53) (by decide)) (by decide) ef_44), rfl⟩)
  · have b_45 : iv 10 10 x_1 := iv_q c_2 (iv_c (10 : Int32) (a := 10) (b := 10) (by decide))
    refine lv_iconst (v := 0) hx hb dX10_notes_12 (by decide) ?_
    refine lv_istore_n (lv' := [(1, .int 0), (0, .ref (z 0))]) hx hb dX10_notes_13 rfl hl (by decide) rfl (fun ls hl => ?_)
    refine loopF (X := fun (n_48 : Nat) (H : Heap) (locs : List Loc) (ls : Array Slot) => ∃ (u_46 : Int32) (f_47 : Nat → Int32), (iv 0 2147483647 u_46) ∧ (ivT tA f_47) ∧ (f_47 (53 : Int32).toNatClampNeg = 10) ∧ (RW f_47) ∧ n_48 = (2147483647 - (u_46 : Int32).toInt).toNat ∧ va_P V.1 vwCl [(z 17, aI V 7 fz17), (z 0, .inr (10, mo z pz0_0 pz0_5 pz0_6 pz0_7 pz0_8 pz0_9 pz0_10 pz0_11 pz0_12 pz0_13 pz0_14 pz0_18 pz0_19 pz0_22 pz0_23 pz0_29)), (z 1, aI V 3075 f_47)] H ∧ va_D A [(z 17, aI V 7 fz17), (z 0, .inr (10, mo z pz0_0 pz0_5 pz0_6 pz0_7 pz0_8 pz0_9 pz0_10 pz0_11 pz0_12 pz0_13 pz0_14 pz0_18 pz0_19 pz0_22 pz0_23 pz0_29)), (z 1, aI V 3075 f_47)] ∧ va_S A s.heap H locs ∧ lv_has ls 2 [(1, .int u_46), (0, .ref (z 0))]) (g := fun ls => F0 m 14 ls []) (fun n_48 H locs ls hX ihn_48 => ?_) _ ⟨0, fz1, (iv_c (0 : Int32) (by decide)), tfz1, (ex_1.symm.trans c_2), hf0, rfl, hP, hD, hS, lv_sub hl [0, 1] rfl⟩
    obtain ⟨u_46, f_47, bu_46, tf_47, inn_48_0, inn_48_1, en_48, hP, hD, hS, hl⟩ := hX
    refine lv_iload_n hx hb dX10_notes_14 rfl (lv_at hl 0 rfl) ?_
    refine lv_bipush (v := 63) hx hb dX10_notes_15 (by decide) ?_
    refine lv_icmp_ge (tgt := 44) hx hb dX10_notes_17 (by decide) (fun c_49 => ?_) (fun c_49 => ?_)
    · have b_50 : iv 63 2147483647 u_46 := iv_e2 c_49 (iv_c (63 : Int32) (a := 63) (b := 63) (by decide)) bu_46 (by decide)
      refine lv_aload_n hx hb dX10_notes_44 rfl (lv_at hl 1 rfl) ?_
      refine va_get (ci := 10) (v := .ref (z 1)) (C := RX10) (T := TX10) (N := 40) hx hb hg inX10 hown hK hP 1 rfl rfl 1 (by decide) (hg _ q_5_225) (fun _ h9 => h9) rfl dX10_notes_45 ?_
      refine lv_bipush (v := 53) hx hb dX10_notes_48 (by decide) ?_
      refine lv_dup2_11 hx hb dX10_notes_50 rfl rfl ?_
      refine va_iald hx hb hK hP 2 0 rfl rfl (vin (by decide +kernel)) dX10_notes_51 ?_
      refine lv_topi (fun x_51 ex_51 => ?_)
      have bx_51 : iv 0 10 x_51 := by rw [ex_51]; exact rdT (a := 53) (n := 1) tf_47 (iv_c (53 : Int32) (a := 53) (b := 53) (by decide)) (by decide) (by decide +kernel)
      have b_52 : iv 10 10 x_51 := by rw [ex_51, inn_48_0]; exact iv_c _ (by decide)
      refine lv_iconst (v := 1) hx hb dX10_notes_52 (by decide) ?_
      refine lv_isub hx hb dX10_notes_53 ?_
      refine lv_topi (fun x_53 ex_53 => ?_)
      have bx_53 : iv 9 9 x_53 := by rw [ex_53]; exact iv_sub b_52 (iv_c (1 : Int32) (a := 1) (b := 1) (by decide)) (by decide)
      refine va_iast hx hb hK hP hD hS 2 0 rfl rfl (vin (by decide +kernel)) dX10_notes_54 (fun H locs hP hD hS => ?_)
      obtain ⟨f_54, ef_54, tf_54, hP, hD⟩ : ∃ f_54 : Nat → Int32, f_54 = (upd f_47 (53 : Int32).toNatClampNeg x_53) ∧ (ivT tA f_54) ∧ va_P V.1 vwCl [(z 17, aI V 7 fz17), (z 0, .inr (10, mo z pz0_0 pz0_5 pz0_6 pz0_7 pz0_8 pz0_9 pz0_10 pz0_11 pz0_12 pz0_13 pz0_14 pz0_18 pz0_19 pz0_22 pz0_23 pz0_29)), (z 1, aI V 3075 f_54)] H ∧ va_D A [(z 17, aI V 7 fz17), (z 0, .inr (10, mo z pz0_0 pz0_5 pz0_6 pz0_7 pz0_8 pz0_9 pz0_10 pz0_11 pz0_12 pz0_13 pz0_14 pz0_18 pz0_19 pz0_22 pz0_23 pz0_29)), (z 1, aI V 3075 f_54)] := ⟨_, rfl, upT (lo := 0) (hi := 10) (a := 53) (n := 1) tf_47 (iv_c (53 : Int32) (a := 53) (b := 53) (by decide)) (by decide) (iv_w bx_53 (by decide)) (by decide +kernel), hP, hD⟩
      refine lv_iconst (v := 0) hx hb dX10_notes_55 (by decide) ?_
      refine lv_istore_n (lv' := [(1, .int 0), (0, .ref (z 0))]) hx hb dX10_notes_56 rfl hl (by decide) rfl (fun ls hl => ?_)
      refine lv_iload_n hx hb dX10_notes_57 rfl (lv_at hl 0 rfl) ?_
      refine lv_bipush (v := 7) hx hb dX10_notes_58 (by decide) ?_
      refine lv_icmp_ge (tgt := 95) hx hb dX10_notes_60 (by decide) (fun c_56 => absurd c_56 (by decide)) (fun _ => ?_)
      refine lv_aload_n hx hb dX10_notes_63 rfl (lv_at hl 1 rfl) ?_
      refine va_get (ci := 10) (v := .ref (z 1)) (C := RX10) (T := TX10) (N := 40) hx hb hg inX10 hown hK hP 1 rfl rfl 1 (by decide) (hg _ q_5_225) (fun _ h9 => h9) rfl dX10_notes_64 ?_
      refine lv_bipush (v := 54) hx hb dX10_notes_67 (by decide) ?_
      refine lv_bipush (v := 7) hx hb dX10_notes_69 (by decide) ?_
      refine lv_aload_n hx hb dX10_notes_71 rfl (lv_at hl 1 rfl) ?_
      refine va_get (ci := 10) (v := .ref (z 1)) (C := RX10) (T := TX10) (N := 40) hx hb hg inX10 hown hK hP 1 rfl rfl 1 (by decide) (hg _ q_5_225) (fun _ h9 => h9) rfl dX10_notes_72 ?_
      refine lv_bipush (v := 53) hx hb dX10_notes_75 (by decide) ?_
      refine va_iald hx hb hK hP 2 0 rfl rfl (vin (by decide +kernel)) dX10_notes_77 ?_
      refine tpi (y := x_53) (show f_54 (53 : Int32).toNatClampNeg = x_53 from by rw [ef_54]; exact upd_at) ?_
      refine lv_imul hx hb dX10_notes_78 ?_
      refine lv_topi (fun x_57 ex_57 => ?_)
      have bx_57 : iv 63 63 x_57 := by rw [ex_57]; exact iv_cmul (iv_c (7 : Int32) (a := 7) (b := 7) (by decide)) bx_53 (by decide)
      refine lv_iadd hx hb dX10_notes_79 ?_
      refine lv_topi (fun x_58 ex_58 => ?_)
      have bx_58 : iv 117 117 x_58 := by rw [ex_58]; exact iv_add (iv_c (54 : Int32) (a := 54) (b := 54) (by decide)) bx_57 (by decide)
      refine lv_iload_n hx hb dX10_notes_80 rfl (lv_at hl 0 rfl) ?_
      refine lv_iadd hx hb dX10_notes_81 ?_
      refine lv_topi (fun x_59 ex_59 => ?_)
      have bx_59 : iv 117 117 x_59 := by rw [ex_59]; exact iv_add bx_58 (iv_c (0 : Int32) (a := 0) (b := 0) (by decide)) (by decide)
      refine lv_aload_n hx hb dX10_notes_82 rfl (lv_at hl 1 rfl) ?_
      refine va_get (ci := 10) (v := .ref (z 17)) (C := RX10) (T := TX10) (N := 40) hx hb hg inX10 hown hK hP 1 rfl rfl 17 (by decide) (hg _ q_6_1) (fun _ h9 => h9) rfl dX10_notes_83 ?_
      refine lv_iload_n hx hb dX10_notes_86 rfl (lv_at hl 0 rfl) ?_
      refine va_iald hx hb hK hP 0 0 rfl rfl (vin (by decide +kernel)) dX10_notes_87 ?_
      refine lv_topi (fun x_60 ex_60 => ?_)
      have bx_60 : iv 0 4 x_60 := by rw [ex_60]; exact rdT (a := 0) (n := 1) tfz17 (iv_c (0 : Int32) (a := 0) (b := 0) (by decide)) (by decide) (by decide +kernel)
      refine va_iast hx hb hK hP hD hS 2 0 rfl rfl (iv_in bx_59 (by decide)) dX10_notes_88 (fun H locs hP hD hS => ?_)
      obtain ⟨f_61, ef_61, tf_61, hP, hD⟩ : ∃ f_61 : Nat → Int32, f_61 = (upd f_54 (x_59 : Int32).toNatClampNeg x_60) ∧ (ivT tA f_61) ∧ va_P V.1 vwCl [(z 17, aI V 7 fz17), (z 0, .inr (10, mo z pz0_0 pz0_5 pz0_6 pz0_7 pz0_8 pz0_9 pz0_10 pz0_11 pz0_12 pz0_13 pz0_14 pz0_18 pz0_19 pz0_22 pz0_23 pz0_29)), (z 1, aI V 3075 f_61)] H ∧ va_D A [(z 17, aI V 7 fz17), (z 0, .inr (10, mo z pz0_0 pz0_5 pz0_6 pz0_7 pz0_8 pz0_9 pz0_10 pz0_11 pz0_12 pz0_13 pz0_14 pz0_18 pz0_19 pz0_22 pz0_23 pz0_29)), (z 1, aI V 3075 f_61)] := ⟨_, rfl, upT (lo := 0) (hi := 4) (a := 117) (n := 1) tf_54 bx_59 (by decide) bx_60 (by decide +kernel), hP, hD⟩
      refine lv_iinc (v := 1) (lv' := [(1, .int 1), (0, .ref (z 0))]) hx hb dX10_notes_89 hl (k := 0) rfl (by decide +kernel) (by decide) rfl (fun ls hl => ?_)
      refine lv_goto (tgt := 57) hx hb dX10_notes_92 (by decide) ?_
      refine lv_iload_n hx hb dX10_notes_57 rfl (lv_at hl 0 rfl) ?_
      refine lv_bipush (v := 7) hx hb dX10_notes_58 (by decide) ?_
      refine lv_icmp_ge (tgt := 95) hx hb dX10_notes_60 (by decide) (fun c_63 => absurd c_63 (by decide)) (fun _ => ?_)
      refine lv_aload_n hx hb dX10_notes_63 rfl (lv_at hl 1 rfl) ?_
      refine va_get (ci := 10) (v := .ref (z 1)) (C := RX10) (T := TX10) (N := 40) hx hb hg inX10 hown hK hP 1 rfl rfl 1 (by decide) (hg _ q_5_225) (fun _ h9 => h9) rfl dX10_notes_64 ?_
      refine lv_bipush (v := 54) hx hb dX10_notes_67 (by decide) ?_
      refine lv_bipush (v := 7) hx hb dX10_notes_69 (by decide) ?_
      refine lv_aload_n hx hb dX10_notes_71 rfl (lv_at hl 1 rfl) ?_
      refine va_get (ci := 10) (v := .ref (z 1)) (C := RX10) (T := TX10) (N := 40) hx hb hg inX10 hown hK hP 1 rfl rfl 1 (by decide) (hg _ q_5_225) (fun _ h9 => h9) rfl dX10_notes_72 ?_
      refine lv_bipush (v := 53) hx hb dX10_notes_75 (by decide) ?_
      refine va_iald hx hb hK hP 2 0 rfl rfl (vin (by decide +kernel)) dX10_notes_77 ?_
      refine tpi (y := x_53) ((show f_61 (53 : Int32).toNatClampNeg = f_54 (53 : Int32).toNatClampNeg from by rw [ef_61]; exact upd_ne (cl_ne (iv_c (53 : Int32) (a := 53) (b := 53) (by decide)) bx_59 (by decide))).trans (show f_54 (53 : Int32).toNatClampNeg = x_53 from by rw [ef_54]; exact upd_at)) ?_
      refine lv_imul hx hb dX10_notes_78 ?_
      refine tpi (y := x_57) ex_57.symm ?_
      refine lv_iadd hx hb dX10_notes_79 ?_
      refine tpi (y := x_58) ex_58.symm ?_
      refine lv_iload_n hx hb dX10_notes_80 rfl (lv_at hl 0 rfl) ?_
      refine lv_iadd hx hb dX10_notes_81 ?_
      refine lv_topi (fun x_64 ex_64 => ?_)
      have bx_64 : iv 118 118 x_64 := by rw [ex_64]; exact iv_add bx_58 (iv_c (1 : Int32) (a := 1) (b := 1) (by decide)) (by decide)
      refine lv_aload_n hx hb dX10_notes_82 rfl (lv_at hl 1 rfl) ?_
      refine va_get (ci := 10) (v := .ref (z 17)) (C := RX10) (T := TX10) (N := 40) hx hb hg inX10 hown hK hP 1 rfl rfl 17 (by decide) (hg _ q_6_1) (fun _ h9 => h9) rfl dX10_notes_83 ?_
      refine lv_iload_n hx hb dX10_notes_86 rfl (lv_at hl 0 rfl) ?_
      refine va_iald hx hb hK hP 0 0 rfl rfl (vin (by decide +kernel)) dX10_notes_87 ?_
      refine lv_topi (fun x_65 ex_65 => ?_)
      have bx_65 : iv 0 4 x_65 := by rw [ex_65]; exact rdT (a := 1) (n := 1) tfz17 (iv_c (1 : Int32) (a := 1) (b := 1) (by decide)) (by decide) (by decide +kernel)
      refine va_iast hx hb hK hP hD hS 2 0 rfl rfl (iv_in bx_64 (by decide)) dX10_notes_88 (fun H locs hP hD hS => ?_)
      obtain ⟨f_66, ef_66, tf_66, hP, hD⟩ : ∃ f_66 : Nat → Int32, f_66 = (upd f_61 (x_64 : Int32).toNatClampNeg x_65) ∧ (ivT tA f_66) ∧ va_P V.1 vwCl [(z 17, aI V 7 fz17), (z 0, .inr (10, mo z pz0_0 pz0_5 pz0_6 pz0_7 pz0_8 pz0_9 pz0_10 pz0_11 pz0_12 pz0_13 pz0_14 pz0_18 pz0_19 pz0_22 pz0_23 pz0_29)), (z 1, aI V 3075 f_66)] H ∧ va_D A [(z 17, aI V 7 fz17), (z 0, .inr (10, mo z pz0_0 pz0_5 pz0_6 pz0_7 pz0_8 pz0_9 pz0_10 pz0_11 pz0_12 pz0_13 pz0_14 pz0_18 pz0_19 pz0_22 pz0_23 pz0_29)), (z 1, aI V 3075 f_66)] := ⟨_, rfl, upT (lo := 0) (hi := 4) (a := 118) (n := 1) tf_61 bx_64 (by decide) bx_65 (by decide +kernel), hP, hD⟩
      refine lv_iinc (v := 2) (lv' := [(1, .int 2), (0, .ref (z 0))]) hx hb dX10_notes_89 hl (k := 0) rfl (by decide +kernel) (by decide) rfl (fun ls hl => ?_)
      refine lv_goto (tgt := 57) hx hb dX10_notes_92 (by decide) ?_
      refine lv_iload_n hx hb dX10_notes_57 rfl (lv_at hl 0 rfl) ?_
      refine lv_bipush (v := 7) hx hb dX10_notes_58 (by decide) ?_
      refine lv_icmp_ge (tgt := 95) hx hb dX10_notes_60 (by decide) (fun c_68 => absurd c_68 (by decide)) (fun _ => ?_)
      refine lv_aload_n hx hb dX10_notes_63 rfl (lv_at hl 1 rfl) ?_
      refine va_get (ci := 10) (v := .ref (z 1)) (C := RX10) (T := TX10) (N := 40) hx hb hg inX10 hown hK hP 1 rfl rfl 1 (by decide) (hg _ q_5_225) (fun _ h9 => h9) rfl dX10_notes_64 ?_
      refine lv_bipush (v := 54) hx hb dX10_notes_67 (by decide) ?_
      refine lv_bipush (v := 7) hx hb dX10_notes_69 (by decide) ?_
      refine lv_aload_n hx hb dX10_notes_71 rfl (lv_at hl 1 rfl) ?_
      refine va_get (ci := 10) (v := .ref (z 1)) (C := RX10) (T := TX10) (N := 40) hx hb hg inX10 hown hK hP 1 rfl rfl 1 (by decide) (hg _ q_5_225) (fun _ h9 => h9) rfl dX10_notes_72 ?_
      refine lv_bipush (v := 53) hx hb dX10_notes_75 (by decide) ?_
      refine va_iald hx hb hK hP 2 0 rfl rfl (vin (by decide +kernel)) dX10_notes_77 ?_
      refine tpi (y := x_53) (((show f_66 (53 : Int32).toNatClampNeg = f_61 (53 : Int32).toNatClampNeg from by rw [ef_66]; exact upd_ne (cl_ne (iv_c (53 : Int32) (a := 53) (b := 53) (by decide)) bx_64 (by decide))).trans (show f_61 (53 : Int32).toNatClampNeg = f_54 (53 : Int32).toNatClampNeg from by rw [ef_61]; exact upd_ne (cl_ne (iv_c (53 : Int32) (a := 53) (b := 53) (by decide)) bx_59 (by decide)))).trans (show f_54 (53 : Int32).toNatClampNeg = x_53 from by rw [ef_54]; exact upd_at)) ?_
      refine lv_imul hx hb dX10_notes_78 ?_
      refine tpi (y := x_57) ex_57.symm ?_
      refine lv_iadd hx hb dX10_notes_79 ?_
      refine tpi (y := x_58) ex_58.symm ?_
      refine lv_iload_n hx hb dX10_notes_80 rfl (lv_at hl 0 rfl) ?_
      refine lv_iadd hx hb dX10_notes_81 ?_
      refine lv_topi (fun x_69 ex_69 => ?_)
      have bx_69 : iv 119 119 x_69 := by rw [ex_69]; exact iv_add bx_58 (iv_c (2 : Int32) (a := 2) (b := 2) (by decide)) (by decide)
      refine lv_aload_n hx hb dX10_notes_82 rfl (lv_at hl 1 rfl) ?_
      refine va_get (ci := 10) (v := .ref (z 17)) (C := RX10) (T := TX10) (N := 40) hx hb hg inX10 hown hK hP 1 rfl rfl 17 (by decide) (hg _ q_6_1) (fun _ h9 => h9) rfl dX10_notes_83 ?_
      refine lv_iload_n hx hb dX10_notes_86 rfl (lv_at hl 0 rfl) ?_
      refine va_iald hx hb hK hP 0 0 rfl rfl (vin (by decide +kernel)) dX10_notes_87 ?_
      refine lv_topi (fun x_70 ex_70 => ?_)
      have bx_70 : iv 0 4 x_70 := by rw [ex_70]; exact rdT (a := 2) (n := 1) tfz17 (iv_c (2 : Int32) (a := 2) (b := 2) (by decide)) (by decide) (by decide +kernel)
      refine va_iast hx hb hK hP hD hS 2 0 rfl rfl (iv_in bx_69 (by decide)) dX10_notes_88 (fun H locs hP hD hS => ?_)
      obtain ⟨f_71, ef_71, tf_71, hP, hD⟩ : ∃ f_71 : Nat → Int32, f_71 = (upd f_66 (x_69 : Int32).toNatClampNeg x_70) ∧ (ivT tA f_71) ∧ va_P V.1 vwCl [(z 17, aI V 7 fz17), (z 0, .inr (10, mo z pz0_0 pz0_5 pz0_6 pz0_7 pz0_8 pz0_9 pz0_10 pz0_11 pz0_12 pz0_13 pz0_14 pz0_18 pz0_19 pz0_22 pz0_23 pz0_29)), (z 1, aI V 3075 f_71)] H ∧ va_D A [(z 17, aI V 7 fz17), (z 0, .inr (10, mo z pz0_0 pz0_5 pz0_6 pz0_7 pz0_8 pz0_9 pz0_10 pz0_11 pz0_12 pz0_13 pz0_14 pz0_18 pz0_19 pz0_22 pz0_23 pz0_29)), (z 1, aI V 3075 f_71)] := ⟨_, rfl, upT (lo := 0) (hi := 4) (a := 119) (n := 1) tf_66 bx_69 (by decide) bx_70 (by decide +kernel), hP, hD⟩
      refine lv_iinc (v := 3) (lv' := [(1, .int 3), (0, .ref (z 0))]) hx hb dX10_notes_89 hl (k := 0) rfl (by decide +kernel) (by decide) rfl (fun ls hl => ?_)
      refine lv_goto (tgt := 57) hx hb dX10_notes_92 (by decide) ?_
      refine lv_iload_n hx hb dX10_notes_57 rfl (lv_at hl 0 rfl) ?_
      refine lv_bipush (v := 7) hx hb dX10_notes_58 (by decide) ?_
      refine lv_icmp_ge (tgt := 95) hx hb dX10_notes_60 (by decide) (fun c_73 => absurd c_73 (by decide)) (fun _ => ?_)
      refine lv_aload_n hx hb dX10_notes_63 rfl (lv_at hl 1 rfl) ?_
      refine va_get (ci := 10) (v := .ref (z 1)) (C := RX10) (T := TX10) (N := 40) hx hb hg inX10 hown hK hP 1 rfl rfl 1 (by decide) (hg _ q_5_225) (fun _ h9 => h9) rfl dX10_notes_64 ?_
      refine lv_bipush (v := 54) hx hb dX10_notes_67 (by decide) ?_
      refine lv_bipush (v := 7) hx hb dX10_notes_69 (by decide) ?_
      refine lv_aload_n hx hb dX10_notes_71 rfl (lv_at hl 1 rfl) ?_
      refine va_get (ci := 10) (v := .ref (z 1)) (C := RX10) (T := TX10) (N := 40) hx hb hg inX10 hown hK hP 1 rfl rfl 1 (by decide) (hg _ q_5_225) (fun _ h9 => h9) rfl dX10_notes_72 ?_
      refine lv_bipush (v := 53) hx hb dX10_notes_75 (by decide) ?_
      refine va_iald hx hb hK hP 2 0 rfl rfl (vin (by decide +kernel)) dX10_notes_77 ?_
      refine tpi (y := x_53) ((((show f_71 (53 : Int32).toNatClampNeg = f_66 (53 : Int32).toNatClampNeg from by rw [ef_71]; exact upd_ne (cl_ne (iv_c (53 : Int32) (a := 53) (b := 53) (by decide)) bx_69 (by decide))).trans (show f_66 (53 : Int32).toNatClampNeg = f_61 (53 : Int32).toNatClampNeg from by rw [ef_66]; exact upd_ne (cl_ne (iv_c (53 : Int32) (a := 53) (b := 53) (by decide)) bx_64 (by decide)))).trans (show f_61 (53 : Int32).toNatClampNeg = f_54 (53 : Int32).toNatClampNeg from by rw [ef_61]; exact upd_ne (cl_ne (iv_c (53 : Int32) (a := 53) (b := 53) (by decide)) bx_59 (by decide)))).trans (show f_54 (53 : Int32).toNatClampNeg = x_53 from by rw [ef_54]; exact upd_at)) ?_
      refine lv_imul hx hb dX10_notes_78 ?_
      refine tpi (y := x_57) ex_57.symm ?_
      refine lv_iadd hx hb dX10_notes_79 ?_
      refine tpi (y := x_58) ex_58.symm ?_
      refine lv_iload_n hx hb dX10_notes_80 rfl (lv_at hl 0 rfl) ?_
      refine lv_iadd hx hb dX10_notes_81 ?_
      refine lv_topi (fun x_74 ex_74 => ?_)
      have bx_74 : iv 120 120 x_74 := by rw [ex_74]; exact iv_add bx_58 (iv_c (3 : Int32) (a := 3) (b := 3) (by decide)) (by decide)
      refine lv_aload_n hx hb dX10_notes_82 rfl (lv_at hl 1 rfl) ?_
      refine va_get (ci := 10) (v := .ref (z 17)) (C := RX10) (T := TX10) (N := 40) hx hb hg inX10 hown hK hP 1 rfl rfl 17 (by decide) (hg _ q_6_1) (fun _ h9 => h9) rfl dX10_notes_83 ?_
      refine lv_iload_n hx hb dX10_notes_86 rfl (lv_at hl 0 rfl) ?_
      refine va_iald hx hb hK hP 0 0 rfl rfl (vin (by decide +kernel)) dX10_notes_87 ?_
      refine lv_topi (fun x_75 ex_75 => ?_)
      have bx_75 : iv 0 4 x_75 := by rw [ex_75]; exact rdT (a := 3) (n := 1) tfz17 (iv_c (3 : Int32) (a := 3) (b := 3) (by decide)) (by decide) (by decide +kernel)
      refine va_iast hx hb hK hP hD hS 2 0 rfl rfl (iv_in bx_74 (by decide)) dX10_notes_88 (fun H locs hP hD hS => ?_)
      obtain ⟨f_76, ef_76, tf_76, hP, hD⟩ : ∃ f_76 : Nat → Int32, f_76 = (upd f_71 (x_74 : Int32).toNatClampNeg x_75) ∧ (ivT tA f_76) ∧ va_P V.1 vwCl [(z 17, aI V 7 fz17), (z 0, .inr (10, mo z pz0_0 pz0_5 pz0_6 pz0_7 pz0_8 pz0_9 pz0_10 pz0_11 pz0_12 pz0_13 pz0_14 pz0_18 pz0_19 pz0_22 pz0_23 pz0_29)), (z 1, aI V 3075 f_76)] H ∧ va_D A [(z 17, aI V 7 fz17), (z 0, .inr (10, mo z pz0_0 pz0_5 pz0_6 pz0_7 pz0_8 pz0_9 pz0_10 pz0_11 pz0_12 pz0_13 pz0_14 pz0_18 pz0_19 pz0_22 pz0_23 pz0_29)), (z 1, aI V 3075 f_76)] := ⟨_, rfl, upT (lo := 0) (hi := 4) (a := 120) (n := 1) tf_71 bx_74 (by decide) bx_75 (by decide +kernel), hP, hD⟩
      refine lv_iinc (v := 4) (lv' := [(1, .int 4), (0, .ref (z 0))]) hx hb dX10_notes_89 hl (k := 0) rfl (by decide +kernel) (by decide) rfl (fun ls hl => ?_)
      refine lv_goto (tgt := 57) hx hb dX10_notes_92 (by decide) ?_
      refine lv_iload_n hx hb dX10_notes_57 rfl (lv_at hl 0 rfl) ?_
      refine lv_bipush (v := 7) hx hb dX10_notes_58 (by decide) ?_
      refine lv_icmp_ge (tgt := 95) hx hb dX10_notes_60 (by decide) (fun c_78 => absurd c_78 (by decide)) (fun _ => ?_)
      refine lv_aload_n hx hb dX10_notes_63 rfl (lv_at hl 1 rfl) ?_
      refine va_get (ci := 10) (v := .ref (z 1)) (C := RX10) (T := TX10) (N := 40) hx hb hg inX10 hown hK hP 1 rfl rfl 1 (by decide) (hg _ q_5_225) (fun _ h9 => h9) rfl dX10_notes_64 ?_
      refine lv_bipush (v := 54) hx hb dX10_notes_67 (by decide) ?_
      refine lv_bipush (v := 7) hx hb dX10_notes_69 (by decide) ?_
      refine lv_aload_n hx hb dX10_notes_71 rfl (lv_at hl 1 rfl) ?_
      refine va_get (ci := 10) (v := .ref (z 1)) (C := RX10) (T := TX10) (N := 40) hx hb hg inX10 hown hK hP 1 rfl rfl 1 (by decide) (hg _ q_5_225) (fun _ h9 => h9) rfl dX10_notes_72 ?_
      refine lv_bipush (v := 53) hx hb dX10_notes_75 (by decide) ?_
      refine va_iald hx hb hK hP 2 0 rfl rfl (vin (by decide +kernel)) dX10_notes_77 ?_
      refine tpi (y := x_53) (((((show f_76 (53 : Int32).toNatClampNeg = f_71 (53 : Int32).toNatClampNeg from by rw [ef_76]; exact upd_ne (cl_ne (iv_c (53 : Int32) (a := 53) (b := 53) (by decide)) bx_74 (by decide))).trans (show f_71 (53 : Int32).toNatClampNeg = f_66 (53 : Int32).toNatClampNeg from by rw [ef_71]; exact upd_ne (cl_ne (iv_c (53 : Int32) (a := 53) (b := 53) (by decide)) bx_69 (by decide)))).trans (show f_66 (53 : Int32).toNatClampNeg = f_61 (53 : Int32).toNatClampNeg from by rw [ef_66]; exact upd_ne (cl_ne (iv_c (53 : Int32) (a := 53) (b := 53) (by decide)) bx_64 (by decide)))).trans (show f_61 (53 : Int32).toNatClampNeg = f_54 (53 : Int32).toNatClampNeg from by rw [ef_61]; exact upd_ne (cl_ne (iv_c (53 : Int32) (a := 53) (b := 53) (by decide)) bx_59 (by decide)))).trans (show f_54 (53 : Int32).toNatClampNeg = x_53 from by rw [ef_54]; exact upd_at)) ?_
      refine lv_imul hx hb dX10_notes_78 ?_
      refine tpi (y := x_57) ex_57.symm ?_
      refine lv_iadd hx hb dX10_notes_79 ?_
      refine tpi (y := x_58) ex_58.symm ?_
      refine lv_iload_n hx hb dX10_notes_80 rfl (lv_at hl 0 rfl) ?_
      refine lv_iadd hx hb dX10_notes_81 ?_
      refine lv_topi (fun x_79 ex_79 => ?_)
      have bx_79 : iv 121 121 x_79 := by rw [ex_79]; exact iv_add bx_58 (iv_c (4 : Int32) (a := 4) (b := 4) (by decide)) (by decide)
      refine lv_aload_n hx hb dX10_notes_82 rfl (lv_at hl 1 rfl) ?_
      refine va_get (ci := 10) (v := .ref (z 17)) (C := RX10) (T := TX10) (N := 40) hx hb hg inX10 hown hK hP 1 rfl rfl 17 (by decide) (hg _ q_6_1) (fun _ h9 => h9) rfl dX10_notes_83 ?_
      refine lv_iload_n hx hb dX10_notes_86 rfl (lv_at hl 0 rfl) ?_
      refine va_iald hx hb hK hP 0 0 rfl rfl (vin (by decide +kernel)) dX10_notes_87 ?_
      refine lv_topi (fun x_80 ex_80 => ?_)
      have bx_80 : iv 0 15 x_80 := by rw [ex_80]; exact rdT (a := 4) (n := 1) tfz17 (iv_c (4 : Int32) (a := 4) (b := 4) (by decide)) (by decide) (by decide +kernel)
      refine va_iast hx hb hK hP hD hS 2 0 rfl rfl (iv_in bx_79 (by decide)) dX10_notes_88 (fun H locs hP hD hS => ?_)
      obtain ⟨f_81, ef_81, tf_81, hP, hD⟩ : ∃ f_81 : Nat → Int32, f_81 = (upd f_76 (x_79 : Int32).toNatClampNeg x_80) ∧ (ivT tA f_81) ∧ va_P V.1 vwCl [(z 17, aI V 7 fz17), (z 0, .inr (10, mo z pz0_0 pz0_5 pz0_6 pz0_7 pz0_8 pz0_9 pz0_10 pz0_11 pz0_12 pz0_13 pz0_14 pz0_18 pz0_19 pz0_22 pz0_23 pz0_29)), (z 1, aI V 3075 f_81)] H ∧ va_D A [(z 17, aI V 7 fz17), (z 0, .inr (10, mo z pz0_0 pz0_5 pz0_6 pz0_7 pz0_8 pz0_9 pz0_10 pz0_11 pz0_12 pz0_13 pz0_14 pz0_18 pz0_19 pz0_22 pz0_23 pz0_29)), (z 1, aI V 3075 f_81)] := ⟨_, rfl, upT (lo := 0) (hi := 15) (a := 121) (n := 1) tf_76 bx_79 (by decide) bx_80 (by decide +kernel), hP, hD⟩
      refine lv_iinc (v := 5) (lv' := [(1, .int 5), (0, .ref (z 0))]) hx hb dX10_notes_89 hl (k := 0) rfl (by decide +kernel) (by decide) rfl (fun ls hl => ?_)
      refine lv_goto (tgt := 57) hx hb dX10_notes_92 (by decide) ?_
      refine lv_iload_n hx hb dX10_notes_57 rfl (lv_at hl 0 rfl) ?_
      refine lv_bipush (v := 7) hx hb dX10_notes_58 (by decide) ?_
      refine lv_icmp_ge (tgt := 95) hx hb dX10_notes_60 (by decide) (fun c_83 => absurd c_83 (by decide)) (fun _ => ?_)
      refine lv_aload_n hx hb dX10_notes_63 rfl (lv_at hl 1 rfl) ?_
      refine va_get (ci := 10) (v := .ref (z 1)) (C := RX10) (T := TX10) (N := 40) hx hb hg inX10 hown hK hP 1 rfl rfl 1 (by decide) (hg _ q_5_225) (fun _ h9 => h9) rfl dX10_notes_64 ?_
      refine lv_bipush (v := 54) hx hb dX10_notes_67 (by decide) ?_
      refine lv_bipush (v := 7) hx hb dX10_notes_69 (by decide) ?_
      refine lv_aload_n hx hb dX10_notes_71 rfl (lv_at hl 1 rfl) ?_
      refine va_get (ci := 10) (v := .ref (z 1)) (C := RX10) (T := TX10) (N := 40) hx hb hg inX10 hown hK hP 1 rfl rfl 1 (by decide) (hg _ q_5_225) (fun _ h9 => h9) rfl dX10_notes_72 ?_
      refine lv_bipush (v := 53) hx hb dX10_notes_75 (by decide) ?_
      refine va_iald hx hb hK hP 2 0 rfl rfl (vin (by decide +kernel)) dX10_notes_77 ?_
      refine tpi (y := x_53) ((((((show f_81 (53 : Int32).toNatClampNeg = f_76 (53 : Int32).toNatClampNeg from by rw [ef_81]; exact upd_ne (cl_ne (iv_c (53 : Int32) (a := 53) (b := 53) (by decide)) bx_79 (by decide))).trans (show f_76 (53 : Int32).toNatClampNeg = f_71 (53 : Int32).toNatClampNeg from by rw [ef_76]; exact upd_ne (cl_ne (iv_c (53 : Int32) (a := 53) (b := 53) (by decide)) bx_74 (by decide)))).trans (show f_71 (53 : Int32).toNatClampNeg = f_66 (53 : Int32).toNatClampNeg from by rw [ef_71]; exact upd_ne (cl_ne (iv_c (53 : Int32) (a := 53) (b := 53) (by decide)) bx_69 (by decide)))).trans (show f_66 (53 : Int32).toNatClampNeg = f_61 (53 : Int32).toNatClampNeg from by rw [ef_66]; exact upd_ne (cl_ne (iv_c (53 : Int32) (a := 53) (b := 53) (by decide)) bx_64 (by decide)))).trans (show f_61 (53 : Int32).toNatClampNeg = f_54 (53 : Int32).toNatClampNeg from by rw [ef_61]; exact upd_ne (cl_ne (iv_c (53 : Int32) (a := 53) (b := 53) (by decide)) bx_59 (by decide)))).trans (show f_54 (53 : Int32).toNatClampNeg = x_53 from by rw [ef_54]; exact upd_at)) ?_
      refine lv_imul hx hb dX10_notes_78 ?_
      refine tpi (y := x_57) ex_57.symm ?_
      refine lv_iadd hx hb dX10_notes_79 ?_
      refine tpi (y := x_58) ex_58.symm ?_
      refine lv_iload_n hx hb dX10_notes_80 rfl (lv_at hl 0 rfl) ?_
      refine lv_iadd hx hb dX10_notes_81 ?_
      refine lv_topi (fun x_84 ex_84 => ?_)
      have bx_84 : iv 122 122 x_84 := by rw [ex_84]; exact iv_add bx_58 (iv_c (5 : Int32) (a := 5) (b := 5) (by decide)) (by decide)
      refine lv_aload_n hx hb dX10_notes_82 rfl (lv_at hl 1 rfl) ?_
      refine va_get (ci := 10) (v := .ref (z 17)) (C := RX10) (T := TX10) (N := 40) hx hb hg inX10 hown hK hP 1 rfl rfl 17 (by decide) (hg _ q_6_1) (fun _ h9 => h9) rfl dX10_notes_83 ?_
      refine lv_iload_n hx hb dX10_notes_86 rfl (lv_at hl 0 rfl) ?_
      refine va_iald hx hb hK hP 0 0 rfl rfl (vin (by decide +kernel)) dX10_notes_87 ?_
      refine lv_topi (fun x_85 ex_85 => ?_)
      have bx_85 : iv 0 9 x_85 := by rw [ex_85]; exact rdT (a := 5) (n := 1) tfz17 (iv_c (5 : Int32) (a := 5) (b := 5) (by decide)) (by decide) (by decide +kernel)
      refine va_iast hx hb hK hP hD hS 2 0 rfl rfl (iv_in bx_84 (by decide)) dX10_notes_88 (fun H locs hP hD hS => ?_)
      obtain ⟨f_86, ef_86, tf_86, hP, hD⟩ : ∃ f_86 : Nat → Int32, f_86 = (upd f_81 (x_84 : Int32).toNatClampNeg x_85) ∧ (ivT tA f_86) ∧ va_P V.1 vwCl [(z 17, aI V 7 fz17), (z 0, .inr (10, mo z pz0_0 pz0_5 pz0_6 pz0_7 pz0_8 pz0_9 pz0_10 pz0_11 pz0_12 pz0_13 pz0_14 pz0_18 pz0_19 pz0_22 pz0_23 pz0_29)), (z 1, aI V 3075 f_86)] H ∧ va_D A [(z 17, aI V 7 fz17), (z 0, .inr (10, mo z pz0_0 pz0_5 pz0_6 pz0_7 pz0_8 pz0_9 pz0_10 pz0_11 pz0_12 pz0_13 pz0_14 pz0_18 pz0_19 pz0_22 pz0_23 pz0_29)), (z 1, aI V 3075 f_86)] := ⟨_, rfl, upT (lo := 0) (hi := 9) (a := 122) (n := 1) tf_81 bx_84 (by decide) bx_85 (by decide +kernel), hP, hD⟩
      refine lv_iinc (v := 6) (lv' := [(1, .int 6), (0, .ref (z 0))]) hx hb dX10_notes_89 hl (k := 0) rfl (by decide +kernel) (by decide) rfl (fun ls hl => ?_)
      refine lv_goto (tgt := 57) hx hb dX10_notes_92 (by decide) ?_
      refine lv_iload_n hx hb dX10_notes_57 rfl (lv_at hl 0 rfl) ?_
      refine lv_bipush (v := 7) hx hb dX10_notes_58 (by decide) ?_
      refine lv_icmp_ge (tgt := 95) hx hb dX10_notes_60 (by decide) (fun c_88 => absurd c_88 (by decide)) (fun _ => ?_)
      refine lv_aload_n hx hb dX10_notes_63 rfl (lv_at hl 1 rfl) ?_
      refine va_get (ci := 10) (v := .ref (z 1)) (C := RX10) (T := TX10) (N := 40) hx hb hg inX10 hown hK hP 1 rfl rfl 1 (by decide) (hg _ q_5_225) (fun _ h9 => h9) rfl dX10_notes_64 ?_
      refine lv_bipush (v := 54) hx hb dX10_notes_67 (by decide) ?_
      refine lv_bipush (v := 7) hx hb dX10_notes_69 (by decide) ?_
      refine lv_aload_n hx hb dX10_notes_71 rfl (lv_at hl 1 rfl) ?_
      refine va_get (ci := 10) (v := .ref (z 1)) (C := RX10) (T := TX10) (N := 40) hx hb hg inX10 hown hK hP 1 rfl rfl 1 (by decide) (hg _ q_5_225) (fun _ h9 => h9) rfl dX10_notes_72 ?_
      refine lv_bipush (v := 53) hx hb dX10_notes_75 (by decide) ?_
      refine va_iald hx hb hK hP 2 0 rfl rfl (vin (by decide +kernel)) dX10_notes_77 ?_
      refine tpi (y := x_53) (((((((show f_86 (53 : Int32).toNatClampNeg = f_81 (53 : Int32).toNatClampNeg from by rw [ef_86]; exact upd_ne (cl_ne (iv_c (53 : Int32) (a := 53) (b := 53) (by decide)) bx_84 (by decide))).trans (show f_81 (53 : Int32).toNatClampNeg = f_76 (53 : Int32).toNatClampNeg from by rw [ef_81]; exact upd_ne (cl_ne (iv_c (53 : Int32) (a := 53) (b := 53) (by decide)) bx_79 (by decide)))).trans (show f_76 (53 : Int32).toNatClampNeg = f_71 (53 : Int32).toNatClampNeg from by rw [ef_76]; exact upd_ne (cl_ne (iv_c (53 : Int32) (a := 53) (b := 53) (by decide)) bx_74 (by decide)))).trans (show f_71 (53 : Int32).toNatClampNeg = f_66 (53 : Int32).toNatClampNeg from by rw [ef_71]; exact upd_ne (cl_ne (iv_c (53 : Int32) (a := 53) (b := 53) (by decide)) bx_69 (by decide)))).trans (show f_66 (53 : Int32).toNatClampNeg = f_61 (53 : Int32).toNatClampNeg from by rw [ef_66]; exact upd_ne (cl_ne (iv_c (53 : Int32) (a := 53) (b := 53) (by decide)) bx_64 (by decide)))).trans (show f_61 (53 : Int32).toNatClampNeg = f_54 (53 : Int32).toNatClampNeg from by rw [ef_61]; exact upd_ne (cl_ne (iv_c (53 : Int32) (a := 53) (b := 53) (by decide)) bx_59 (by decide)))).trans (show f_54 (53 : Int32).toNatClampNeg = x_53 from by rw [ef_54]; exact upd_at)) ?_
      refine lv_imul hx hb dX10_notes_78 ?_
      refine tpi (y := x_57) ex_57.symm ?_
      refine lv_iadd hx hb dX10_notes_79 ?_
      refine tpi (y := x_58) ex_58.symm ?_
      refine lv_iload_n hx hb dX10_notes_80 rfl (lv_at hl 0 rfl) ?_
      refine lv_iadd hx hb dX10_notes_81 ?_
      refine lv_topi (fun x_89 ex_89 => ?_)
      have bx_89 : iv 123 123 x_89 := by rw [ex_89]; exact iv_add bx_58 (iv_c (6 : Int32) (a := 6) (b := 6) (by decide)) (by decide)
      refine lv_aload_n hx hb dX10_notes_82 rfl (lv_at hl 1 rfl) ?_
      refine va_get (ci := 10) (v := .ref (z 17)) (C := RX10) (T := TX10) (N := 40) hx hb hg inX10 hown hK hP 1 rfl rfl 17 (by decide) (hg _ q_6_1) (fun _ h9 => h9) rfl dX10_notes_83 ?_
      refine lv_iload_n hx hb dX10_notes_86 rfl (lv_at hl 0 rfl) ?_
      refine va_iald hx hb hK hP 0 0 rfl rfl (vin (by decide +kernel)) dX10_notes_87 ?_
      refine lv_topi (fun x_90 ex_90 => ?_)
      refine va_iast hx hb hK hP hD hS 2 0 rfl rfl (iv_in bx_89 (by decide)) dX10_notes_88 (fun H locs hP hD hS => ?_)
      obtain ⟨f_91, ef_91, tf_91, hP, hD⟩ : ∃ f_91 : Nat → Int32, f_91 = (upd f_86 (x_89 : Int32).toNatClampNeg x_90) ∧ (ivT tA f_91) ∧ va_P V.1 vwCl [(z 17, aI V 7 fz17), (z 0, .inr (10, mo z pz0_0 pz0_5 pz0_6 pz0_7 pz0_8 pz0_9 pz0_10 pz0_11 pz0_12 pz0_13 pz0_14 pz0_18 pz0_19 pz0_22 pz0_23 pz0_29)), (z 1, aI V 3075 f_91)] H ∧ va_D A [(z 17, aI V 7 fz17), (z 0, .inr (10, mo z pz0_0 pz0_5 pz0_6 pz0_7 pz0_8 pz0_9 pz0_10 pz0_11 pz0_12 pz0_13 pz0_14 pz0_18 pz0_19 pz0_22 pz0_23 pz0_29)), (z 1, aI V 3075 f_91)] := ⟨_, rfl, upT (lo := (-2147483648)) (hi := 2147483647) (a := 123) (n := 1) tf_86 bx_89 (by decide) (iv_top x_90) (by decide +kernel), hP, hD⟩
      refine lv_iinc (v := 7) (lv' := [(1, .int 7), (0, .ref (z 0))]) hx hb dX10_notes_89 hl (k := 0) rfl (by decide +kernel) (by decide) rfl (fun ls hl => ?_)
      refine lv_goto (tgt := 57) hx hb dX10_notes_92 (by decide) ?_
      refine lv_iload_n hx hb dX10_notes_57 rfl (lv_at hl 0 rfl) ?_
      refine lv_bipush (v := 7) hx hb dX10_notes_58 (by decide) ?_
      refine lv_icmp_ge (tgt := 95) hx hb dX10_notes_60 (by decide) (fun _ => ?_) (fun c_93 => absurd c_93 (by decide))
      refine lv_aload_n hx hb dX10_notes_95 rfl (lv_at hl 1 rfl) ?_
      refine va_get (ci := 10) (v := .ref (z 1)) (C := RX10) (T := TX10) (N := 40) hx hb hg inX10 hown hK hP 1 rfl rfl 1 (by decide) (hg _ q_5_225) (fun _ h9 => h9) rfl dX10_notes_96 ?_
      refine lv_bipush (v := 53) hx hb dX10_notes_99 (by decide) ?_
      refine lv_dup2_11 hx hb dX10_notes_101 rfl rfl ?_
      refine va_iald hx hb hK hP 2 0 rfl rfl (vin (by decide +kernel)) dX10_notes_102 ?_
      refine tpi (y := x_53) ((((((((show f_91 (53 : Int32).toNatClampNeg = f_86 (53 : Int32).toNatClampNeg from by rw [ef_91]; exact upd_ne (cl_ne (iv_c (53 : Int32) (a := 53) (b := 53) (by decide)) bx_89 (by decide))).trans (show f_86 (53 : Int32).toNatClampNeg = f_81 (53 : Int32).toNatClampNeg from by rw [ef_86]; exact upd_ne (cl_ne (iv_c (53 : Int32) (a := 53) (b := 53) (by decide)) bx_84 (by decide)))).trans (show f_81 (53 : Int32).toNatClampNeg = f_76 (53 : Int32).toNatClampNeg from by rw [ef_81]; exact upd_ne (cl_ne (iv_c (53 : Int32) (a := 53) (b := 53) (by decide)) bx_79 (by decide)))).trans (show f_76 (53 : Int32).toNatClampNeg = f_71 (53 : Int32).toNatClampNeg from by rw [ef_76]; exact upd_ne (cl_ne (iv_c (53 : Int32) (a := 53) (b := 53) (by decide)) bx_74 (by decide)))).trans (show f_71 (53 : Int32).toNatClampNeg = f_66 (53 : Int32).toNatClampNeg from by rw [ef_71]; exact upd_ne (cl_ne (iv_c (53 : Int32) (a := 53) (b := 53) (by decide)) bx_69 (by decide)))).trans (show f_66 (53 : Int32).toNatClampNeg = f_61 (53 : Int32).toNatClampNeg from by rw [ef_66]; exact upd_ne (cl_ne (iv_c (53 : Int32) (a := 53) (b := 53) (by decide)) bx_64 (by decide)))).trans (show f_61 (53 : Int32).toNatClampNeg = f_54 (53 : Int32).toNatClampNeg from by rw [ef_61]; exact upd_ne (cl_ne (iv_c (53 : Int32) (a := 53) (b := 53) (by decide)) bx_59 (by decide)))).trans (show f_54 (53 : Int32).toNatClampNeg = x_53 from by rw [ef_54]; exact upd_at)) ?_
      refine lv_iconst (v := 1) hx hb dX10_notes_103 (by decide) ?_
      refine lv_iadd hx hb dX10_notes_104 ?_
      refine lv_topi (fun x_94 ex_94 => ?_)
      have bx_94 : iv 10 10 x_94 := by rw [ex_94]; exact iv_add bx_53 (iv_c (1 : Int32) (a := 1) (b := 1) (by decide)) (by decide)
      refine va_iast hx hb hK hP hD hS 2 0 rfl rfl (vin (by decide +kernel)) dX10_notes_105 (fun H locs hP hD hS => ?_)
      obtain ⟨f_95, ef_95, tf_95, hP, hD⟩ : ∃ f_95 : Nat → Int32, f_95 = (upd f_91 (53 : Int32).toNatClampNeg x_94) ∧ (ivT tA f_95) ∧ va_P V.1 vwCl [(z 17, aI V 7 fz17), (z 0, .inr (10, mo z pz0_0 pz0_5 pz0_6 pz0_7 pz0_8 pz0_9 pz0_10 pz0_11 pz0_12 pz0_13 pz0_14 pz0_18 pz0_19 pz0_22 pz0_23 pz0_29)), (z 1, aI V 3075 f_95)] H ∧ va_D A [(z 17, aI V 7 fz17), (z 0, .inr (10, mo z pz0_0 pz0_5 pz0_6 pz0_7 pz0_8 pz0_9 pz0_10 pz0_11 pz0_12 pz0_13 pz0_14 pz0_18 pz0_19 pz0_22 pz0_23 pz0_29)), (z 1, aI V 3075 f_95)] := ⟨_, rfl, upT (lo := 0) (hi := 10) (a := 53) (n := 1) tf_91 (iv_c (53 : Int32) (a := 53) (b := 53) (by decide)) (by decide) (iv_w bx_94 (by decide)) (by decide +kernel), hP, hD⟩
      exact fiV hx hb hr hlk hK hP hD hS dX10_notes_106 (Nat.le_of_ble_eq_true rfl) (Nat.le_of_ble_eq_true rfl) (⟨f_95, tf_95, (RW_up (RW_up (RW_up (RW_up (RW_up (RW_up (RW_up (RW_up (RW_up inn_48_1 (iv_c (53 : Int32) (a := 53) (b := 53) (by decide)) (by decide) ef_54) bx_59 (by decide) ef_61) bx_64 (by decide) ef_66) bx_69 (by decide) ef_71) bx_74 (by decide) ef_76) bx_79 (by decide) ef_81) bx_84 (by decide) ef_86) bx_89 (by decide) ef_91) (iv_c (53 : Int32) (a := 53) (b := 53) (by decide)) (by decide) ef_95), rfl⟩)
    · have b_96 : iv 0 62 u_46 := iv_l1 (Int32.not_le.mp c_49) bu_46 (iv_c (63 : Int32) (a := 63) (b := 63) (by decide)) (by decide)
      refine lv_aload_n hx hb dX10_notes_20 rfl (lv_at hl 1 rfl) ?_
      refine va_get (ci := 10) (v := .ref (z 1)) (C := RX10) (T := TX10) (N := 40) hx hb hg inX10 hown hK hP 1 rfl rfl 1 (by decide) (hg _ q_5_225) (fun _ h9 => h9) rfl dX10_notes_21 ?_
      refine lv_bipush (v := 54) hx hb dX10_notes_24 (by decide) ?_
      refine lv_iload_n hx hb dX10_notes_26 rfl (lv_at hl 0 rfl) ?_
      refine lv_iadd hx hb dX10_notes_27 ?_
      refine lv_topi (fun x_97 ex_97 => ?_)
      have bx_97 : iv 54 116 x_97 := by rw [ex_97]; exact iv_add (iv_c (54 : Int32) (a := 54) (b := 54) (by decide)) b_96 (by decide)
      refine lv_aload_n hx hb dX10_notes_28 rfl (lv_at hl 1 rfl) ?_
      refine va_get (ci := 10) (v := .ref (z 1)) (C := RX10) (T := TX10) (N := 40) hx hb hg inX10 hown hK hP 1 rfl rfl 1 (by decide) (hg _ q_5_225) (fun _ h9 => h9) rfl dX10_notes_29 ?_
      refine lv_bipush (v := 61) hx hb dX10_notes_32 (by decide) ?_
      refine lv_iload_n hx hb dX10_notes_34 rfl (lv_at hl 0 rfl) ?_
      refine lv_iadd hx hb dX10_notes_35 ?_
      refine lv_topi (fun x_98 ex_98 => ?_)
      have bx_98 : iv 61 123 x_98 := by rw [ex_98]; exact iv_add (iv_c (61 : Int32) (a := 61) (b := 61) (by decide)) b_96 (by decide)
      refine va_iald hx hb hK hP 2 0 rfl rfl (iv_in bx_98 (by decide)) dX10_notes_36 ?_
      refine lv_topi (fun x_99 ex_99 => ?_)
      refine va_iast hx hb hK hP hD hS 2 0 rfl rfl (iv_in bx_97 (by decide)) dX10_notes_37 (fun H locs hP hD hS => ?_)
      obtain ⟨f_100, ef_100, tf_100, hP, hD⟩ : ∃ f_100 : Nat → Int32, f_100 = (upd f_47 (x_97 : Int32).toNatClampNeg x_99) ∧ (ivT tA f_100) ∧ va_P V.1 vwCl [(z 17, aI V 7 fz17), (z 0, .inr (10, mo z pz0_0 pz0_5 pz0_6 pz0_7 pz0_8 pz0_9 pz0_10 pz0_11 pz0_12 pz0_13 pz0_14 pz0_18 pz0_19 pz0_22 pz0_23 pz0_29)), (z 1, aI V 3075 f_100)] H ∧ va_D A [(z 17, aI V 7 fz17), (z 0, .inr (10, mo z pz0_0 pz0_5 pz0_6 pz0_7 pz0_8 pz0_9 pz0_10 pz0_11 pz0_12 pz0_13 pz0_14 pz0_18 pz0_19 pz0_22 pz0_23 pz0_29)), (z 1, aI V 3075 f_100)] := ⟨_, rfl, (by have q_x_97 := toInt_add ex_97 (iv_c (54 : Int32) (a := 54) (b := 54) (by decide)) b_96 (by decide); have k_x_97 : (54 : Int32).toInt = 54 := (by decide); have q_x_98 := toInt_add ex_98 (iv_c (61 : Int32) (a := 61) (b := 61) (by decide)) b_96 (by decide); have k_x_98 : (61 : Int32).toInt = 61 := (by decide); exact tA_sh tf_47 (show _ = 54 + (u_46 : Int32).toInt by omega) (show _ = 61 + (u_46 : Int32).toInt by omega) b_96 (by decide) ex_99), hP, hD⟩
      obtain ⟨x_101, ex_101⟩ : ∃ z9 : Int32, z9 = u_46 + 1 := ⟨_, rfl⟩
      have bx_101 : iv 1 63 x_101 := by rw [ex_101]; exact iv_add b_96 (iv_c (1 : Int32) (a := 1) (b := 1) (by decide)) (by decide)
      refine lv_iinc (v := x_101) (lv' := [(1, .int x_101), (0, .ref (z 0))]) hx hb dX10_notes_38 hl (k := 0) rfl (by rw [ex_101]; rfl) (by decide) rfl (fun ls hl => ?_)
      refine lv_goto (tgt := 14) hx hb dX10_notes_41 (by decide) ?_
      exact ihn_48 _ _ _ _ (by rw [en_48, ex_101]; exact mu_up b_96 (by decide)) ⟨x_101, f_100, (iv_w bx_101 (by decide)), tf_100, (by rw [ef_100]; exact (upd_ne (cl_ne (iv_c (53 : Int32) (a := 53) (b := 53) (by decide)) bx_97 (by decide))).trans inn_48_0), (RW_up inn_48_1 bx_97 (by decide) ef_100), rfl, hP, hD, hS, lv_sub hl [0, 1] rfl⟩
