set_option maxHeartbeats 4000000 in
set_option maxRecDepth 100000 in
theorem k_X9_chance_1 (l : Launch) (V : GV) (y : Nat → Nat) (a1 : Int32) (a2 : Int32) (a3 : Int32) (a4 : Int32) (py0_1 : Int32) (o10 : Value) (o11 : Value) (py0_12 : Int32) (py0_13 : Int32) (py0_14 : Int32) (py2_0 : Int32) (py2_1 : Int32) (py2_2 : Int32) (py2_3 : Int32) (py2_4 : Int32) (py2_5 : Int32) (py2_13 : Int32) (py2_14 : Int32) (py2_15 : Int32) (py2_16 : Int32) (py2_17 : Int32) (bpy0_1 : iv 0 900 py0_1) (bpy0_12 : iv 0 9999 py0_12) (bpy0_13 : iv 0 9 py0_13) (bpy2_1 : iv 0 4 py2_1) (bpy2_2 : iv 0 4 py2_2) (bpy2_3 : iv 0 8 py2_3) (bpy2_4 : iv 0 9999 py2_4) (bpy2_5 : iv 0 9 py2_5) (bpy2_13 : iv 0 900 py2_13) (bpy2_14 : iv 0 900 py2_14) (bpy2_15 : iv 0 900 py2_15) (bpy2_16 : iv 0 900 py2_16) (bpy2_17 : iv 0 900 py2_17) (hf0 : ¬ (0 ≤ (a1 : Int32).toInt ∧ (a1 : Int32).toInt < (py2_1 : Int32).toInt ∧ 0 ≤ (a2 : Int32).toInt ∧ (a2 : Int32).toInt ≤ 4 ∧ 0 ≤ (a3 : Int32).toInt ∧ (a3 : Int32).toInt ≤ 7 ∧ 0 ≤ (a4 : Int32).toInt ∧ (a4 : Int32).toInt ≤ 1)) : Ct l V yX9_chance (.code yX9_chance cX9_chance 6 (some .int)) 2 [.ref (y 0), .int a1, .int a2, .int a3, .int a4] [(y 0, .inr (9, o9_rirrrrrrrrvviii (y 1) py0_1 (y 2) (y 10) (y 19) (y 25) (y 26) (y 30) (y 31) (y 32) o10 o11 py0_12 py0_13 py0_14)), (y 2, .inr (1, o1_iiiiiirrrrrrriiiii py2_0 py2_1 py2_2 py2_3 py2_4 py2_5 (y 3) (y 4) (y 5) (y 6) (y 7) (y 8) (y 9) py2_13 py2_14 py2_15 py2_16 py2_17))] 0 0 (QI V (fun (r : Int32) (w : va_W) => iv (-3) (-2) r ∧ w = [(y 0, .inr (9, o9_rirrrrrrrrvviii (y 1) py0_1 (y 2) (y 10) (y 19) (y 25) (y 26) (y 30) (y 31) (y 32) o10 o11 py0_12 py0_13 py0_14)), (y 2, .inr (1, o1_iiiiiirrrrrrriiiii py2_0 py2_1 py2_2 py2_3 py2_4 py2_5 (y 3) (y 4) (y 5) (y 6) (y 7) (y 8) (y 9) py2_13 py2_14 py2_15 py2_16 py2_17))])) := by
  refine Ct.of (by decide) (Nat.le_of_ble_eq_true rfl) (fun p e s m below meth c A ls hx hb hr hml hown hlk hnm hg hP hK hD hE hA hS hl => ?_)
  have hl : lv_has ls 6 [(0, .ref (y 0)), (1, .int a1), (2, .int a2), (3, .int a3), (4, .int a4)] := hl
  refine lv_aload_n hx hb dX9_chance_0 rfl (lv_at hl 0 rfl) ?_
  refine lv_iload_n hx hb dX9_chance_1 rfl (lv_at hl 1 rfl) ?_
  refine jnI (wr := []) (rnV (rest := []) ⟨hx, hb, hml, hown, hg⟩ (k_X9_isHill_0 l V y a1 py0_1 o10 o11 py0_12 py0_13 py0_14 py2_0 py2_1 py2_2 py2_3 py2_4 py2_5 py2_13 py2_14 py2_15 py2_16 py2_17 bpy0_1 bpy0_12 bpy0_13 bpy2_1 bpy2_2 bpy2_3 bpy2_4 bpy2_5 bpy2_13 bpy2_14 bpy2_15 bpy2_16 bpy2_17) mt_X9_isHill q_3_122 ⟨Nat.le_of_ble_eq_true rfl, Nat.le_of_ble_eq_true rfl⟩ hK hP hD hS hA hE [0, 1] rfl rfl 0 rfl rfl rfl rfl hl.1 rfl (Nat.le_of_ble_eq_true rfl) dX9_chance_2 ⟨Nat.le_of_ble_eq_true rfl, Nat.le_of_ble_eq_true rfl⟩) hP hD hS hA [0, 1] [] rfl rfl rfl (by decide) (fun r_1 w H locs hw hP hD hS => ?_)
  rcases hw with ⟨c_2, rfl, et_3, rfl⟩ | ⟨c_4, c_5, rfl, et_6, rfl⟩ | ⟨c_7, c_8, rfl, et_9, rfl⟩
  · have hP : va_P V.1 vwCl [(y 0, .inr (9, o9_rirrrrrrrrvviii (y 1) py0_1 (y 2) (y 10) (y 19) (y 25) (y 26) (y 30) (y 31) (y 32) o10 o11 py0_12 py0_13 py0_14)), (y 2, .inr (1, o1_iiiiiirrrrrrriiiii py2_0 py2_1 py2_2 py2_3 py2_4 py2_5 (y 3) (y 4) (y 5) (y 6) (y 7) (y 8) (y 9) py2_13 py2_14 py2_15 py2_16 py2_17))] H := hP
    have hD := cpD hP hD
    have b_10 : iv (-2147483648) (-1) a1 := iv_l1 c_2 (iv_top a1) (iv_c (0 : Int32) (a := 0) (b := 0) (by decide)) (by decide)
    refine lv_if_eq (tgt := 19) hx hb dX9_chance_5 (by decide) (fun _ => ?_) (fun c_12 => absurd c_12 (by decide))
    refine lv_bipush (v := (-2)) hx hb dX9_chance_19 (by decide) ?_
    exact fiI hx hb hr hlk hK hP hD hS dX9_chance_21 (Nat.le_of_ble_eq_true rfl) (Nat.le_of_ble_eq_true rfl) (⟨(iv_c ((-2) : Int32) (by decide)), rfl⟩)
  · have hP : va_P V.1 vwCl [(y 0, .inr (9, o9_rirrrrrrrrvviii (y 1) py0_1 (y 2) (y 10) (y 19) (y 25) (y 26) (y 30) (y 31) (y 32) o10 o11 py0_12 py0_13 py0_14)), (y 2, .inr (1, o1_iiiiiirrrrrrriiiii py2_0 py2_1 py2_2 py2_3 py2_4 py2_5 (y 3) (y 4) (y 5) (y 6) (y 7) (y 8) (y 9) py2_13 py2_14 py2_15 py2_16 py2_17))] H := hP
    have hD := cpD hP hD
    have b_13 : iv 0 2147483647 a1 := iv_e2 (Int32.not_lt.mp c_4) (iv_c (0 : Int32) (a := 0) (b := 0) (by decide)) (iv_top a1) (by decide)
    refine lv_if_eq (tgt := 19) hx hb dX9_chance_5 (by decide) (fun _ => ?_) (fun c_15 => absurd c_15 (by decide))
    refine lv_bipush (v := (-2)) hx hb dX9_chance_19 (by decide) ?_
    exact fiI hx hb hr hlk hK hP hD hS dX9_chance_21 (Nat.le_of_ble_eq_true rfl) (Nat.le_of_ble_eq_true rfl) (⟨(iv_c ((-2) : Int32) (by decide)), rfl⟩)
  · have hP : va_P V.1 vwCl [(y 0, .inr (9, o9_rirrrrrrrrvviii (y 1) py0_1 (y 2) (y 10) (y 19) (y 25) (y 26) (y 30) (y 31) (y 32) o10 o11 py0_12 py0_13 py0_14)), (y 2, .inr (1, o1_iiiiiirrrrrrriiiii py2_0 py2_1 py2_2 py2_3 py2_4 py2_5 (y 3) (y 4) (y 5) (y 6) (y 7) (y 8) (y 9) py2_13 py2_14 py2_15 py2_16 py2_17))] H := hP
    have hD := cpD hP hD
    have b_16 : iv 0 2147483647 a1 := iv_e2 (Int32.not_lt.mp c_7) (iv_c (0 : Int32) (a := 0) (b := 0) (by decide)) (iv_top a1) (by decide)
    have b_17 : iv 0 3 a1 := iv_l1 (Int32.not_le.mp c_8) b_16 bpy2_1 (by decide)
    have b_18 : iv 1 4 py2_1 := iv_l2 (Int32.not_le.mp c_8) b_16 bpy2_1 (by decide)
    refine lv_if_eq (tgt := 19) hx hb dX9_chance_5 (by decide) (fun c_20 => absurd c_20 (by decide)) (fun _ => ?_)
    refine lv_iload hx hb dX9_chance_8 (lv_at hl 4 rfl) ?_
    refine lv_if_eq (tgt := 22) hx hb dX9_chance_10 (by decide) (fun c_21 => ?_) (fun c_21 => ?_)
    · have b_22 : iv 0 0 a4 := iv_q c_21 (iv_c (0 : Int32) (a := 0) (b := 0) (by decide))
      refine lv_iload_n hx hb dX9_chance_22 rfl (lv_at hl 2 rfl) ?_
      refine jnI (wr := [(y 0, .inr (9, o9_rirrrrrrrrvviii (y 1) py0_1 (y 2) (y 10) (y 19) (y 25) (y 26) (y 30) (y 31) (y 32) o10 o11 py0_12 py0_13 py0_14)), (y 2, .inr (1, o1_iiiiiirrrrrrriiiii py2_0 py2_1 py2_2 py2_3 py2_4 py2_5 (y 3) (y 4) (y 5) (y 6) (y 7) (y 8) (y 9) py2_13 py2_14 py2_15 py2_16 py2_17))]) (rnS (rest := []) ⟨hx, hb, hml, hown, hg⟩ (k_X9_isHeight_0 l V a2) mt_X9_isHeight q_4_49 ⟨Nat.le_of_ble_eq_true rfl, Nat.le_of_ble_eq_true rfl⟩ hK hP hD hS hA hE [] rfl rfl rfl hl.1 rfl (Nat.le_of_ble_eq_true rfl) dX9_chance_23 ⟨Nat.le_of_ble_eq_true rfl, Nat.le_of_ble_eq_true rfl⟩) hP hD hS hA [] [0, 1] rfl rfl rfl (by decide) (fun r_23 w H locs hw hP hD hS => ?_)
      rcases hw with ⟨c_24, rfl, rfl⟩ | ⟨c_25, c_26, rfl, rfl⟩ | ⟨c_27, c_28, rfl, rfl⟩
      · have hP : va_P V.1 vwCl [(y 0, .inr (9, o9_rirrrrrrrrvviii (y 1) py0_1 (y 2) (y 10) (y 19) (y 25) (y 26) (y 30) (y 31) (y 32) o10 o11 py0_12 py0_13 py0_14)), (y 2, .inr (1, o1_iiiiiirrrrrrriiiii py2_0 py2_1 py2_2 py2_3 py2_4 py2_5 (y 3) (y 4) (y 5) (y 6) (y 7) (y 8) (y 9) py2_13 py2_14 py2_15 py2_16 py2_17))] H := hP
        have hD := cpD hP hD
        have b_29 : iv (-2147483648) (-1) a2 := iv_l1 c_24 (iv_top a2) (iv_c (0 : Int32) (a := 0) (b := 0) (by decide)) (by decide)
        refine lv_if_eq (tgt := 39) hx hb dX9_chance_26 (by decide) (fun _ => ?_) (fun c_31 => absurd c_31 (by decide))
        refine lv_bipush (v := (-3)) hx hb dX9_chance_39 (by decide) ?_
        exact fiI hx hb hr hlk hK hP hD hS dX9_chance_41 (Nat.le_of_ble_eq_true rfl) (Nat.le_of_ble_eq_true rfl) (⟨(iv_c ((-3) : Int32) (by decide)), rfl⟩)
      · have hP : va_P V.1 vwCl [(y 0, .inr (9, o9_rirrrrrrrrvviii (y 1) py0_1 (y 2) (y 10) (y 19) (y 25) (y 26) (y 30) (y 31) (y 32) o10 o11 py0_12 py0_13 py0_14)), (y 2, .inr (1, o1_iiiiiirrrrrrriiiii py2_0 py2_1 py2_2 py2_3 py2_4 py2_5 (y 3) (y 4) (y 5) (y 6) (y 7) (y 8) (y 9) py2_13 py2_14 py2_15 py2_16 py2_17))] H := hP
        have hD := cpD hP hD
        have b_32 : iv 0 2147483647 a2 := iv_e2 (Int32.not_lt.mp c_25) (iv_c (0 : Int32) (a := 0) (b := 0) (by decide)) (iv_top a2) (by decide)
        have b_33 : iv 5 2147483647 a2 := iv_l2 c_26 (iv_c (4 : Int32) (a := 4) (b := 4) (by decide)) b_32 (by decide)
        refine lv_if_eq (tgt := 39) hx hb dX9_chance_26 (by decide) (fun _ => ?_) (fun c_35 => absurd c_35 (by decide))
        refine lv_bipush (v := (-3)) hx hb dX9_chance_39 (by decide) ?_
        exact fiI hx hb hr hlk hK hP hD hS dX9_chance_41 (Nat.le_of_ble_eq_true rfl) (Nat.le_of_ble_eq_true rfl) (⟨(iv_c ((-3) : Int32) (by decide)), rfl⟩)
      · have hP : va_P V.1 vwCl [(y 0, .inr (9, o9_rirrrrrrrrvviii (y 1) py0_1 (y 2) (y 10) (y 19) (y 25) (y 26) (y 30) (y 31) (y 32) o10 o11 py0_12 py0_13 py0_14)), (y 2, .inr (1, o1_iiiiiirrrrrrriiiii py2_0 py2_1 py2_2 py2_3 py2_4 py2_5 (y 3) (y 4) (y 5) (y 6) (y 7) (y 8) (y 9) py2_13 py2_14 py2_15 py2_16 py2_17))] H := hP
        have hD := cpD hP hD
        have b_36 : iv 0 2147483647 a2 := iv_e2 (Int32.not_lt.mp c_27) (iv_c (0 : Int32) (a := 0) (b := 0) (by decide)) (iv_top a2) (by decide)
        have b_37 : iv 0 4 a2 := iv_e1 (Int32.not_lt.mp c_28) b_36 (iv_c (4 : Int32) (a := 4) (b := 4) (by decide)) (by decide)
        refine lv_if_eq (tgt := 39) hx hb dX9_chance_26 (by decide) (fun c_39 => absurd c_39 (by decide)) (fun _ => ?_)
        refine lv_iload_n hx hb dX9_chance_29 rfl (lv_at hl 3 rfl) ?_
        refine lv_if_lt (tgt := 39) hx hb dX9_chance_30 (by decide) (fun c_40 => ?_) (fun c_40 => ?_)
        · have b_41 : iv (-2147483648) (-1) a3 := iv_l1 c_40 (iv_top a3) (iv_c (0 : Int32) (a := 0) (b := 0) (by decide)) (by decide)
          refine lv_bipush (v := (-3)) hx hb dX9_chance_39 (by decide) ?_
          exact fiI hx hb hr hlk hK hP hD hS dX9_chance_41 (Nat.le_of_ble_eq_true rfl) (Nat.le_of_ble_eq_true rfl) (⟨(iv_c ((-3) : Int32) (by decide)), rfl⟩)
        · have b_42 : iv 0 2147483647 a3 := iv_e2 (Int32.not_lt.mp c_40) (iv_c (0 : Int32) (a := 0) (b := 0) (by decide)) (iv_top a3) (by decide)
          refine lv_iload_n hx hb dX9_chance_33 rfl (lv_at hl 3 rfl) ?_
          refine lv_bipush (v := 7) hx hb dX9_chance_34 (by decide) ?_
          refine lv_icmp_le (tgt := 42) hx hb dX9_chance_36 (by decide) (fun c_43 => ?_) (fun c_43 => ?_)
          · have b_44 : iv 0 7 a3 := iv_e1 c_43 b_42 (iv_c (7 : Int32) (a := 7) (b := 7) (by decide)) (by decide)
            refine lv_aload_n hx hb dX9_chance_42 rfl (lv_at hl 0 rfl) ?_
            refine lv_iload_n hx hb dX9_chance_43 rfl (lv_at hl 3 rfl) ?_
            have z_0 := Int32.le_iff_toInt_le.mp (Int32.not_lt.mp c_7)
            have z_1 := Int32.lt_iff_toInt_lt.mp (Int32.not_le.mp c_8)
            have z_2 := congrArg Int32.toInt c_21
            have z_3 := Int32.le_iff_toInt_le.mp (Int32.not_lt.mp c_27)
            have z_4 := Int32.le_iff_toInt_le.mp (Int32.not_lt.mp c_28)
            have z_5 := Int32.le_iff_toInt_le.mp (Int32.not_lt.mp c_40)
            have z_6 := Int32.le_iff_toInt_le.mp c_43
            have k_0 : (0 : Int32).toInt = 0 := (by decide)
            have k_4 : (4 : Int32).toInt = 4 := (by decide)
            have k_7 : (7 : Int32).toInt = 7 := (by decide)
            exact absurd (⟨by omega, by omega, by omega, by omega, by omega, by omega, by omega, by omega⟩) hf0
          · have b_45 : iv 8 2147483647 a3 := iv_l2 (Int32.not_le.mp c_43) (iv_c (7 : Int32) (a := 7) (b := 7) (by decide)) b_42 (by decide)
            refine lv_bipush (v := (-3)) hx hb dX9_chance_39 (by decide) ?_
            exact fiI hx hb hr hlk hK hP hD hS dX9_chance_41 (Nat.le_of_ble_eq_true rfl) (Nat.le_of_ble_eq_true rfl) (⟨(iv_c ((-3) : Int32) (by decide)), rfl⟩)
    · refine lv_iload hx hb dX9_chance_13 (lv_at hl 4 rfl) ?_
      refine lv_iconst (v := 1) hx hb dX9_chance_15 (by decide) ?_
      refine lv_icmp_eq (tgt := 22) hx hb dX9_chance_16 (by decide) (fun c_46 => ?_) (fun c_46 => ?_)
      · have b_47 : iv 1 1 a4 := iv_q c_46 (iv_c (1 : Int32) (a := 1) (b := 1) (by decide))
        refine lv_iload_n hx hb dX9_chance_22 rfl (lv_at hl 2 rfl) ?_
        refine jnI (wr := [(y 0, .inr (9, o9_rirrrrrrrrvviii (y 1) py0_1 (y 2) (y 10) (y 19) (y 25) (y 26) (y 30) (y 31) (y 32) o10 o11 py0_12 py0_13 py0_14)), (y 2, .inr (1, o1_iiiiiirrrrrrriiiii py2_0 py2_1 py2_2 py2_3 py2_4 py2_5 (y 3) (y 4) (y 5) (y 6) (y 7) (y 8) (y 9) py2_13 py2_14 py2_15 py2_16 py2_17))]) (rnS (rest := []) ⟨hx, hb, hml, hown, hg⟩ (k_X9_isHeight_0 l V a2) mt_X9_isHeight q_4_49 ⟨Nat.le_of_ble_eq_true rfl, Nat.le_of_ble_eq_true rfl⟩ hK hP hD hS hA hE [] rfl rfl rfl hl.1 rfl (Nat.le_of_ble_eq_true rfl) dX9_chance_23 ⟨Nat.le_of_ble_eq_true rfl, Nat.le_of_ble_eq_true rfl⟩) hP hD hS hA [] [0, 1] rfl rfl rfl (by decide) (fun r_48 w H locs hw hP hD hS => ?_)
        rcases hw with ⟨c_49, rfl, rfl⟩ | ⟨c_50, c_51, rfl, rfl⟩ | ⟨c_52, c_53, rfl, rfl⟩
        · have hP : va_P V.1 vwCl [(y 0, .inr (9, o9_rirrrrrrrrvviii (y 1) py0_1 (y 2) (y 10) (y 19) (y 25) (y 26) (y 30) (y 31) (y 32) o10 o11 py0_12 py0_13 py0_14)), (y 2, .inr (1, o1_iiiiiirrrrrrriiiii py2_0 py2_1 py2_2 py2_3 py2_4 py2_5 (y 3) (y 4) (y 5) (y 6) (y 7) (y 8) (y 9) py2_13 py2_14 py2_15 py2_16 py2_17))] H := hP
          have hD := cpD hP hD
          have b_54 : iv (-2147483648) (-1) a2 := iv_l1 c_49 (iv_top a2) (iv_c (0 : Int32) (a := 0) (b := 0) (by decide)) (by decide)
          refine lv_if_eq (tgt := 39) hx hb dX9_chance_26 (by decide) (fun _ => ?_) (fun c_56 => absurd c_56 (by decide))
          refine lv_bipush (v := (-3)) hx hb dX9_chance_39 (by decide) ?_
          exact fiI hx hb hr hlk hK hP hD hS dX9_chance_41 (Nat.le_of_ble_eq_true rfl) (Nat.le_of_ble_eq_true rfl) (⟨(iv_c ((-3) : Int32) (by decide)), rfl⟩)
        · have hP : va_P V.1 vwCl [(y 0, .inr (9, o9_rirrrrrrrrvviii (y 1) py0_1 (y 2) (y 10) (y 19) (y 25) (y 26) (y 30) (y 31) (y 32) o10 o11 py0_12 py0_13 py0_14)), (y 2, .inr (1, o1_iiiiiirrrrrrriiiii py2_0 py2_1 py2_2 py2_3 py2_4 py2_5 (y 3) (y 4) (y 5) (y 6) (y 7) (y 8) (y 9) py2_13 py2_14 py2_15 py2_16 py2_17))] H := hP
          have hD := cpD hP hD
          have b_57 : iv 0 2147483647 a2 := iv_e2 (Int32.not_lt.mp c_50) (iv_c (0 : Int32) (a := 0) (b := 0) (by decide)) (iv_top a2) (by decide)
          have b_58 : iv 5 2147483647 a2 := iv_l2 c_51 (iv_c (4 : Int32) (a := 4) (b := 4) (by decide)) b_57 (by decide)
          refine lv_if_eq (tgt := 39) hx hb dX9_chance_26 (by decide) (fun _ => ?_) (fun c_60 => absurd c_60 (by decide))
          refine lv_bipush (v := (-3)) hx hb dX9_chance_39 (by decide) ?_
          exact fiI hx hb hr hlk hK hP hD hS dX9_chance_41 (Nat.le_of_ble_eq_true rfl) (Nat.le_of_ble_eq_true rfl) (⟨(iv_c ((-3) : Int32) (by decide)), rfl⟩)
        · have hP : va_P V.1 vwCl [(y 0, .inr (9, o9_rirrrrrrrrvviii (y 1) py0_1 (y 2) (y 10) (y 19) (y 25) (y 26) (y 30) (y 31) (y 32) o10 o11 py0_12 py0_13 py0_14)), (y 2, .inr (1, o1_iiiiiirrrrrrriiiii py2_0 py2_1 py2_2 py2_3 py2_4 py2_5 (y 3) (y 4) (y 5) (y 6) (y 7) (y 8) (y 9) py2_13 py2_14 py2_15 py2_16 py2_17))] H := hP
          have hD := cpD hP hD
          have b_61 : iv 0 2147483647 a2 := iv_e2 (Int32.not_lt.mp c_52) (iv_c (0 : Int32) (a := 0) (b := 0) (by decide)) (iv_top a2) (by decide)
          have b_62 : iv 0 4 a2 := iv_e1 (Int32.not_lt.mp c_53) b_61 (iv_c (4 : Int32) (a := 4) (b := 4) (by decide)) (by decide)
          refine lv_if_eq (tgt := 39) hx hb dX9_chance_26 (by decide) (fun c_64 => absurd c_64 (by decide)) (fun _ => ?_)
          refine lv_iload_n hx hb dX9_chance_29 rfl (lv_at hl 3 rfl) ?_
          refine lv_if_lt (tgt := 39) hx hb dX9_chance_30 (by decide) (fun c_65 => ?_) (fun c_65 => ?_)
          · have b_66 : iv (-2147483648) (-1) a3 := iv_l1 c_65 (iv_top a3) (iv_c (0 : Int32) (a := 0) (b := 0) (by decide)) (by decide)
            refine lv_bipush (v := (-3)) hx hb dX9_chance_39 (by decide) ?_
            exact fiI hx hb hr hlk hK hP hD hS dX9_chance_41 (Nat.le_of_ble_eq_true rfl) (Nat.le_of_ble_eq_true rfl) (⟨(iv_c ((-3) : Int32) (by decide)), rfl⟩)
          · have b_67 : iv 0 2147483647 a3 := iv_e2 (Int32.not_lt.mp c_65) (iv_c (0 : Int32) (a := 0) (b := 0) (by decide)) (iv_top a3) (by decide)
            refine lv_iload_n hx hb dX9_chance_33 rfl (lv_at hl 3 rfl) ?_
            refine lv_bipush (v := 7) hx hb dX9_chance_34 (by decide) ?_
            refine lv_icmp_le (tgt := 42) hx hb dX9_chance_36 (by decide) (fun c_68 => ?_) (fun c_68 => ?_)
            · have b_69 : iv 0 7 a3 := iv_e1 c_68 b_67 (iv_c (7 : Int32) (a := 7) (b := 7) (by decide)) (by decide)
              refine lv_aload_n hx hb dX9_chance_42 rfl (lv_at hl 0 rfl) ?_
              refine lv_iload_n hx hb dX9_chance_43 rfl (lv_at hl 3 rfl) ?_
              have z_0 := Int32.le_iff_toInt_le.mp (Int32.not_lt.mp c_7)
              have z_1 := Int32.lt_iff_toInt_lt.mp (Int32.not_le.mp c_8)
              have z_2 : ¬ ((a4 : Int32).toInt = (0 : Int32).toInt) := fun q9 => c_21 (Int32.toInt_inj.mp q9)
              have z_3 := congrArg Int32.toInt c_46
              have z_4 := Int32.le_iff_toInt_le.mp (Int32.not_lt.mp c_52)
              have z_5 := Int32.le_iff_toInt_le.mp (Int32.not_lt.mp c_53)
              have z_6 := Int32.le_iff_toInt_le.mp (Int32.not_lt.mp c_65)
              have z_7 := Int32.le_iff_toInt_le.mp c_68
              have k_0 : (0 : Int32).toInt = 0 := (by decide)
              have k_1 : (1 : Int32).toInt = 1 := (by decide)
              have k_4 : (4 : Int32).toInt = 4 := (by decide)
              have k_7 : (7 : Int32).toInt = 7 := (by decide)
              exact absurd (⟨by omega, by omega, by omega, by omega, by omega, by omega, by omega, by omega⟩) hf0
            · have b_70 : iv 8 2147483647 a3 := iv_l2 (Int32.not_le.mp c_68) (iv_c (7 : Int32) (a := 7) (b := 7) (by decide)) b_67 (by decide)
              refine lv_bipush (v := (-3)) hx hb dX9_chance_39 (by decide) ?_
              exact fiI hx hb hr hlk hK hP hD hS dX9_chance_41 (Nat.le_of_ble_eq_true rfl) (Nat.le_of_ble_eq_true rfl) (⟨(iv_c ((-3) : Int32) (by decide)), rfl⟩)
      · refine lv_bipush (v := (-2)) hx hb dX9_chance_19 (by decide) ?_
        exact fiI hx hb hr hlk hK hP hD hS dX9_chance_21 (Nat.le_of_ble_eq_true rfl) (Nat.le_of_ble_eq_true rfl) (⟨(iv_c ((-2) : Int32) (by decide)), rfl⟩)
set_option maxHeartbeats 4000000 in
set_option maxRecDepth 100000 in
theorem k_X9_chance_2 (l : Launch) (V : GV) (y : Nat → Nat) (D9 : Nat → Int32) (a1 : Int32) (a2 : Int32) (a3 : Int32) (a4 : Int32) (py0_1 : Int32) (o11 : Value) (py0_12 : Int32) (py0_13 : Int32) (py0_14 : Int32) (py2_0 : Int32) (py2_1 : Int32) (py2_2 : Int32) (py2_3 : Int32) (py2_4 : Int32) (py2_5 : Int32) (py2_13 : Int32) (py2_14 : Int32) (py2_15 : Int32) (py2_16 : Int32) (py2_17 : Int32) (fy3 : Nat → Int32) (fy9 : Nat → Int32) (fy20 : Nat → Int32) (fy21 : Nat → Int32) (fy22 : Nat → Int32) (bpy0_1 : iv 0 900 py0_1) (bpy0_12 : iv 0 9999 py0_12) (bpy0_13 : iv 0 9 py0_13) (bpy2_1 : iv 0 4 py2_1) (bpy2_2 : iv 0 4 py2_2) (bpy2_3 : iv 0 8 py2_3) (bpy2_4 : iv 0 9999 py2_4) (bpy2_5 : iv 0 9 py2_5) (bpy2_13 : iv 0 900 py2_13) (bpy2_14 : iv 0 900 py2_14) (bpy2_15 : iv 0 900 py2_15) (bpy2_16 : iv 0 900 py2_16) (bpy2_17 : iv 0 900 py2_17) (tfy20 : ∀ j, iv 0 10 (fy20 j)) (hf0 : 0 ≤ (a1 : Int32).toInt) (hf1 : (a1 : Int32).toInt < (py2_1 : Int32).toInt) (hf2 : 0 ≤ (a2 : Int32).toInt) (hf3 : (a2 : Int32).toInt ≤ 4) (hf4 : 0 ≤ (a3 : Int32).toInt) (hf5 : (a3 : Int32).toInt ≤ 7) (hf6 : 0 ≤ (a4 : Int32).toInt) (hf7 : (a4 : Int32).toInt ≤ 1) (hL9 : LW D9 fy3 fy9 py2_14 py2_15 py2_16 py2_17) (hK9 : KN D9 fy20) : Ct l V yX9_chance (.code yX9_chance cX9_chance 6 (some .int)) 8 [.ref (y 0), .int a1, .int a2, .int a3, .int a4] [(y 0, .inr (9, o9_rirrrrrrrrnviii (y 1) py0_1 (y 2) (y 10) (y 19) (y 25) (y 26) (y 30) (y 31) (y 32) o11 py0_12 py0_13 py0_14)), (y 2, .inr (1, o1_iiiiiirrrrrrriiiii py2_0 py2_1 py2_2 py2_3 py2_4 py2_5 (y 3) (y 4) (y 5) (y 6) (y 7) (y 8) (y 9) py2_13 py2_14 py2_15 py2_16 py2_17)), (y 3, aI V 4 fy3), (y 9, aI V 900 fy9), (y 19, .inr (4, o4_rrrrrr (y 2) (y 20) (y 21) (y 22) (y 23) (y 24))), (y 20, aI V 2000 fy20), (y 21, aI V 6 fy21), (y 22, aI V 64 fy22)] 10 46481 (QI V (fun (r : Int32) (w : va_W) => ∃ (n : Nat) (L : Nat) (Yw : Nat → Nat) (wa : Nat) (wb : Nat) (g0 : Nat → Int32) (g1 : Nat → Int32) (g2 : Nat → Int32) (ww0 : Int32) (ww5 : Int32) (ww6 : Int32) (ww14 : Int32) (ww15 : Int32) (ww16 : Int32) (wew1 : Nat → Int32) (wew2 : Nat → Int32) (wew3 : Nat → Int32) (wew4 : Nat → Int32) (wew5 : Nat → Int32) (wew6 : Nat → Int32) (wew7 : Nat → Int32) (wew8 : Nat → Int32) (wew9 : Nat → Int32), (1 ≤ n ∧ n ≤ 3646) ∧ (1 ≤ L ∧ L ≤ 10000) ∧ (∀ j, iv 0 10 (g0 j)) ∧ iv 0 4 ww0 ∧ iv 0 ((n : Int)) ww5 ∧ iv 0 4 ww6 ∧ iv 0 4 ww14 ∧ iv 0 9 ww15 ∧ iv 0 ((n : Int)) ww16 ∧ (∀ j, iv 0 ((L : Int) - 1) (wew1 j)) ∧ (∀ j, iv 0 ((n : Int)) (wew4 j)) ∧ (∀ j, iv 0 (4 * (n : Int) - 1) (wew5 j)) ∧ (∀ j, iv 0 ((n : Int) - 1) (wew6 j)) ∧ (∀ j, iv 0 ((n : Int) - 1) (wew7 j)) ∧ (WA ww5 wew4 wew1) ∧ (WB ww16 ww6 ww5 wew6) ∧ (WC ww5 wew2) ∧ (ww0 = py2_1) ∧ KN D9 g0 ∧ w = [(y 0, .inr (9, o9_rirrrrrrrrrviii (y 1) py0_1 (y 2) (y 10) (y 19) (y 25) (y 26) (y 30) (y 31) (y 32) (Yw 0) o11 py0_12 py0_13 py0_14)), (y 2, .inr (1, o1_iiiiiirrrrrrriiiii py2_0 py2_1 py2_2 py2_3 py2_4 py2_5 (y 3) (y 4) (y 5) (y 6) (y 7) (y 8) (y 9) py2_13 py2_14 py2_15 py2_16 py2_17)), (y 3, aI V 4 fy3), (y 9, aI V 900 fy9), (y 19, .inr (4, o4_rrrrrr (y 2) (y 20) (y 21) (y 22) (y 23) (y 24))), (y 20, aI V 2000 g0), (y 21, aI V 6 g1), (y 22, aI V 64 g2), (Yw 0, .inr (8, o8_iirrriirrrrrrriii ww0 (nI n) (Yw 1) (Yw 2) wa ww5 ww6 (y 19) (Yw 4) (Yw 5) (Yw 6) (Yw 7) (Yw 8) wb ww14 ww15 ww16)), (Yw 1, aI V n wew1), (Yw 2, aI V n wew2), (wa, aI V n wew3), (Yw 4, aI V L wew4), (Yw 5, aI V n wew5), (Yw 6, aI V (n * 4) wew6), (Yw 7, aI V n wew7), (Yw 8, aI V 4 wew8), (wb, aI V n wew9)])) := by
  refine Ct.of (by decide) (Nat.le_of_ble_eq_true rfl) (fun p e s m below meth c A ls hx hb hr hml hown hlk hnm hg hP hK hD hE hA hS hl => ?_)
  have hl : lv_has ls 6 [(0, .ref (y 0)), (1, .int a1), (2, .int a2), (3, .int a3), (4, .int a4)] := hl
  refine lv_aload_n hx hb dX9_chance_0 rfl (lv_at hl 0 rfl) ?_
  refine lv_iload_n hx hb dX9_chance_1 rfl (lv_at hl 1 rfl) ?_
  refine jnI (wr := [(y 3, aI V 4 fy3), (y 9, aI V 900 fy9), (y 19, .inr (4, o4_rrrrrr (y 2) (y 20) (y 21) (y 22) (y 23) (y 24))), (y 20, aI V 2000 fy20), (y 21, aI V 6 fy21), (y 22, aI V 64 fy22)]) (rnV (rest := []) ⟨hx, hb, hml, hown, hg⟩ (k_X9_isHill_0 l V y a1 py0_1 (.null) o11 py0_12 py0_13 py0_14 py2_0 py2_1 py2_2 py2_3 py2_4 py2_5 py2_13 py2_14 py2_15 py2_16 py2_17 bpy0_1 bpy0_12 bpy0_13 bpy2_1 bpy2_2 bpy2_3 bpy2_4 bpy2_5 bpy2_13 bpy2_14 bpy2_15 bpy2_16 bpy2_17) mt_X9_isHill q_3_122 ⟨Nat.le_of_ble_eq_true rfl, Nat.le_of_ble_eq_true rfl⟩ hK hP hD hS hA hE [0, 1] rfl rfl 0 rfl rfl rfl rfl hl.1 rfl (Nat.le_of_ble_eq_true rfl) dX9_chance_2 ⟨Nat.le_of_ble_eq_true rfl, Nat.le_of_ble_eq_true rfl⟩) hP hD hS hA [0, 1] [2, 3, 4, 5, 6, 7] rfl rfl rfl (by decide) (fun r_1 w H locs hw hP hD hS => ?_)
  rcases hw with ⟨c_2, rfl, et_3, rfl⟩ | ⟨c_4, c_5, rfl, et_6, rfl⟩ | ⟨c_7, c_8, rfl, et_9, rfl⟩
  · have hP : va_P V.1 vwCl [(y 3, aI V 4 fy3), (y 9, aI V 900 fy9), (y 19, .inr (4, o4_rrrrrr (y 2) (y 20) (y 21) (y 22) (y 23) (y 24))), (y 20, aI V 2000 fy20), (y 21, aI V 6 fy21), (y 22, aI V 64 fy22), (y 0, .inr (9, o9_rirrrrrrrrnviii (y 1) py0_1 (y 2) (y 10) (y 19) (y 25) (y 26) (y 30) (y 31) (y 32) o11 py0_12 py0_13 py0_14)), (y 2, .inr (1, o1_iiiiiirrrrrrriiiii py2_0 py2_1 py2_2 py2_3 py2_4 py2_5 (y 3) (y 4) (y 5) (y 6) (y 7) (y 8) (y 9) py2_13 py2_14 py2_15 py2_16 py2_17))] H := hP
    have hD := cpD hP hD
    have b_10 : iv (-2147483648) (-1) a1 := iv_l1 c_2 (iv_top a1) (iv_c (0 : Int32) (a := 0) (b := 0) (by decide)) (by first | decide | omega)
    refine lv_if_eq (tgt := 19) hx hb dX9_chance_5 (by decide) (fun _ => ?_) (fun c_12 => absurd c_12 (by decide))
    refine lv_bipush (v := (-2)) hx hb dX9_chance_19 (by decide) ?_
    have z_0 := Int32.lt_iff_toInt_lt.mp c_2
    have k_0 : (0 : Int32).toInt = 0 := (by decide)
    exfalso
    have g_0 := hf0
    have g_1 := hf1
    have g_2 := hf2
    have g_3 := hf3
    have g_4 := hf4
    have g_5 := hf5
    have g_6 := hf6
    have g_7 := hf7
    omega
  · have hP : va_P V.1 vwCl [(y 3, aI V 4 fy3), (y 9, aI V 900 fy9), (y 19, .inr (4, o4_rrrrrr (y 2) (y 20) (y 21) (y 22) (y 23) (y 24))), (y 20, aI V 2000 fy20), (y 21, aI V 6 fy21), (y 22, aI V 64 fy22), (y 0, .inr (9, o9_rirrrrrrrrnviii (y 1) py0_1 (y 2) (y 10) (y 19) (y 25) (y 26) (y 30) (y 31) (y 32) o11 py0_12 py0_13 py0_14)), (y 2, .inr (1, o1_iiiiiirrrrrrriiiii py2_0 py2_1 py2_2 py2_3 py2_4 py2_5 (y 3) (y 4) (y 5) (y 6) (y 7) (y 8) (y 9) py2_13 py2_14 py2_15 py2_16 py2_17))] H := hP
    have hD := cpD hP hD
    have b_13 : iv 0 2147483647 a1 := iv_e2 (Int32.not_lt.mp c_4) (iv_c (0 : Int32) (a := 0) (b := 0) (by decide)) (iv_top a1) (by first | decide | omega)
    refine lv_if_eq (tgt := 19) hx hb dX9_chance_5 (by decide) (fun _ => ?_) (fun c_15 => absurd c_15 (by decide))
    refine lv_bipush (v := (-2)) hx hb dX9_chance_19 (by decide) ?_
    have z_0 := Int32.le_iff_toInt_le.mp (Int32.not_lt.mp c_4)
    have z_1 := Int32.le_iff_toInt_le.mp c_5
    have k_0 : (0 : Int32).toInt = 0 := (by decide)
    exfalso
    have g_0 := hf0
    have g_1 := hf1
    have g_2 := hf2
    have g_3 := hf3
    have g_4 := hf4
    have g_5 := hf5
    have g_6 := hf6
    have g_7 := hf7
    omega
  · have hP : va_P V.1 vwCl [(y 3, aI V 4 fy3), (y 9, aI V 900 fy9), (y 19, .inr (4, o4_rrrrrr (y 2) (y 20) (y 21) (y 22) (y 23) (y 24))), (y 20, aI V 2000 fy20), (y 21, aI V 6 fy21), (y 22, aI V 64 fy22), (y 0, .inr (9, o9_rirrrrrrrrnviii (y 1) py0_1 (y 2) (y 10) (y 19) (y 25) (y 26) (y 30) (y 31) (y 32) o11 py0_12 py0_13 py0_14)), (y 2, .inr (1, o1_iiiiiirrrrrrriiiii py2_0 py2_1 py2_2 py2_3 py2_4 py2_5 (y 3) (y 4) (y 5) (y 6) (y 7) (y 8) (y 9) py2_13 py2_14 py2_15 py2_16 py2_17))] H := hP
    have hD := cpD hP hD
    have b_16 : iv 0 2147483647 a1 := iv_e2 (Int32.not_lt.mp c_7) (iv_c (0 : Int32) (a := 0) (b := 0) (by decide)) (iv_top a1) (by first | decide | omega)
    have b_17 : iv 0 3 a1 := iv_l1 (Int32.not_le.mp c_8) b_16 bpy2_1 (by first | decide | omega)
    have b_18 : iv 1 4 py2_1 := iv_l2 (Int32.not_le.mp c_8) b_16 bpy2_1 (by first | decide | omega)
    refine lv_if_eq (tgt := 19) hx hb dX9_chance_5 (by decide) (fun c_20 => absurd c_20 (by decide)) (fun _ => ?_)
    refine lv_iload hx hb dX9_chance_8 (lv_at hl 4 rfl) ?_
    refine lv_if_eq (tgt := 22) hx hb dX9_chance_10 (by decide) (fun c_21 => ?_) (fun c_21 => ?_)
    · have b_22 : iv 0 0 a4 := iv_q c_21 (iv_c (0 : Int32) (a := 0) (b := 0) (by decide))
      refine lv_iload_n hx hb dX9_chance_22 rfl (lv_at hl 2 rfl) ?_
      refine jnI (wr := [(y 3, aI V 4 fy3), (y 9, aI V 900 fy9), (y 19, .inr (4, o4_rrrrrr (y 2) (y 20) (y 21) (y 22) (y 23) (y 24))), (y 20, aI V 2000 fy20), (y 21, aI V 6 fy21), (y 22, aI V 64 fy22), (y 0, .inr (9, o9_rirrrrrrrrnviii (y 1) py0_1 (y 2) (y 10) (y 19) (y 25) (y 26) (y 30) (y 31) (y 32) o11 py0_12 py0_13 py0_14)), (y 2, .inr (1, o1_iiiiiirrrrrrriiiii py2_0 py2_1 py2_2 py2_3 py2_4 py2_5 (y 3) (y 4) (y 5) (y 6) (y 7) (y 8) (y 9) py2_13 py2_14 py2_15 py2_16 py2_17))]) (rnS (rest := []) ⟨hx, hb, hml, hown, hg⟩ (k_X9_isHeight_0 l V a2) mt_X9_isHeight q_4_49 ⟨Nat.le_of_ble_eq_true rfl, Nat.le_of_ble_eq_true rfl⟩ hK hP hD hS hA hE [] rfl rfl rfl hl.1 rfl (Nat.le_of_ble_eq_true rfl) dX9_chance_23 ⟨Nat.le_of_ble_eq_true rfl, Nat.le_of_ble_eq_true rfl⟩) hP hD hS hA [] [0, 1, 2, 3, 4, 5, 6, 7] rfl rfl rfl (by decide) (fun r_23 w H locs hw hP hD hS => ?_)
      rcases hw with ⟨c_24, rfl, rfl⟩ | ⟨c_25, c_26, rfl, rfl⟩ | ⟨c_27, c_28, rfl, rfl⟩
      · have hP : va_P V.1 vwCl [(y 3, aI V 4 fy3), (y 9, aI V 900 fy9), (y 19, .inr (4, o4_rrrrrr (y 2) (y 20) (y 21) (y 22) (y 23) (y 24))), (y 20, aI V 2000 fy20), (y 21, aI V 6 fy21), (y 22, aI V 64 fy22), (y 0, .inr (9, o9_rirrrrrrrrnviii (y 1) py0_1 (y 2) (y 10) (y 19) (y 25) (y 26) (y 30) (y 31) (y 32) o11 py0_12 py0_13 py0_14)), (y 2, .inr (1, o1_iiiiiirrrrrrriiiii py2_0 py2_1 py2_2 py2_3 py2_4 py2_5 (y 3) (y 4) (y 5) (y 6) (y 7) (y 8) (y 9) py2_13 py2_14 py2_15 py2_16 py2_17))] H := hP
        have hD := cpD hP hD
        have b_29 : iv (-2147483648) (-1) a2 := iv_l1 c_24 (iv_top a2) (iv_c (0 : Int32) (a := 0) (b := 0) (by decide)) (by first | decide | omega)
        refine lv_if_eq (tgt := 39) hx hb dX9_chance_26 (by decide) (fun _ => ?_) (fun c_31 => absurd c_31 (by decide))
        refine lv_bipush (v := (-3)) hx hb dX9_chance_39 (by decide) ?_
        have z_0 := Int32.le_iff_toInt_le.mp (Int32.not_lt.mp c_7)
        have z_1 := Int32.lt_iff_toInt_lt.mp (Int32.not_le.mp c_8)
        have z_2 := congrArg Int32.toInt c_21
        have z_3 := Int32.lt_iff_toInt_lt.mp c_24
        have k_0 : (0 : Int32).toInt = 0 := (by decide)
        exfalso
        have g_0 := hf0
        have g_1 := hf1
        have g_2 := hf2
        have g_3 := hf3
        have g_4 := hf4
        have g_5 := hf5
        have g_6 := hf6
        have g_7 := hf7
        omega
      · have hP : va_P V.1 vwCl [(y 3, aI V 4 fy3), (y 9, aI V 900 fy9), (y 19, .inr (4, o4_rrrrrr (y 2) (y 20) (y 21) (y 22) (y 23) (y 24))), (y 20, aI V 2000 fy20), (y 21, aI V 6 fy21), (y 22, aI V 64 fy22), (y 0, .inr (9, o9_rirrrrrrrrnviii (y 1) py0_1 (y 2) (y 10) (y 19) (y 25) (y 26) (y 30) (y 31) (y 32) o11 py0_12 py0_13 py0_14)), (y 2, .inr (1, o1_iiiiiirrrrrrriiiii py2_0 py2_1 py2_2 py2_3 py2_4 py2_5 (y 3) (y 4) (y 5) (y 6) (y 7) (y 8) (y 9) py2_13 py2_14 py2_15 py2_16 py2_17))] H := hP
        have hD := cpD hP hD
        have b_32 : iv 0 2147483647 a2 := iv_e2 (Int32.not_lt.mp c_25) (iv_c (0 : Int32) (a := 0) (b := 0) (by decide)) (iv_top a2) (by first | decide | omega)
        have b_33 : iv 5 2147483647 a2 := iv_l2 c_26 (iv_c (4 : Int32) (a := 4) (b := 4) (by decide)) b_32 (by first | decide | omega)
        refine lv_if_eq (tgt := 39) hx hb dX9_chance_26 (by decide) (fun _ => ?_) (fun c_35 => absurd c_35 (by decide))
        refine lv_bipush (v := (-3)) hx hb dX9_chance_39 (by decide) ?_
        have z_0 := Int32.le_iff_toInt_le.mp (Int32.not_lt.mp c_7)
        have z_1 := Int32.lt_iff_toInt_lt.mp (Int32.not_le.mp c_8)
        have z_2 := congrArg Int32.toInt c_21
        have z_3 := Int32.le_iff_toInt_le.mp (Int32.not_lt.mp c_25)
        have z_4 := Int32.lt_iff_toInt_lt.mp c_26
        have k_0 : (0 : Int32).toInt = 0 := (by decide)
        have k_4 : (4 : Int32).toInt = 4 := (by decide)
        exfalso
        have g_0 := hf0
        have g_1 := hf1
        have g_2 := hf2
        have g_3 := hf3
        have g_4 := hf4
        have g_5 := hf5
        have g_6 := hf6
        have g_7 := hf7
        omega
      · have hP : va_P V.1 vwCl [(y 3, aI V 4 fy3), (y 9, aI V 900 fy9), (y 19, .inr (4, o4_rrrrrr (y 2) (y 20) (y 21) (y 22) (y 23) (y 24))), (y 20, aI V 2000 fy20), (y 21, aI V 6 fy21), (y 22, aI V 64 fy22), (y 0, .inr (9, o9_rirrrrrrrrnviii (y 1) py0_1 (y 2) (y 10) (y 19) (y 25) (y 26) (y 30) (y 31) (y 32) o11 py0_12 py0_13 py0_14)), (y 2, .inr (1, o1_iiiiiirrrrrrriiiii py2_0 py2_1 py2_2 py2_3 py2_4 py2_5 (y 3) (y 4) (y 5) (y 6) (y 7) (y 8) (y 9) py2_13 py2_14 py2_15 py2_16 py2_17))] H := hP
        have hD := cpD hP hD
        have b_36 : iv 0 2147483647 a2 := iv_e2 (Int32.not_lt.mp c_27) (iv_c (0 : Int32) (a := 0) (b := 0) (by decide)) (iv_top a2) (by first | decide | omega)
        have b_37 : iv 0 4 a2 := iv_e1 (Int32.not_lt.mp c_28) b_36 (iv_c (4 : Int32) (a := 4) (b := 4) (by decide)) (by first | decide | omega)
        refine lv_if_eq (tgt := 39) hx hb dX9_chance_26 (by decide) (fun c_39 => absurd c_39 (by decide)) (fun _ => ?_)
        refine lv_iload_n hx hb dX9_chance_29 rfl (lv_at hl 3 rfl) ?_
        refine lv_if_lt (tgt := 39) hx hb dX9_chance_30 (by decide) (fun c_40 => ?_) (fun c_40 => ?_)
        · have b_41 : iv (-2147483648) (-1) a3 := iv_l1 c_40 (iv_top a3) (iv_c (0 : Int32) (a := 0) (b := 0) (by decide)) (by first | decide | omega)
          refine lv_bipush (v := (-3)) hx hb dX9_chance_39 (by decide) ?_
          have z_0 := Int32.le_iff_toInt_le.mp (Int32.not_lt.mp c_7)
          have z_1 := Int32.lt_iff_toInt_lt.mp (Int32.not_le.mp c_8)
          have z_2 := congrArg Int32.toInt c_21
          have z_3 := Int32.le_iff_toInt_le.mp (Int32.not_lt.mp c_27)
          have z_4 := Int32.le_iff_toInt_le.mp (Int32.not_lt.mp c_28)
          have z_5 := Int32.lt_iff_toInt_lt.mp c_40
          have k_0 : (0 : Int32).toInt = 0 := (by decide)
          have k_4 : (4 : Int32).toInt = 4 := (by decide)
          exfalso
          have g_0 := hf0
          have g_1 := hf1
          have g_2 := hf2
          have g_3 := hf3
          have g_4 := hf4
          have g_5 := hf5
          have g_6 := hf6
          have g_7 := hf7
          omega
        · have b_42 : iv 0 2147483647 a3 := iv_e2 (Int32.not_lt.mp c_40) (iv_c (0 : Int32) (a := 0) (b := 0) (by decide)) (iv_top a3) (by first | decide | omega)
          refine lv_iload_n hx hb dX9_chance_33 rfl (lv_at hl 3 rfl) ?_
          refine lv_bipush (v := 7) hx hb dX9_chance_34 (by decide) ?_
          refine lv_icmp_le (tgt := 42) hx hb dX9_chance_36 (by decide) (fun c_43 => ?_) (fun c_43 => ?_)
          · have b_44 : iv 0 7 a3 := iv_e1 c_43 b_42 (iv_c (7 : Int32) (a := 7) (b := 7) (by decide)) (by first | decide | omega)
            refine lv_aload_n hx hb dX9_chance_42 rfl (lv_at hl 0 rfl) ?_
            refine lv_iload_n hx hb dX9_chance_43 rfl (lv_at hl 3 rfl) ?_
            refine jnR (wr := []) (rnV (rest := []) ⟨hx, hb, hml, hown, hg⟩ (k_X9_waysFromNow_1 l V y D9 a3 fy3 fy9 fy20 fy21 fy22 py0_1 o11 py0_12 py0_13 py0_14 py2_0 py2_1 py2_2 py2_3 py2_4 py2_5 py2_13 py2_14 py2_15 py2_16 py2_17 tfy20 bpy0_1 bpy0_12 bpy0_13 (iv_w b_18 (by first | decide | omega)) bpy2_2 bpy2_3 bpy2_4 bpy2_5 bpy2_13 bpy2_14 bpy2_15 bpy2_16 bpy2_17 hL9 hK9) mt_X9_waysFromNow q_4_52 ⟨Nat.le_of_ble_eq_true rfl, Nat.le_of_ble_eq_true rfl⟩ hK hP hD hS hA hE [0, 1, 2, 3, 4, 5, 6, 7] rfl rfl 6 rfl rfl rfl rfl hl.1 rfl (Nat.le_of_ble_eq_true rfl) dX9_chance_44 ⟨Nat.le_of_ble_eq_true rfl, Nat.le_of_ble_eq_true rfl⟩) hP hD hS hA [0, 1, 2, 3, 4, 5, 6, 7] [] rfl rfl rfl (by decide) (fun r_45 w H locs hw hP hD hS => ?_)
            refine W.widen (k := 10) (n := 46481) (Nat.le_of_ble_eq_true rfl) (Nat.le_of_ble_eq_true rfl) ?_
            obtain ⟨n, L, Yw, wa_46, wb_47, f_48, f_49, f_50, v_51, v_52, v_53, v_54, v_55, v_56, f_57, f_58, f_59, f_60, f_61, f_62, f_63, f_64, f_65, hn, hL, tf_48, bv_51, bv_52, bv_53, bv_54, bv_55, bv_56, tf_57, tf_60, tf_61, tf_62, tf_63, eW, g_66, g_67, g_68, g_69, g_70, kn_71, rfl⟩ := hw
            have hP : va_P V.1 vwCl [(y 3, aI V 4 fy3), (y 9, aI V 900 fy9), (y 19, .inr (4, o4_rrrrrr (y 2) (y 20) (y 21) (y 22) (y 23) (y 24))), (y 20, aI V 2000 f_48), (y 21, aI V 6 f_49), (y 22, aI V 64 f_50), (y 0, .inr (9, o9_rirrrrrrrrrviii (y 1) py0_1 (y 2) (y 10) (y 19) (y 25) (y 26) (y 30) (y 31) (y 32) (Yw 0) o11 py0_12 py0_13 py0_14)), (y 2, .inr (1, o1_iiiiiirrrrrrriiiii py2_0 py2_1 py2_2 py2_3 py2_4 py2_5 (y 3) (y 4) (y 5) (y 6) (y 7) (y 8) (y 9) py2_13 py2_14 py2_15 py2_16 py2_17)), (Yw 0, .inr (8, o8_iirrriirrrrrrriii v_51 (nI n) (Yw 1) (Yw 2) wa_46 v_52 v_53 (y 19) (Yw 4) (Yw 5) (Yw 6) (Yw 7) (Yw 8) wb_47 v_54 v_55 v_56)), (Yw 1, aI V n f_57), (Yw 2, aI V n f_58), (wa_46, aI V n f_59), (Yw 4, aI V L f_60), (Yw 5, aI V n f_61), (Yw 6, aI V (n * 4) f_62), (Yw 7, aI V n f_63), (Yw 8, aI V 4 f_64), (wb_47, aI V n f_65)] H := hP
            have hD := cpD hP hD
            rw [← eW]
            refine lv_astore (lv' := [(5, .ref (Yw 0)), (0, .ref (y 0)), (1, .int a1), (2, .int a2), (3, .int a3), (4, .int a4)]) hx hb dX9_chance_47 hl (by decide) rfl (fun ls hl => ?_)
            refine lv_aload hx hb dX9_chance_49 (lv_at hl 0 rfl) ?_
            refine lv_iload_n hx hb dX9_chance_51 rfl (lv_at hl 4 rfl) ?_
            refine jnV (wr := [(y 3, aI V 4 fy3), (y 9, aI V 900 fy9), (y 19, .inr (4, o4_rrrrrr (y 2) (y 20) (y 21) (y 22) (y 23) (y 24))), (y 20, aI V 2000 f_48), (y 21, aI V 6 f_49), (y 22, aI V 64 f_50), (y 0, .inr (9, o9_rirrrrrrrrrviii (y 1) py0_1 (y 2) (y 10) (y 19) (y 25) (y 26) (y 30) (y 31) (y 32) (Yw 0) o11 py0_12 py0_13 py0_14)), (y 2, .inr (1, o1_iiiiiirrrrrrriiiii py2_0 py2_1 py2_2 py2_3 py2_4 py2_5 (y 3) (y 4) (y 5) (y 6) (y 7) (y 8) (y 9) py2_13 py2_14 py2_15 py2_16 py2_17)), (Yw 1, aI V n f_57), (Yw 4, aI V L f_60), (Yw 5, aI V n f_61), (Yw 7, aI V n f_63), (Yw 8, aI V 4 f_64)]) (rnV (rest := []) ⟨hx, hb, hml, hown, hg⟩ (k_X8_spreadByLots_0 l V n Yw y a3 v_51 wa_46 v_52 v_53 wb_47 v_54 v_55 v_56 f_58 f_59 f_62 f_65 hn bv_51 bv_52 bv_53 bv_54 bv_55 bv_56 tf_62) mt_X8_spreadByLots q_5_158 ⟨Nat.le_of_ble_eq_true rfl, Nat.le_of_ble_eq_true rfl⟩ hK hP hD hS hA hE [8, 10, 11, 14, 17] rfl rfl 8 rfl rfl rfl rfl hl.1 rfl (Nat.le_of_ble_eq_true rfl) dX9_chance_52 ⟨Nat.le_of_ble_eq_true rfl, Nat.le_of_ble_eq_true rfl⟩) hP hD hS hA [8, 10, 11, 14, 17] [0, 1, 2, 3, 4, 5, 6, 7, 9, 12, 13, 15, 16] rfl rfl rfl (by decide) (fun  w H locs hw hP hD hS => ?_)
            obtain ⟨wa_72, wb_73, f_74, f_75, rfl⟩ := hw
            have hP : va_P V.1 vwCl [(y 3, aI V 4 fy3), (y 9, aI V 900 fy9), (y 19, .inr (4, o4_rrrrrr (y 2) (y 20) (y 21) (y 22) (y 23) (y 24))), (y 20, aI V 2000 f_48), (y 21, aI V 6 f_49), (y 22, aI V 64 f_50), (y 0, .inr (9, o9_rirrrrrrrrrviii (y 1) py0_1 (y 2) (y 10) (y 19) (y 25) (y 26) (y 30) (y 31) (y 32) (Yw 0) o11 py0_12 py0_13 py0_14)), (y 2, .inr (1, o1_iiiiiirrrrrrriiiii py2_0 py2_1 py2_2 py2_3 py2_4 py2_5 (y 3) (y 4) (y 5) (y 6) (y 7) (y 8) (y 9) py2_13 py2_14 py2_15 py2_16 py2_17)), (Yw 1, aI V n f_57), (Yw 4, aI V L f_60), (Yw 5, aI V n f_61), (Yw 7, aI V n f_63), (Yw 8, aI V 4 f_64), (Yw 0, .inr (8, o8_iirrriirrrrrrriii v_51 (nI n) (Yw 1) (Yw 2) wa_72 v_52 v_53 (y 19) (Yw 4) (Yw 5) (Yw 6) (Yw 7) (Yw 8) wb_73 v_54 v_55 v_56)), (Yw 2, aI V n f_58), (wa_72, aI V n f_74), (Yw 6, aI V (n * 4) f_62), (wb_73, aI V n f_75)] H := hP
            have hD := cpD hP hD
            refine lv_aload hx hb dX9_chance_55 (lv_at hl 0 rfl) ?_
            refine lv_iload_n hx hb dX9_chance_57 rfl (lv_at hl 2 rfl) ?_
            refine lv_iload_n hx hb dX9_chance_58 rfl (lv_at hl 3 rfl) ?_
            refine lv_iconst (v := 4) hx hb dX9_chance_59 (by decide) ?_
            refine jnI (wr := [(y 3, aI V 4 fy3), (y 9, aI V 900 fy9), (y 19, .inr (4, o4_rrrrrr (y 2) (y 20) (y 21) (y 22) (y 23) (y 24))), (y 20, aI V 2000 f_48), (y 21, aI V 6 f_49), (y 22, aI V 64 f_50), (y 0, .inr (9, o9_rirrrrrrrrrviii (y 1) py0_1 (y 2) (y 10) (y 19) (y 25) (y 26) (y 30) (y 31) (y 32) (Yw 0) o11 py0_12 py0_13 py0_14)), (y 2, .inr (1, o1_iiiiiirrrrrrriiiii py2_0 py2_1 py2_2 py2_3 py2_4 py2_5 (y 3) (y 4) (y 5) (y 6) (y 7) (y 8) (y 9) py2_13 py2_14 py2_15 py2_16 py2_17)), (Yw 4, aI V L f_60), (Yw 5, aI V n f_61), (Yw 7, aI V n f_63), (Yw 8, aI V 4 f_64), (Yw 2, aI V n f_58), (Yw 6, aI V (n * 4) f_62), (wb_73, aI V n f_75)]) (rnV (rest := []) ⟨hx, hb, hml, hown, hg⟩ (k_X8_weightOf_0 l V n L Yw y a1 a2 4 v_51 wa_72 v_52 v_53 wb_73 v_54 v_55 v_56 f_57 f_74 hn hL b_17 bv_51 bv_52 bv_53 bv_54 bv_55 bv_56 tf_57) mt_X8_weightOf q_4_186 ⟨Nat.le_of_ble_eq_true rfl, Nat.le_of_ble_eq_true rfl⟩ hK hP hD hS hA hE [13, 8, 15] rfl rfl 13 rfl rfl rfl rfl hl.1 rfl (Nat.le_of_ble_eq_true rfl) dX9_chance_60 ⟨Nat.le_of_ble_eq_true rfl, Nat.le_of_ble_eq_true rfl⟩) hP hD hS hA [13, 8, 15] [0, 1, 2, 3, 4, 5, 6, 7, 9, 10, 11, 12, 14, 16, 17] rfl rfl rfl (by decide) (fun r_76 w H locs hw hP hD hS => ?_)
            subst hw
            have hP : va_P V.1 vwCl [(y 3, aI V 4 fy3), (y 9, aI V 900 fy9), (y 19, .inr (4, o4_rrrrrr (y 2) (y 20) (y 21) (y 22) (y 23) (y 24))), (y 20, aI V 2000 f_48), (y 21, aI V 6 f_49), (y 22, aI V 64 f_50), (y 0, .inr (9, o9_rirrrrrrrrrviii (y 1) py0_1 (y 2) (y 10) (y 19) (y 25) (y 26) (y 30) (y 31) (y 32) (Yw 0) o11 py0_12 py0_13 py0_14)), (y 2, .inr (1, o1_iiiiiirrrrrrriiiii py2_0 py2_1 py2_2 py2_3 py2_4 py2_5 (y 3) (y 4) (y 5) (y 6) (y 7) (y 8) (y 9) py2_13 py2_14 py2_15 py2_16 py2_17)), (Yw 4, aI V L f_60), (Yw 5, aI V n f_61), (Yw 7, aI V n f_63), (Yw 8, aI V 4 f_64), (Yw 2, aI V n f_58), (Yw 6, aI V (n * 4) f_62), (wb_73, aI V n f_75), (Yw 0, .inr (8, o8_iirrriirrrrrrriii v_51 (nI n) (Yw 1) (Yw 2) wa_72 v_52 v_53 (y 19) (Yw 4) (Yw 5) (Yw 6) (Yw 7) (Yw 8) wb_73 v_54 v_55 v_56)), (Yw 1, aI V n f_57), (wa_72, aI V n f_74)] H := hP
            have hD := cpD hP hD
            refine lv_iload_n hx hb dX9_chance_63 rfl (lv_at hl 4 rfl) ?_
            refine lv_iload hx hb dX9_chance_64 (lv_at hl 5 rfl) ?_
            refine jnI (wr := [(y 3, aI V 4 fy3), (y 9, aI V 900 fy9), (y 19, .inr (4, o4_rrrrrr (y 2) (y 20) (y 21) (y 22) (y 23) (y 24))), (y 20, aI V 2000 f_48), (y 21, aI V 6 f_49), (y 22, aI V 64 f_50), (y 0, .inr (9, o9_rirrrrrrrrrviii (y 1) py0_1 (y 2) (y 10) (y 19) (y 25) (y 26) (y 30) (y 31) (y 32) (Yw 0) o11 py0_12 py0_13 py0_14)), (y 2, .inr (1, o1_iiiiiirrrrrrriiiii py2_0 py2_1 py2_2 py2_3 py2_4 py2_5 (y 3) (y 4) (y 5) (y 6) (y 7) (y 8) (y 9) py2_13 py2_14 py2_15 py2_16 py2_17)), (Yw 4, aI V L f_60), (Yw 5, aI V n f_61), (Yw 7, aI V n f_63), (Yw 8, aI V 4 f_64), (Yw 2, aI V n f_58), (Yw 6, aI V (n * 4) f_62), (wb_73, aI V n f_75), (Yw 0, .inr (8, o8_iirrriirrrrrrriii v_51 (nI n) (Yw 1) (Yw 2) wa_72 v_52 v_53 (y 19) (Yw 4) (Yw 5) (Yw 6) (Yw 7) (Yw 8) wb_73 v_54 v_55 v_56)), (Yw 1, aI V n f_57), (wa_72, aI V n f_74)]) (rnS (rest := []) ⟨hx, hb, hml, hown, hg⟩ (k_X9_inLowestTerms_0 l V r_76 a3 a4) mt_X9_inLowestTerms q_5_163 ⟨Nat.le_of_ble_eq_true rfl, Nat.le_of_ble_eq_true rfl⟩ hK hP hD hS hA hE [] rfl rfl rfl hl.1 rfl (Nat.le_of_ble_eq_true rfl) dX9_chance_66 ⟨Nat.le_of_ble_eq_true rfl, Nat.le_of_ble_eq_true rfl⟩) hP hD hS hA [] [0, 1, 2, 3, 4, 5, 6, 7, 8, 9, 10, 11, 12, 13, 14, 15, 16, 17] rfl rfl rfl (by decide) (fun r_77 w H locs hw hP hD hS => ?_)
            subst hw
            have hP : va_P V.1 vwCl [(y 3, aI V 4 fy3), (y 9, aI V 900 fy9), (y 19, .inr (4, o4_rrrrrr (y 2) (y 20) (y 21) (y 22) (y 23) (y 24))), (y 20, aI V 2000 f_48), (y 21, aI V 6 f_49), (y 22, aI V 64 f_50), (y 0, .inr (9, o9_rirrrrrrrrrviii (y 1) py0_1 (y 2) (y 10) (y 19) (y 25) (y 26) (y 30) (y 31) (y 32) (Yw 0) o11 py0_12 py0_13 py0_14)), (y 2, .inr (1, o1_iiiiiirrrrrrriiiii py2_0 py2_1 py2_2 py2_3 py2_4 py2_5 (y 3) (y 4) (y 5) (y 6) (y 7) (y 8) (y 9) py2_13 py2_14 py2_15 py2_16 py2_17)), (Yw 4, aI V L f_60), (Yw 5, aI V n f_61), (Yw 7, aI V n f_63), (Yw 8, aI V 4 f_64), (Yw 2, aI V n f_58), (Yw 6, aI V (n * 4) f_62), (wb_73, aI V n f_75), (Yw 0, .inr (8, o8_iirrriirrrrrrriii v_51 (nI n) (Yw 1) (Yw 2) wa_72 v_52 v_53 (y 19) (Yw 4) (Yw 5) (Yw 6) (Yw 7) (Yw 8) wb_73 v_54 v_55 v_56)), (Yw 1, aI V n f_57), (wa_72, aI V n f_74)] H := hP
            have hD := cpD hP hD
            have hP := subP (ws' := [(y 0, .inr (9, o9_rirrrrrrrrrviii (y 1) py0_1 (y 2) (y 10) (y 19) (y 25) (y 26) (y 30) (y 31) (y 32) (Yw 0) o11 py0_12 py0_13 py0_14)), (y 2, .inr (1, o1_iiiiiirrrrrrriiiii py2_0 py2_1 py2_2 py2_3 py2_4 py2_5 (y 3) (y 4) (y 5) (y 6) (y 7) (y 8) (y 9) py2_13 py2_14 py2_15 py2_16 py2_17)), (y 3, aI V 4 fy3), (y 9, aI V 900 fy9), (y 19, .inr (4, o4_rrrrrr (y 2) (y 20) (y 21) (y 22) (y 23) (y 24))), (y 20, aI V 2000 f_48), (y 21, aI V 6 f_49), (y 22, aI V 64 f_50), (Yw 4, aI V L f_60), (Yw 5, aI V n f_61), (Yw 7, aI V n f_63), (Yw 8, aI V 4 f_64), (Yw 2, aI V n f_58), (Yw 6, aI V (n * 4) f_62), (wb_73, aI V n f_75), (Yw 0, .inr (8, o8_iirrriirrrrrrriii v_51 (nI n) (Yw 1) (Yw 2) wa_72 v_52 v_53 (y 19) (Yw 4) (Yw 5) (Yw 6) (Yw 7) (Yw 8) wb_73 v_54 v_55 v_56)), (Yw 1, aI V n f_57), (wa_72, aI V n f_74)]) hP [6, 7, 0, 1, 2, 3, 4, 5, 8, 9, 10, 11, 12, 13, 14, 15, 16, 17] rfl
            have hD := subD hP hD [6, 7, 0, 1, 2, 3, 4, 5, 8, 9, 10, 11, 12, 13, 14, 15, 16, 17] rfl rfl
            exact fiI hx hb hr hlk hK (subP (ws' := [(y 0, .inr (9, o9_rirrrrrrrrrviii (y 1) py0_1 (y 2) (y 10) (y 19) (y 25) (y 26) (y 30) (y 31) (y 32) (Yw 0) o11 py0_12 py0_13 py0_14)), (y 2, .inr (1, o1_iiiiiirrrrrrriiiii py2_0 py2_1 py2_2 py2_3 py2_4 py2_5 (y 3) (y 4) (y 5) (y 6) (y 7) (y 8) (y 9) py2_13 py2_14 py2_15 py2_16 py2_17)), (y 3, aI V 4 fy3), (y 9, aI V 900 fy9), (y 19, .inr (4, o4_rrrrrr (y 2) (y 20) (y 21) (y 22) (y 23) (y 24))), (y 20, aI V 2000 f_48), (y 21, aI V 6 f_49), (y 22, aI V 64 f_50), (Yw 0, .inr (8, o8_iirrriirrrrrrriii v_51 (nI n) (Yw 1) (Yw 2) wa_72 v_52 v_53 (y 19) (Yw 4) (Yw 5) (Yw 6) (Yw 7) (Yw 8) wb_73 v_54 v_55 v_56)), (Yw 1, aI V n f_57), (Yw 2, aI V n f_58), (wa_72, aI V n f_74), (Yw 4, aI V L f_60), (Yw 5, aI V n f_61), (Yw 6, aI V (n * 4) f_62), (Yw 7, aI V n f_63), (Yw 8, aI V 4 f_64), (wb_73, aI V n f_75)]) hP [0, 1, 2, 3, 4, 5, 6, 7, 15, 16, 12, 17, 8, 9, 13, 10, 11, 14] rfl) (hD.sub [0, 1, 2, 3, 4, 5, 6, 7, 15, 16, 12, 17, 8, 9, 13, 10, 11, 14] rfl rfl) hS dX9_chance_69 (Nat.le_of_ble_eq_true rfl) (Nat.le_of_ble_eq_true rfl) (⟨n, L, Yw, wa_72, wb_73, f_48, f_49, f_50, v_51, v_52, v_53, v_54, v_55, v_56, f_57, f_58, f_74, f_60, f_61, f_62, f_63, f_64, f_75, hn, hL, tf_48, bv_51, bv_52, bv_53, bv_54, bv_55, bv_56, tf_57, tf_60, tf_61, tf_62, tf_63, g_66, g_67, g_68, g_70, kn_71, rfl⟩)
          · have b_78 : iv 8 2147483647 a3 := iv_l2 (Int32.not_le.mp c_43) (iv_c (7 : Int32) (a := 7) (b := 7) (by decide)) b_42 (by first | decide | omega)
            refine lv_bipush (v := (-3)) hx hb dX9_chance_39 (by decide) ?_
            have z_0 := Int32.le_iff_toInt_le.mp (Int32.not_lt.mp c_7)
            have z_1 := Int32.lt_iff_toInt_lt.mp (Int32.not_le.mp c_8)
            have z_2 := congrArg Int32.toInt c_21
            have z_3 := Int32.le_iff_toInt_le.mp (Int32.not_lt.mp c_27)
            have z_4 := Int32.le_iff_toInt_le.mp (Int32.not_lt.mp c_28)
            have z_5 := Int32.le_iff_toInt_le.mp (Int32.not_lt.mp c_40)
            have z_6 := Int32.lt_iff_toInt_lt.mp (Int32.not_le.mp c_43)
            have k_0 : (0 : Int32).toInt = 0 := (by decide)
            have k_4 : (4 : Int32).toInt = 4 := (by decide)
            have k_7 : (7 : Int32).toInt = 7 := (by decide)
            exfalso
            have g_0 := hf0
            have g_1 := hf1
            have g_2 := hf2
            have g_3 := hf3
            have g_4 := hf4
            have g_5 := hf5
            have g_6 := hf6
            have g_7 := hf7
            omega
    · refine lv_iload hx hb dX9_chance_13 (lv_at hl 4 rfl) ?_
      refine lv_iconst (v := 1) hx hb dX9_chance_15 (by decide) ?_
      refine lv_icmp_eq (tgt := 22) hx hb dX9_chance_16 (by decide) (fun c_79 => ?_) (fun c_79 => ?_)
      · have b_80 : iv 1 1 a4 := iv_q c_79 (iv_c (1 : Int32) (a := 1) (b := 1) (by decide))
        refine lv_iload_n hx hb dX9_chance_22 rfl (lv_at hl 2 rfl) ?_
        refine jnI (wr := [(y 3, aI V 4 fy3), (y 9, aI V 900 fy9), (y 19, .inr (4, o4_rrrrrr (y 2) (y 20) (y 21) (y 22) (y 23) (y 24))), (y 20, aI V 2000 fy20), (y 21, aI V 6 fy21), (y 22, aI V 64 fy22), (y 0, .inr (9, o9_rirrrrrrrrnviii (y 1) py0_1 (y 2) (y 10) (y 19) (y 25) (y 26) (y 30) (y 31) (y 32) o11 py0_12 py0_13 py0_14)), (y 2, .inr (1, o1_iiiiiirrrrrrriiiii py2_0 py2_1 py2_2 py2_3 py2_4 py2_5 (y 3) (y 4) (y 5) (y 6) (y 7) (y 8) (y 9) py2_13 py2_14 py2_15 py2_16 py2_17))]) (rnS (rest := []) ⟨hx, hb, hml, hown, hg⟩ (k_X9_isHeight_0 l V a2) mt_X9_isHeight q_4_49 ⟨Nat.le_of_ble_eq_true rfl, Nat.le_of_ble_eq_true rfl⟩ hK hP hD hS hA hE [] rfl rfl rfl hl.1 rfl (Nat.le_of_ble_eq_true rfl) dX9_chance_23 ⟨Nat.le_of_ble_eq_true rfl, Nat.le_of_ble_eq_true rfl⟩) hP hD hS hA [] [0, 1, 2, 3, 4, 5, 6, 7] rfl rfl rfl (by decide) (fun r_81 w H locs hw hP hD hS => ?_)
        rcases hw with ⟨c_82, rfl, rfl⟩ | ⟨c_83, c_84, rfl, rfl⟩ | ⟨c_85, c_86, rfl, rfl⟩
        · have hP : va_P V.1 vwCl [(y 3, aI V 4 fy3), (y 9, aI V 900 fy9), (y 19, .inr (4, o4_rrrrrr (y 2) (y 20) (y 21) (y 22) (y 23) (y 24))), (y 20, aI V 2000 fy20), (y 21, aI V 6 fy21), (y 22, aI V 64 fy22), (y 0, .inr (9, o9_rirrrrrrrrnviii (y 1) py0_1 (y 2) (y 10) (y 19) (y 25) (y 26) (y 30) (y 31) (y 32) o11 py0_12 py0_13 py0_14)), (y 2, .inr (1, o1_iiiiiirrrrrrriiiii py2_0 py2_1 py2_2 py2_3 py2_4 py2_5 (y 3) (y 4) (y 5) (y 6) (y 7) (y 8) (y 9) py2_13 py2_14 py2_15 py2_16 py2_17))] H := hP
          have hD := cpD hP hD
          have b_87 : iv (-2147483648) (-1) a2 := iv_l1 c_82 (iv_top a2) (iv_c (0 : Int32) (a := 0) (b := 0) (by decide)) (by first | decide | omega)
          refine lv_if_eq (tgt := 39) hx hb dX9_chance_26 (by decide) (fun _ => ?_) (fun c_89 => absurd c_89 (by decide))
          refine lv_bipush (v := (-3)) hx hb dX9_chance_39 (by decide) ?_
          have z_0 := Int32.le_iff_toInt_le.mp (Int32.not_lt.mp c_7)
          have z_1 := Int32.lt_iff_toInt_lt.mp (Int32.not_le.mp c_8)
          have z_2 : ¬ ((a4 : Int32).toInt = (0 : Int32).toInt) := fun q9 => c_21 (Int32.toInt_inj.mp q9)
          have z_3 := congrArg Int32.toInt c_79
          have z_4 := Int32.lt_iff_toInt_lt.mp c_82
          have k_0 : (0 : Int32).toInt = 0 := (by decide)
          have k_1 : (1 : Int32).toInt = 1 := (by decide)
          exfalso
          have g_0 := hf0
          have g_1 := hf1
          have g_2 := hf2
          have g_3 := hf3
          have g_4 := hf4
          have g_5 := hf5
          have g_6 := hf6
          have g_7 := hf7
          omega
        · have hP : va_P V.1 vwCl [(y 3, aI V 4 fy3), (y 9, aI V 900 fy9), (y 19, .inr (4, o4_rrrrrr (y 2) (y 20) (y 21) (y 22) (y 23) (y 24))), (y 20, aI V 2000 fy20), (y 21, aI V 6 fy21), (y 22, aI V 64 fy22), (y 0, .inr (9, o9_rirrrrrrrrnviii (y 1) py0_1 (y 2) (y 10) (y 19) (y 25) (y 26) (y 30) (y 31) (y 32) o11 py0_12 py0_13 py0_14)), (y 2, .inr (1, o1_iiiiiirrrrrrriiiii py2_0 py2_1 py2_2 py2_3 py2_4 py2_5 (y 3) (y 4) (y 5) (y 6) (y 7) (y 8) (y 9) py2_13 py2_14 py2_15 py2_16 py2_17))] H := hP
          have hD := cpD hP hD
          have b_90 : iv 0 2147483647 a2 := iv_e2 (Int32.not_lt.mp c_83) (iv_c (0 : Int32) (a := 0) (b := 0) (by decide)) (iv_top a2) (by first | decide | omega)
          have b_91 : iv 5 2147483647 a2 := iv_l2 c_84 (iv_c (4 : Int32) (a := 4) (b := 4) (by decide)) b_90 (by first | decide | omega)
          refine lv_if_eq (tgt := 39) hx hb dX9_chance_26 (by decide) (fun _ => ?_) (fun c_93 => absurd c_93 (by decide))
          refine lv_bipush (v := (-3)) hx hb dX9_chance_39 (by decide) ?_
          have z_0 := Int32.le_iff_toInt_le.mp (Int32.not_lt.mp c_7)
          have z_1 := Int32.lt_iff_toInt_lt.mp (Int32.not_le.mp c_8)
          have z_2 : ¬ ((a4 : Int32).toInt = (0 : Int32).toInt) := fun q9 => c_21 (Int32.toInt_inj.mp q9)
          have z_3 := congrArg Int32.toInt c_79
          have z_4 := Int32.le_iff_toInt_le.mp (Int32.not_lt.mp c_83)
          have z_5 := Int32.lt_iff_toInt_lt.mp c_84
          have k_0 : (0 : Int32).toInt = 0 := (by decide)
          have k_1 : (1 : Int32).toInt = 1 := (by decide)
          have k_4 : (4 : Int32).toInt = 4 := (by decide)
          exfalso
          have g_0 := hf0
          have g_1 := hf1
          have g_2 := hf2
          have g_3 := hf3
          have g_4 := hf4
          have g_5 := hf5
          have g_6 := hf6
          have g_7 := hf7
          omega
        · have hP : va_P V.1 vwCl [(y 3, aI V 4 fy3), (y 9, aI V 900 fy9), (y 19, .inr (4, o4_rrrrrr (y 2) (y 20) (y 21) (y 22) (y 23) (y 24))), (y 20, aI V 2000 fy20), (y 21, aI V 6 fy21), (y 22, aI V 64 fy22), (y 0, .inr (9, o9_rirrrrrrrrnviii (y 1) py0_1 (y 2) (y 10) (y 19) (y 25) (y 26) (y 30) (y 31) (y 32) o11 py0_12 py0_13 py0_14)), (y 2, .inr (1, o1_iiiiiirrrrrrriiiii py2_0 py2_1 py2_2 py2_3 py2_4 py2_5 (y 3) (y 4) (y 5) (y 6) (y 7) (y 8) (y 9) py2_13 py2_14 py2_15 py2_16 py2_17))] H := hP
          have hD := cpD hP hD
          have b_94 : iv 0 2147483647 a2 := iv_e2 (Int32.not_lt.mp c_85) (iv_c (0 : Int32) (a := 0) (b := 0) (by decide)) (iv_top a2) (by first | decide | omega)
          have b_95 : iv 0 4 a2 := iv_e1 (Int32.not_lt.mp c_86) b_94 (iv_c (4 : Int32) (a := 4) (b := 4) (by decide)) (by first | decide | omega)
          refine lv_if_eq (tgt := 39) hx hb dX9_chance_26 (by decide) (fun c_97 => absurd c_97 (by decide)) (fun _ => ?_)
          refine lv_iload_n hx hb dX9_chance_29 rfl (lv_at hl 3 rfl) ?_
          refine lv_if_lt (tgt := 39) hx hb dX9_chance_30 (by decide) (fun c_98 => ?_) (fun c_98 => ?_)
          · have b_99 : iv (-2147483648) (-1) a3 := iv_l1 c_98 (iv_top a3) (iv_c (0 : Int32) (a := 0) (b := 0) (by decide)) (by first | decide | omega)
            refine lv_bipush (v := (-3)) hx hb dX9_chance_39 (by decide) ?_
            have z_0 := Int32.le_iff_toInt_le.mp (Int32.not_lt.mp c_7)
            have z_1 := Int32.lt_iff_toInt_lt.mp (Int32.not_le.mp c_8)
            have z_2 : ¬ ((a4 : Int32).toInt = (0 : Int32).toInt) := fun q9 => c_21 (Int32.toInt_inj.mp q9)
            have z_3 := congrArg Int32.toInt c_79
            have z_4 := Int32.le_iff_toInt_le.mp (Int32.not_lt.mp c_85)
            have z_5 := Int32.le_iff_toInt_le.mp (Int32.not_lt.mp c_86)
            have z_6 := Int32.lt_iff_toInt_lt.mp c_98
            have k_0 : (0 : Int32).toInt = 0 := (by decide)
            have k_1 : (1 : Int32).toInt = 1 := (by decide)
            have k_4 : (4 : Int32).toInt = 4 := (by decide)
            exfalso
            have g_0 := hf0
            have g_1 := hf1
            have g_2 := hf2
            have g_3 := hf3
            have g_4 := hf4
            have g_5 := hf5
            have g_6 := hf6
            have g_7 := hf7
            omega
          · have b_100 : iv 0 2147483647 a3 := iv_e2 (Int32.not_lt.mp c_98) (iv_c (0 : Int32) (a := 0) (b := 0) (by decide)) (iv_top a3) (by first | decide | omega)
            refine lv_iload_n hx hb dX9_chance_33 rfl (lv_at hl 3 rfl) ?_
            refine lv_bipush (v := 7) hx hb dX9_chance_34 (by decide) ?_
            refine lv_icmp_le (tgt := 42) hx hb dX9_chance_36 (by decide) (fun c_101 => ?_) (fun c_101 => ?_)
            · have b_102 : iv 0 7 a3 := iv_e1 c_101 b_100 (iv_c (7 : Int32) (a := 7) (b := 7) (by decide)) (by first | decide | omega)
              refine lv_aload_n hx hb dX9_chance_42 rfl (lv_at hl 0 rfl) ?_
              refine lv_iload_n hx hb dX9_chance_43 rfl (lv_at hl 3 rfl) ?_
              refine jnR (wr := []) (rnV (rest := []) ⟨hx, hb, hml, hown, hg⟩ (k_X9_waysFromNow_1 l V y D9 a3 fy3 fy9 fy20 fy21 fy22 py0_1 o11 py0_12 py0_13 py0_14 py2_0 py2_1 py2_2 py2_3 py2_4 py2_5 py2_13 py2_14 py2_15 py2_16 py2_17 tfy20 bpy0_1 bpy0_12 bpy0_13 (iv_w b_18 (by first | decide | omega)) bpy2_2 bpy2_3 bpy2_4 bpy2_5 bpy2_13 bpy2_14 bpy2_15 bpy2_16 bpy2_17 hL9 hK9) mt_X9_waysFromNow q_4_52 ⟨Nat.le_of_ble_eq_true rfl, Nat.le_of_ble_eq_true rfl⟩ hK hP hD hS hA hE [0, 1, 2, 3, 4, 5, 6, 7] rfl rfl 6 rfl rfl rfl rfl hl.1 rfl (Nat.le_of_ble_eq_true rfl) dX9_chance_44 ⟨Nat.le_of_ble_eq_true rfl, Nat.le_of_ble_eq_true rfl⟩) hP hD hS hA [0, 1, 2, 3, 4, 5, 6, 7] [] rfl rfl rfl (by decide) (fun r_103 w H locs hw hP hD hS => ?_)
              refine W.widen (k := 10) (n := 46481) (Nat.le_of_ble_eq_true rfl) (Nat.le_of_ble_eq_true rfl) ?_
              obtain ⟨n, L, Yw, wa_104, wb_105, f_106, f_107, f_108, v_109, v_110, v_111, v_112, v_113, v_114, f_115, f_116, f_117, f_118, f_119, f_120, f_121, f_122, f_123, hn, hL, tf_106, bv_109, bv_110, bv_111, bv_112, bv_113, bv_114, tf_115, tf_118, tf_119, tf_120, tf_121, eW, g_124, g_125, g_126, g_127, g_128, kn_129, rfl⟩ := hw
              have hP : va_P V.1 vwCl [(y 3, aI V 4 fy3), (y 9, aI V 900 fy9), (y 19, .inr (4, o4_rrrrrr (y 2) (y 20) (y 21) (y 22) (y 23) (y 24))), (y 20, aI V 2000 f_106), (y 21, aI V 6 f_107), (y 22, aI V 64 f_108), (y 0, .inr (9, o9_rirrrrrrrrrviii (y 1) py0_1 (y 2) (y 10) (y 19) (y 25) (y 26) (y 30) (y 31) (y 32) (Yw 0) o11 py0_12 py0_13 py0_14)), (y 2, .inr (1, o1_iiiiiirrrrrrriiiii py2_0 py2_1 py2_2 py2_3 py2_4 py2_5 (y 3) (y 4) (y 5) (y 6) (y 7) (y 8) (y 9) py2_13 py2_14 py2_15 py2_16 py2_17)), (Yw 0, .inr (8, o8_iirrriirrrrrrriii v_109 (nI n) (Yw 1) (Yw 2) wa_104 v_110 v_111 (y 19) (Yw 4) (Yw 5) (Yw 6) (Yw 7) (Yw 8) wb_105 v_112 v_113 v_114)), (Yw 1, aI V n f_115), (Yw 2, aI V n f_116), (wa_104, aI V n f_117), (Yw 4, aI V L f_118), (Yw 5, aI V n f_119), (Yw 6, aI V (n * 4) f_120), (Yw 7, aI V n f_121), (Yw 8, aI V 4 f_122), (wb_105, aI V n f_123)] H := hP
              have hD := cpD hP hD
              rw [← eW]
              refine lv_astore (lv' := [(5, .ref (Yw 0)), (0, .ref (y 0)), (1, .int a1), (2, .int a2), (3, .int a3), (4, .int a4)]) hx hb dX9_chance_47 hl (by decide) rfl (fun ls hl => ?_)
              refine lv_aload hx hb dX9_chance_49 (lv_at hl 0 rfl) ?_
              refine lv_iload_n hx hb dX9_chance_51 rfl (lv_at hl 4 rfl) ?_
              refine jnV (wr := [(y 3, aI V 4 fy3), (y 9, aI V 900 fy9), (y 19, .inr (4, o4_rrrrrr (y 2) (y 20) (y 21) (y 22) (y 23) (y 24))), (y 20, aI V 2000 f_106), (y 21, aI V 6 f_107), (y 22, aI V 64 f_108), (y 0, .inr (9, o9_rirrrrrrrrrviii (y 1) py0_1 (y 2) (y 10) (y 19) (y 25) (y 26) (y 30) (y 31) (y 32) (Yw 0) o11 py0_12 py0_13 py0_14)), (y 2, .inr (1, o1_iiiiiirrrrrrriiiii py2_0 py2_1 py2_2 py2_3 py2_4 py2_5 (y 3) (y 4) (y 5) (y 6) (y 7) (y 8) (y 9) py2_13 py2_14 py2_15 py2_16 py2_17)), (Yw 1, aI V n f_115), (Yw 4, aI V L f_118), (Yw 5, aI V n f_119), (Yw 7, aI V n f_121), (Yw 8, aI V 4 f_122)]) (rnV (rest := []) ⟨hx, hb, hml, hown, hg⟩ (k_X8_spreadByLots_0 l V n Yw y a3 v_109 wa_104 v_110 v_111 wb_105 v_112 v_113 v_114 f_116 f_117 f_120 f_123 hn bv_109 bv_110 bv_111 bv_112 bv_113 bv_114 tf_120) mt_X8_spreadByLots q_5_158 ⟨Nat.le_of_ble_eq_true rfl, Nat.le_of_ble_eq_true rfl⟩ hK hP hD hS hA hE [8, 10, 11, 14, 17] rfl rfl 8 rfl rfl rfl rfl hl.1 rfl (Nat.le_of_ble_eq_true rfl) dX9_chance_52 ⟨Nat.le_of_ble_eq_true rfl, Nat.le_of_ble_eq_true rfl⟩) hP hD hS hA [8, 10, 11, 14, 17] [0, 1, 2, 3, 4, 5, 6, 7, 9, 12, 13, 15, 16] rfl rfl rfl (by decide) (fun  w H locs hw hP hD hS => ?_)
              obtain ⟨wa_130, wb_131, f_132, f_133, rfl⟩ := hw
              have hP : va_P V.1 vwCl [(y 3, aI V 4 fy3), (y 9, aI V 900 fy9), (y 19, .inr (4, o4_rrrrrr (y 2) (y 20) (y 21) (y 22) (y 23) (y 24))), (y 20, aI V 2000 f_106), (y 21, aI V 6 f_107), (y 22, aI V 64 f_108), (y 0, .inr (9, o9_rirrrrrrrrrviii (y 1) py0_1 (y 2) (y 10) (y 19) (y 25) (y 26) (y 30) (y 31) (y 32) (Yw 0) o11 py0_12 py0_13 py0_14)), (y 2, .inr (1, o1_iiiiiirrrrrrriiiii py2_0 py2_1 py2_2 py2_3 py2_4 py2_5 (y 3) (y 4) (y 5) (y 6) (y 7) (y 8) (y 9) py2_13 py2_14 py2_15 py2_16 py2_17)), (Yw 1, aI V n f_115), (Yw 4, aI V L f_118), (Yw 5, aI V n f_119), (Yw 7, aI V n f_121), (Yw 8, aI V 4 f_122), (Yw 0, .inr (8, o8_iirrriirrrrrrriii v_109 (nI n) (Yw 1) (Yw 2) wa_130 v_110 v_111 (y 19) (Yw 4) (Yw 5) (Yw 6) (Yw 7) (Yw 8) wb_131 v_112 v_113 v_114)), (Yw 2, aI V n f_116), (wa_130, aI V n f_132), (Yw 6, aI V (n * 4) f_120), (wb_131, aI V n f_133)] H := hP
              have hD := cpD hP hD
              refine lv_aload hx hb dX9_chance_55 (lv_at hl 0 rfl) ?_
              refine lv_iload_n hx hb dX9_chance_57 rfl (lv_at hl 2 rfl) ?_
              refine lv_iload_n hx hb dX9_chance_58 rfl (lv_at hl 3 rfl) ?_
              refine lv_iconst (v := 4) hx hb dX9_chance_59 (by decide) ?_
              refine jnI (wr := [(y 3, aI V 4 fy3), (y 9, aI V 900 fy9), (y 19, .inr (4, o4_rrrrrr (y 2) (y 20) (y 21) (y 22) (y 23) (y 24))), (y 20, aI V 2000 f_106), (y 21, aI V 6 f_107), (y 22, aI V 64 f_108), (y 0, .inr (9, o9_rirrrrrrrrrviii (y 1) py0_1 (y 2) (y 10) (y 19) (y 25) (y 26) (y 30) (y 31) (y 32) (Yw 0) o11 py0_12 py0_13 py0_14)), (y 2, .inr (1, o1_iiiiiirrrrrrriiiii py2_0 py2_1 py2_2 py2_3 py2_4 py2_5 (y 3) (y 4) (y 5) (y 6) (y 7) (y 8) (y 9) py2_13 py2_14 py2_15 py2_16 py2_17)), (Yw 4, aI V L f_118), (Yw 5, aI V n f_119), (Yw 7, aI V n f_121), (Yw 8, aI V 4 f_122), (Yw 2, aI V n f_116), (Yw 6, aI V (n * 4) f_120), (wb_131, aI V n f_133)]) (rnV (rest := []) ⟨hx, hb, hml, hown, hg⟩ (k_X8_weightOf_0 l V n L Yw y a1 a2 4 v_109 wa_130 v_110 v_111 wb_131 v_112 v_113 v_114 f_115 f_132 hn hL b_17 bv_109 bv_110 bv_111 bv_112 bv_113 bv_114 tf_115) mt_X8_weightOf q_4_186 ⟨Nat.le_of_ble_eq_true rfl, Nat.le_of_ble_eq_true rfl⟩ hK hP hD hS hA hE [13, 8, 15] rfl rfl 13 rfl rfl rfl rfl hl.1 rfl (Nat.le_of_ble_eq_true rfl) dX9_chance_60 ⟨Nat.le_of_ble_eq_true rfl, Nat.le_of_ble_eq_true rfl⟩) hP hD hS hA [13, 8, 15] [0, 1, 2, 3, 4, 5, 6, 7, 9, 10, 11, 12, 14, 16, 17] rfl rfl rfl (by decide) (fun r_134 w H locs hw hP hD hS => ?_)
              subst hw
              have hP : va_P V.1 vwCl [(y 3, aI V 4 fy3), (y 9, aI V 900 fy9), (y 19, .inr (4, o4_rrrrrr (y 2) (y 20) (y 21) (y 22) (y 23) (y 24))), (y 20, aI V 2000 f_106), (y 21, aI V 6 f_107), (y 22, aI V 64 f_108), (y 0, .inr (9, o9_rirrrrrrrrrviii (y 1) py0_1 (y 2) (y 10) (y 19) (y 25) (y 26) (y 30) (y 31) (y 32) (Yw 0) o11 py0_12 py0_13 py0_14)), (y 2, .inr (1, o1_iiiiiirrrrrrriiiii py2_0 py2_1 py2_2 py2_3 py2_4 py2_5 (y 3) (y 4) (y 5) (y 6) (y 7) (y 8) (y 9) py2_13 py2_14 py2_15 py2_16 py2_17)), (Yw 4, aI V L f_118), (Yw 5, aI V n f_119), (Yw 7, aI V n f_121), (Yw 8, aI V 4 f_122), (Yw 2, aI V n f_116), (Yw 6, aI V (n * 4) f_120), (wb_131, aI V n f_133), (Yw 0, .inr (8, o8_iirrriirrrrrrriii v_109 (nI n) (Yw 1) (Yw 2) wa_130 v_110 v_111 (y 19) (Yw 4) (Yw 5) (Yw 6) (Yw 7) (Yw 8) wb_131 v_112 v_113 v_114)), (Yw 1, aI V n f_115), (wa_130, aI V n f_132)] H := hP
              have hD := cpD hP hD
              refine lv_iload_n hx hb dX9_chance_63 rfl (lv_at hl 4 rfl) ?_
              refine lv_iload hx hb dX9_chance_64 (lv_at hl 5 rfl) ?_
              refine jnI (wr := [(y 3, aI V 4 fy3), (y 9, aI V 900 fy9), (y 19, .inr (4, o4_rrrrrr (y 2) (y 20) (y 21) (y 22) (y 23) (y 24))), (y 20, aI V 2000 f_106), (y 21, aI V 6 f_107), (y 22, aI V 64 f_108), (y 0, .inr (9, o9_rirrrrrrrrrviii (y 1) py0_1 (y 2) (y 10) (y 19) (y 25) (y 26) (y 30) (y 31) (y 32) (Yw 0) o11 py0_12 py0_13 py0_14)), (y 2, .inr (1, o1_iiiiiirrrrrrriiiii py2_0 py2_1 py2_2 py2_3 py2_4 py2_5 (y 3) (y 4) (y 5) (y 6) (y 7) (y 8) (y 9) py2_13 py2_14 py2_15 py2_16 py2_17)), (Yw 4, aI V L f_118), (Yw 5, aI V n f_119), (Yw 7, aI V n f_121), (Yw 8, aI V 4 f_122), (Yw 2, aI V n f_116), (Yw 6, aI V (n * 4) f_120), (wb_131, aI V n f_133), (Yw 0, .inr (8, o8_iirrriirrrrrrriii v_109 (nI n) (Yw 1) (Yw 2) wa_130 v_110 v_111 (y 19) (Yw 4) (Yw 5) (Yw 6) (Yw 7) (Yw 8) wb_131 v_112 v_113 v_114)), (Yw 1, aI V n f_115), (wa_130, aI V n f_132)]) (rnS (rest := []) ⟨hx, hb, hml, hown, hg⟩ (k_X9_inLowestTerms_0 l V r_134 a3 a4) mt_X9_inLowestTerms q_5_163 ⟨Nat.le_of_ble_eq_true rfl, Nat.le_of_ble_eq_true rfl⟩ hK hP hD hS hA hE [] rfl rfl rfl hl.1 rfl (Nat.le_of_ble_eq_true rfl) dX9_chance_66 ⟨Nat.le_of_ble_eq_true rfl, Nat.le_of_ble_eq_true rfl⟩) hP hD hS hA [] [0, 1, 2, 3, 4, 5, 6, 7, 8, 9, 10, 11, 12, 13, 14, 15, 16, 17] rfl rfl rfl (by decide) (fun r_135 w H locs hw hP hD hS => ?_)
              subst hw
              have hP : va_P V.1 vwCl [(y 3, aI V 4 fy3), (y 9, aI V 900 fy9), (y 19, .inr (4, o4_rrrrrr (y 2) (y 20) (y 21) (y 22) (y 23) (y 24))), (y 20, aI V 2000 f_106), (y 21, aI V 6 f_107), (y 22, aI V 64 f_108), (y 0, .inr (9, o9_rirrrrrrrrrviii (y 1) py0_1 (y 2) (y 10) (y 19) (y 25) (y 26) (y 30) (y 31) (y 32) (Yw 0) o11 py0_12 py0_13 py0_14)), (y 2, .inr (1, o1_iiiiiirrrrrrriiiii py2_0 py2_1 py2_2 py2_3 py2_4 py2_5 (y 3) (y 4) (y 5) (y 6) (y 7) (y 8) (y 9) py2_13 py2_14 py2_15 py2_16 py2_17)), (Yw 4, aI V L f_118), (Yw 5, aI V n f_119), (Yw 7, aI V n f_121), (Yw 8, aI V 4 f_122), (Yw 2, aI V n f_116), (Yw 6, aI V (n * 4) f_120), (wb_131, aI V n f_133), (Yw 0, .inr (8, o8_iirrriirrrrrrriii v_109 (nI n) (Yw 1) (Yw 2) wa_130 v_110 v_111 (y 19) (Yw 4) (Yw 5) (Yw 6) (Yw 7) (Yw 8) wb_131 v_112 v_113 v_114)), (Yw 1, aI V n f_115), (wa_130, aI V n f_132)] H := hP
              have hD := cpD hP hD
              have hP := subP (ws' := [(y 0, .inr (9, o9_rirrrrrrrrrviii (y 1) py0_1 (y 2) (y 10) (y 19) (y 25) (y 26) (y 30) (y 31) (y 32) (Yw 0) o11 py0_12 py0_13 py0_14)), (y 2, .inr (1, o1_iiiiiirrrrrrriiiii py2_0 py2_1 py2_2 py2_3 py2_4 py2_5 (y 3) (y 4) (y 5) (y 6) (y 7) (y 8) (y 9) py2_13 py2_14 py2_15 py2_16 py2_17)), (y 3, aI V 4 fy3), (y 9, aI V 900 fy9), (y 19, .inr (4, o4_rrrrrr (y 2) (y 20) (y 21) (y 22) (y 23) (y 24))), (y 20, aI V 2000 f_106), (y 21, aI V 6 f_107), (y 22, aI V 64 f_108), (Yw 4, aI V L f_118), (Yw 5, aI V n f_119), (Yw 7, aI V n f_121), (Yw 8, aI V 4 f_122), (Yw 2, aI V n f_116), (Yw 6, aI V (n * 4) f_120), (wb_131, aI V n f_133), (Yw 0, .inr (8, o8_iirrriirrrrrrriii v_109 (nI n) (Yw 1) (Yw 2) wa_130 v_110 v_111 (y 19) (Yw 4) (Yw 5) (Yw 6) (Yw 7) (Yw 8) wb_131 v_112 v_113 v_114)), (Yw 1, aI V n f_115), (wa_130, aI V n f_132)]) hP [6, 7, 0, 1, 2, 3, 4, 5, 8, 9, 10, 11, 12, 13, 14, 15, 16, 17] rfl
              have hD := subD hP hD [6, 7, 0, 1, 2, 3, 4, 5, 8, 9, 10, 11, 12, 13, 14, 15, 16, 17] rfl rfl
              exact fiI hx hb hr hlk hK (subP (ws' := [(y 0, .inr (9, o9_rirrrrrrrrrviii (y 1) py0_1 (y 2) (y 10) (y 19) (y 25) (y 26) (y 30) (y 31) (y 32) (Yw 0) o11 py0_12 py0_13 py0_14)), (y 2, .inr (1, o1_iiiiiirrrrrrriiiii py2_0 py2_1 py2_2 py2_3 py2_4 py2_5 (y 3) (y 4) (y 5) (y 6) (y 7) (y 8) (y 9) py2_13 py2_14 py2_15 py2_16 py2_17)), (y 3, aI V 4 fy3), (y 9, aI V 900 fy9), (y 19, .inr (4, o4_rrrrrr (y 2) (y 20) (y 21) (y 22) (y 23) (y 24))), (y 20, aI V 2000 f_106), (y 21, aI V 6 f_107), (y 22, aI V 64 f_108), (Yw 0, .inr (8, o8_iirrriirrrrrrriii v_109 (nI n) (Yw 1) (Yw 2) wa_130 v_110 v_111 (y 19) (Yw 4) (Yw 5) (Yw 6) (Yw 7) (Yw 8) wb_131 v_112 v_113 v_114)), (Yw 1, aI V n f_115), (Yw 2, aI V n f_116), (wa_130, aI V n f_132), (Yw 4, aI V L f_118), (Yw 5, aI V n f_119), (Yw 6, aI V (n * 4) f_120), (Yw 7, aI V n f_121), (Yw 8, aI V 4 f_122), (wb_131, aI V n f_133)]) hP [0, 1, 2, 3, 4, 5, 6, 7, 15, 16, 12, 17, 8, 9, 13, 10, 11, 14] rfl) (hD.sub [0, 1, 2, 3, 4, 5, 6, 7, 15, 16, 12, 17, 8, 9, 13, 10, 11, 14] rfl rfl) hS dX9_chance_69 (Nat.le_of_ble_eq_true rfl) (Nat.le_of_ble_eq_true rfl) (⟨n, L, Yw, wa_130, wb_131, f_106, f_107, f_108, v_109, v_110, v_111, v_112, v_113, v_114, f_115, f_116, f_132, f_118, f_119, f_120, f_121, f_122, f_133, hn, hL, tf_106, bv_109, bv_110, bv_111, bv_112, bv_113, bv_114, tf_115, tf_118, tf_119, tf_120, tf_121, g_124, g_125, g_126, g_128, kn_129, rfl⟩)
            · have b_136 : iv 8 2147483647 a3 := iv_l2 (Int32.not_le.mp c_101) (iv_c (7 : Int32) (a := 7) (b := 7) (by decide)) b_100 (by first | decide | omega)
              refine lv_bipush (v := (-3)) hx hb dX9_chance_39 (by decide) ?_
              have z_0 := Int32.le_iff_toInt_le.mp (Int32.not_lt.mp c_7)
              have z_1 := Int32.lt_iff_toInt_lt.mp (Int32.not_le.mp c_8)
              have z_2 : ¬ ((a4 : Int32).toInt = (0 : Int32).toInt) := fun q9 => c_21 (Int32.toInt_inj.mp q9)
              have z_3 := congrArg Int32.toInt c_79
              have z_4 := Int32.le_iff_toInt_le.mp (Int32.not_lt.mp c_85)
              have z_5 := Int32.le_iff_toInt_le.mp (Int32.not_lt.mp c_86)
              have z_6 := Int32.le_iff_toInt_le.mp (Int32.not_lt.mp c_98)
              have z_7 := Int32.lt_iff_toInt_lt.mp (Int32.not_le.mp c_101)
              have k_0 : (0 : Int32).toInt = 0 := (by decide)
              have k_1 : (1 : Int32).toInt = 1 := (by decide)
              have k_4 : (4 : Int32).toInt = 4 := (by decide)
              have k_7 : (7 : Int32).toInt = 7 := (by decide)
              exfalso
              have g_0 := hf0
              have g_1 := hf1
              have g_2 := hf2
              have g_3 := hf3
              have g_4 := hf4
              have g_5 := hf5
              have g_6 := hf6
              have g_7 := hf7
              omega
      · refine lv_bipush (v := (-2)) hx hb dX9_chance_19 (by decide) ?_
        have z_0 := Int32.le_iff_toInt_le.mp (Int32.not_lt.mp c_7)
        have z_1 := Int32.lt_iff_toInt_lt.mp (Int32.not_le.mp c_8)
        have z_2 : ¬ ((a4 : Int32).toInt = (0 : Int32).toInt) := fun q9 => c_21 (Int32.toInt_inj.mp q9)
        have z_3 : ¬ ((a4 : Int32).toInt = (1 : Int32).toInt) := fun q9 => c_79 (Int32.toInt_inj.mp q9)
        have k_0 : (0 : Int32).toInt = 0 := (by decide)
        have k_1 : (1 : Int32).toInt = 1 := (by decide)
        exfalso
        have g_0 := hf0
        have g_1 := hf1
        have g_2 := hf2
        have g_3 := hf3
        have g_4 := hf4
        have g_5 := hf5
        have g_6 := hf6
        have g_7 := hf7
        omega
set_option maxHeartbeats 4000000 in
set_option maxRecDepth 100000 in
theorem k_X9_chance_3 (l : Launch) (V : GV) (n : Nat) (L : Nat) (Yw : Nat → Nat) (y : Nat → Nat) (D9 : Nat → Int32) (a1 : Int32) (a2 : Int32) (a3 : Int32) (a4 : Int32) (py0_1 : Int32) (o11 : Value) (py0_12 : Int32) (py0_13 : Int32) (py0_14 : Int32) (py2_0 : Int32) (py2_1 : Int32) (py2_2 : Int32) (py2_3 : Int32) (py2_4 : Int32) (py2_5 : Int32) (py2_13 : Int32) (py2_14 : Int32) (py2_15 : Int32) (py2_16 : Int32) (py2_17 : Int32) (fy3 : Nat → Int32) (fy9 : Nat → Int32) (fy20 : Nat → Int32) (fy21 : Nat → Int32) (fy22 : Nat → Int32) (pYw0_0 : Int32) (wa : Nat) (pYw0_5 : Int32) (pYw0_6 : Int32) (wb : Nat) (pYw0_14 : Int32) (pYw0_15 : Int32) (pYw0_16 : Int32) (fYw1 : Nat → Int32) (fYw2 : Nat → Int32) (fwa : Nat → Int32) (fYw4 : Nat → Int32) (fYw5 : Nat → Int32) (fYw6 : Nat → Int32) (fYw7 : Nat → Int32) (fYw8 : Nat → Int32) (fwb : Nat → Int32) (hn : 1 ≤ n ∧ n ≤ 3646) (hL : 1 ≤ L ∧ L ≤ 10000) (hq0 : pYw0_0 < py2_1) (bpy0_1 : iv 0 900 py0_1) (bpy0_12 : iv 0 9999 py0_12) (bpy0_13 : iv 0 9 py0_13) (bpy2_1 : iv 0 4 py2_1) (bpy2_2 : iv 0 4 py2_2) (bpy2_3 : iv 0 8 py2_3) (bpy2_4 : iv 0 9999 py2_4) (bpy2_5 : iv 0 9 py2_5) (bpy2_13 : iv 0 900 py2_13) (bpy2_14 : iv 0 900 py2_14) (bpy2_15 : iv 0 900 py2_15) (bpy2_16 : iv 0 900 py2_16) (bpy2_17 : iv 0 900 py2_17) (tfy20 : ∀ j, iv 0 10 (fy20 j)) (bpYw0_0 : iv 0 4 pYw0_0) (bpYw0_5 : iv 0 ((n : Int)) pYw0_5) (bpYw0_6 : iv 0 4 pYw0_6) (bpYw0_14 : iv 0 4 pYw0_14) (bpYw0_15 : iv 0 9 pYw0_15) (bpYw0_16 : iv 0 ((n : Int)) pYw0_16) (tfYw1 : ∀ j, iv 0 ((L : Int) - 1) (fYw1 j)) (tfYw4 : ∀ j, iv 0 ((n : Int)) (fYw4 j)) (tfYw5 : ∀ j, iv 0 (4 * (n : Int) - 1) (fYw5 j)) (tfYw6 : ∀ j, iv 0 ((n : Int) - 1) (fYw6 j)) (tfYw7 : ∀ j, iv 0 ((n : Int) - 1) (fYw7 j)) (hf0 : WA pYw0_5 fYw4 fYw1) (hf1 : WB pYw0_16 pYw0_6 pYw0_5 fYw6) (hf2 : WC pYw0_5 fYw2) (hf3 : 0 ≤ (a1 : Int32).toInt) (hf4 : (a1 : Int32).toInt < (py2_1 : Int32).toInt) (hf5 : 0 ≤ (a2 : Int32).toInt) (hf6 : (a2 : Int32).toInt ≤ 4) (hf7 : 0 ≤ (a3 : Int32).toInt) (hf8 : (a3 : Int32).toInt ≤ 7) (hf9 : 0 ≤ (a4 : Int32).toInt) (hf10 : (a4 : Int32).toInt ≤ 1) (hL9 : LW D9 fy3 fy9 py2_14 py2_15 py2_16 py2_17) (hK9 : KN D9 fy20) : Ct l V yX9_chance (.code yX9_chance cX9_chance 6 (some .int)) 8 [.ref (y 0), .int a1, .int a2, .int a3, .int a4] [(y 0, .inr (9, o9_rirrrrrrrrrviii (y 1) py0_1 (y 2) (y 10) (y 19) (y 25) (y 26) (y 30) (y 31) (y 32) (Yw 0) o11 py0_12 py0_13 py0_14)), (y 2, .inr (1, o1_iiiiiirrrrrrriiiii py2_0 py2_1 py2_2 py2_3 py2_4 py2_5 (y 3) (y 4) (y 5) (y 6) (y 7) (y 8) (y 9) py2_13 py2_14 py2_15 py2_16 py2_17)), (y 3, aI V 4 fy3), (y 9, aI V 900 fy9), (y 19, .inr (4, o4_rrrrrr (y 2) (y 20) (y 21) (y 22) (y 23) (y 24))), (y 20, aI V 2000 fy20), (y 21, aI V 6 fy21), (y 22, aI V 64 fy22), (Yw 0, .inr (8, o8_iirrriirrrrrrriii pYw0_0 (nI n) (Yw 1) (Yw 2) wa pYw0_5 pYw0_6 (y 19) (Yw 4) (Yw 5) (Yw 6) (Yw 7) (Yw 8) wb pYw0_14 pYw0_15 pYw0_16)), (Yw 1, aI V n fYw1), (Yw 2, aI V n fYw2), (wa, aI V n fwa), (Yw 4, aI V L fYw4), (Yw 5, aI V n fYw5), (Yw 6, aI V (n * 4) fYw6), (Yw 7, aI V n fYw7), (Yw 8, aI V 4 fYw8), (wb, aI V n fwb)] 10 46481 (QI V (fun (r : Int32) (w : va_W) => ∃ (n : Nat) (L : Nat) (Yw : Nat → Nat) (wa : Nat) (wb : Nat) (g0 : Nat → Int32) (g1 : Nat → Int32) (g2 : Nat → Int32) (ww0 : Int32) (ww5 : Int32) (ww6 : Int32) (ww14 : Int32) (ww15 : Int32) (ww16 : Int32) (wew1 : Nat → Int32) (wew2 : Nat → Int32) (wew3 : Nat → Int32) (wew4 : Nat → Int32) (wew5 : Nat → Int32) (wew6 : Nat → Int32) (wew7 : Nat → Int32) (wew8 : Nat → Int32) (wew9 : Nat → Int32), (1 ≤ n ∧ n ≤ 3646) ∧ (1 ≤ L ∧ L ≤ 10000) ∧ (∀ j, iv 0 10 (g0 j)) ∧ iv 0 4 ww0 ∧ iv 0 ((n : Int)) ww5 ∧ iv 0 4 ww6 ∧ iv 0 4 ww14 ∧ iv 0 9 ww15 ∧ iv 0 ((n : Int)) ww16 ∧ (∀ j, iv 0 ((L : Int) - 1) (wew1 j)) ∧ (∀ j, iv 0 ((n : Int)) (wew4 j)) ∧ (∀ j, iv 0 (4 * (n : Int) - 1) (wew5 j)) ∧ (∀ j, iv 0 ((n : Int) - 1) (wew6 j)) ∧ (∀ j, iv 0 ((n : Int) - 1) (wew7 j)) ∧ (WA ww5 wew4 wew1) ∧ (WB ww16 ww6 ww5 wew6) ∧ (WC ww5 wew2) ∧ (ww0 = py2_1) ∧ KN D9 g0 ∧ w = [(y 0, .inr (9, o9_rirrrrrrrrrviii (y 1) py0_1 (y 2) (y 10) (y 19) (y 25) (y 26) (y 30) (y 31) (y 32) (Yw 0) o11 py0_12 py0_13 py0_14)), (y 2, .inr (1, o1_iiiiiirrrrrrriiiii py2_0 py2_1 py2_2 py2_3 py2_4 py2_5 (y 3) (y 4) (y 5) (y 6) (y 7) (y 8) (y 9) py2_13 py2_14 py2_15 py2_16 py2_17)), (y 3, aI V 4 fy3), (y 9, aI V 900 fy9), (y 19, .inr (4, o4_rrrrrr (y 2) (y 20) (y 21) (y 22) (y 23) (y 24))), (y 20, aI V 2000 g0), (y 21, aI V 6 g1), (y 22, aI V 64 g2), (Yw 0, .inr (8, o8_iirrriirrrrrrriii ww0 (nI n) (Yw 1) (Yw 2) wa ww5 ww6 (y 19) (Yw 4) (Yw 5) (Yw 6) (Yw 7) (Yw 8) wb ww14 ww15 ww16)), (Yw 1, aI V n wew1), (Yw 2, aI V n wew2), (wa, aI V n wew3), (Yw 4, aI V L wew4), (Yw 5, aI V n wew5), (Yw 6, aI V (n * 4) wew6), (Yw 7, aI V n wew7), (Yw 8, aI V 4 wew8), (wb, aI V n wew9)])) := by
  refine Ct.of (by decide) (Nat.le_of_ble_eq_true rfl) (fun p e s m below meth c A ls hx hb hr hml hown hlk hnm hg hP hK hD hE hA hS hl => ?_)
  have hl : lv_has ls 6 [(0, .ref (y 0)), (1, .int a1), (2, .int a2), (3, .int a3), (4, .int a4)] := hl
  refine lv_aload_n hx hb dX9_chance_0 rfl (lv_at hl 0 rfl) ?_
  refine lv_iload_n hx hb dX9_chance_1 rfl (lv_at hl 1 rfl) ?_
  refine jnI (wr := [(y 3, aI V 4 fy3), (y 9, aI V 900 fy9), (y 19, .inr (4, o4_rrrrrr (y 2) (y 20) (y 21) (y 22) (y 23) (y 24))), (y 20, aI V 2000 fy20), (y 21, aI V 6 fy21), (y 22, aI V 64 fy22), (Yw 0, .inr (8, o8_iirrriirrrrrrriii pYw0_0 (nI n) (Yw 1) (Yw 2) wa pYw0_5 pYw0_6 (y 19) (Yw 4) (Yw 5) (Yw 6) (Yw 7) (Yw 8) wb pYw0_14 pYw0_15 pYw0_16)), (Yw 1, aI V n fYw1), (Yw 2, aI V n fYw2), (wa, aI V n fwa), (Yw 4, aI V L fYw4), (Yw 5, aI V n fYw5), (Yw 6, aI V (n * 4) fYw6), (Yw 7, aI V n fYw7), (Yw 8, aI V 4 fYw8), (wb, aI V n fwb)]) (rnV (rest := []) ⟨hx, hb, hml, hown, hg⟩ (k_X9_isHill_0 l V y a1 py0_1 (.ref (Yw 0)) o11 py0_12 py0_13 py0_14 py2_0 py2_1 py2_2 py2_3 py2_4 py2_5 py2_13 py2_14 py2_15 py2_16 py2_17 bpy0_1 bpy0_12 bpy0_13 bpy2_1 bpy2_2 bpy2_3 bpy2_4 bpy2_5 bpy2_13 bpy2_14 bpy2_15 bpy2_16 bpy2_17) mt_X9_isHill q_3_122 ⟨Nat.le_of_ble_eq_true rfl, Nat.le_of_ble_eq_true rfl⟩ hK hP hD hS hA hE [0, 1] rfl rfl 0 rfl rfl rfl rfl hl.1 rfl (Nat.le_of_ble_eq_true rfl) dX9_chance_2 ⟨Nat.le_of_ble_eq_true rfl, Nat.le_of_ble_eq_true rfl⟩) hP hD hS hA [0, 1] [2, 3, 4, 5, 6, 7, 8, 9, 10, 11, 12, 13, 14, 15, 16, 17] rfl rfl rfl (by decide) (fun r_1 w H locs hw hP hD hS => ?_)
  rcases hw with ⟨c_2, rfl, et_3, rfl⟩ | ⟨c_4, c_5, rfl, et_6, rfl⟩ | ⟨c_7, c_8, rfl, et_9, rfl⟩
  · have hP : va_P V.1 vwCl [(y 3, aI V 4 fy3), (y 9, aI V 900 fy9), (y 19, .inr (4, o4_rrrrrr (y 2) (y 20) (y 21) (y 22) (y 23) (y 24))), (y 20, aI V 2000 fy20), (y 21, aI V 6 fy21), (y 22, aI V 64 fy22), (Yw 0, .inr (8, o8_iirrriirrrrrrriii pYw0_0 (nI n) (Yw 1) (Yw 2) wa pYw0_5 pYw0_6 (y 19) (Yw 4) (Yw 5) (Yw 6) (Yw 7) (Yw 8) wb pYw0_14 pYw0_15 pYw0_16)), (Yw 1, aI V n fYw1), (Yw 2, aI V n fYw2), (wa, aI V n fwa), (Yw 4, aI V L fYw4), (Yw 5, aI V n fYw5), (Yw 6, aI V (n * 4) fYw6), (Yw 7, aI V n fYw7), (Yw 8, aI V 4 fYw8), (wb, aI V n fwb), (y 0, .inr (9, o9_rirrrrrrrrrviii (y 1) py0_1 (y 2) (y 10) (y 19) (y 25) (y 26) (y 30) (y 31) (y 32) (Yw 0) o11 py0_12 py0_13 py0_14)), (y 2, .inr (1, o1_iiiiiirrrrrrriiiii py2_0 py2_1 py2_2 py2_3 py2_4 py2_5 (y 3) (y 4) (y 5) (y 6) (y 7) (y 8) (y 9) py2_13 py2_14 py2_15 py2_16 py2_17))] H := hP
    have hD := cpD hP hD
    have b_10 : iv (-2147483648) (-1) a1 := iv_l1 c_2 (iv_top a1) (iv_c (0 : Int32) (a := 0) (b := 0) (by decide)) (by first | decide | omega)
    refine lv_if_eq (tgt := 19) hx hb dX9_chance_5 (by decide) (fun _ => ?_) (fun c_12 => absurd c_12 (by decide))
    refine lv_bipush (v := (-2)) hx hb dX9_chance_19 (by decide) ?_
    have z_0 := Int32.lt_iff_toInt_lt.mp hq0
    have z_1 := Int32.lt_iff_toInt_lt.mp c_2
    have k_0 : (0 : Int32).toInt = 0 := (by decide)
    exfalso
    have g_0 := hf3
    have g_1 := hf4
    have g_2 := hf5
    have g_3 := hf6
    have g_4 := hf7
    have g_5 := hf8
    have g_6 := hf9
    have g_7 := hf10
    omega
  · have hP : va_P V.1 vwCl [(y 3, aI V 4 fy3), (y 9, aI V 900 fy9), (y 19, .inr (4, o4_rrrrrr (y 2) (y 20) (y 21) (y 22) (y 23) (y 24))), (y 20, aI V 2000 fy20), (y 21, aI V 6 fy21), (y 22, aI V 64 fy22), (Yw 0, .inr (8, o8_iirrriirrrrrrriii pYw0_0 (nI n) (Yw 1) (Yw 2) wa pYw0_5 pYw0_6 (y 19) (Yw 4) (Yw 5) (Yw 6) (Yw 7) (Yw 8) wb pYw0_14 pYw0_15 pYw0_16)), (Yw 1, aI V n fYw1), (Yw 2, aI V n fYw2), (wa, aI V n fwa), (Yw 4, aI V L fYw4), (Yw 5, aI V n fYw5), (Yw 6, aI V (n * 4) fYw6), (Yw 7, aI V n fYw7), (Yw 8, aI V 4 fYw8), (wb, aI V n fwb), (y 0, .inr (9, o9_rirrrrrrrrrviii (y 1) py0_1 (y 2) (y 10) (y 19) (y 25) (y 26) (y 30) (y 31) (y 32) (Yw 0) o11 py0_12 py0_13 py0_14)), (y 2, .inr (1, o1_iiiiiirrrrrrriiiii py2_0 py2_1 py2_2 py2_3 py2_4 py2_5 (y 3) (y 4) (y 5) (y 6) (y 7) (y 8) (y 9) py2_13 py2_14 py2_15 py2_16 py2_17))] H := hP
    have hD := cpD hP hD
    have b_13 : iv 0 2147483647 a1 := iv_e2 (Int32.not_lt.mp c_4) (iv_c (0 : Int32) (a := 0) (b := 0) (by decide)) (iv_top a1) (by first | decide | omega)
    refine lv_if_eq (tgt := 19) hx hb dX9_chance_5 (by decide) (fun _ => ?_) (fun c_15 => absurd c_15 (by decide))
    refine lv_bipush (v := (-2)) hx hb dX9_chance_19 (by decide) ?_
    have z_0 := Int32.lt_iff_toInt_lt.mp hq0
    have z_1 := Int32.le_iff_toInt_le.mp (Int32.not_lt.mp c_4)
    have z_2 := Int32.le_iff_toInt_le.mp c_5
    have k_0 : (0 : Int32).toInt = 0 := (by decide)
    exfalso
    have g_0 := hf3
    have g_1 := hf4
    have g_2 := hf5
    have g_3 := hf6
    have g_4 := hf7
    have g_5 := hf8
    have g_6 := hf9
    have g_7 := hf10
    omega
  · have hP : va_P V.1 vwCl [(y 3, aI V 4 fy3), (y 9, aI V 900 fy9), (y 19, .inr (4, o4_rrrrrr (y 2) (y 20) (y 21) (y 22) (y 23) (y 24))), (y 20, aI V 2000 fy20), (y 21, aI V 6 fy21), (y 22, aI V 64 fy22), (Yw 0, .inr (8, o8_iirrriirrrrrrriii pYw0_0 (nI n) (Yw 1) (Yw 2) wa pYw0_5 pYw0_6 (y 19) (Yw 4) (Yw 5) (Yw 6) (Yw 7) (Yw 8) wb pYw0_14 pYw0_15 pYw0_16)), (Yw 1, aI V n fYw1), (Yw 2, aI V n fYw2), (wa, aI V n fwa), (Yw 4, aI V L fYw4), (Yw 5, aI V n fYw5), (Yw 6, aI V (n * 4) fYw6), (Yw 7, aI V n fYw7), (Yw 8, aI V 4 fYw8), (wb, aI V n fwb), (y 0, .inr (9, o9_rirrrrrrrrrviii (y 1) py0_1 (y 2) (y 10) (y 19) (y 25) (y 26) (y 30) (y 31) (y 32) (Yw 0) o11 py0_12 py0_13 py0_14)), (y 2, .inr (1, o1_iiiiiirrrrrrriiiii py2_0 py2_1 py2_2 py2_3 py2_4 py2_5 (y 3) (y 4) (y 5) (y 6) (y 7) (y 8) (y 9) py2_13 py2_14 py2_15 py2_16 py2_17))] H := hP
    have hD := cpD hP hD
    have b_16 : iv 0 2147483647 a1 := iv_e2 (Int32.not_lt.mp c_7) (iv_c (0 : Int32) (a := 0) (b := 0) (by decide)) (iv_top a1) (by first | decide | omega)
    have b_17 : iv 0 3 a1 := iv_l1 (Int32.not_le.mp c_8) b_16 bpy2_1 (by first | decide | omega)
    have b_18 : iv 1 4 py2_1 := iv_l2 (Int32.not_le.mp c_8) b_16 bpy2_1 (by first | decide | omega)
    refine lv_if_eq (tgt := 19) hx hb dX9_chance_5 (by decide) (fun c_20 => absurd c_20 (by decide)) (fun _ => ?_)
    refine lv_iload hx hb dX9_chance_8 (lv_at hl 4 rfl) ?_
    refine lv_if_eq (tgt := 22) hx hb dX9_chance_10 (by decide) (fun c_21 => ?_) (fun c_21 => ?_)
    · have b_22 : iv 0 0 a4 := iv_q c_21 (iv_c (0 : Int32) (a := 0) (b := 0) (by decide))
      refine lv_iload_n hx hb dX9_chance_22 rfl (lv_at hl 2 rfl) ?_
      refine jnI (wr := [(y 3, aI V 4 fy3), (y 9, aI V 900 fy9), (y 19, .inr (4, o4_rrrrrr (y 2) (y 20) (y 21) (y 22) (y 23) (y 24))), (y 20, aI V 2000 fy20), (y 21, aI V 6 fy21), (y 22, aI V 64 fy22), (Yw 0, .inr (8, o8_iirrriirrrrrrriii pYw0_0 (nI n) (Yw 1) (Yw 2) wa pYw0_5 pYw0_6 (y 19) (Yw 4) (Yw 5) (Yw 6) (Yw 7) (Yw 8) wb pYw0_14 pYw0_15 pYw0_16)), (Yw 1, aI V n fYw1), (Yw 2, aI V n fYw2), (wa, aI V n fwa), (Yw 4, aI V L fYw4), (Yw 5, aI V n fYw5), (Yw 6, aI V (n * 4) fYw6), (Yw 7, aI V n fYw7), (Yw 8, aI V 4 fYw8), (wb, aI V n fwb), (y 0, .inr (9, o9_rirrrrrrrrrviii (y 1) py0_1 (y 2) (y 10) (y 19) (y 25) (y 26) (y 30) (y 31) (y 32) (Yw 0) o11 py0_12 py0_13 py0_14)), (y 2, .inr (1, o1_iiiiiirrrrrrriiiii py2_0 py2_1 py2_2 py2_3 py2_4 py2_5 (y 3) (y 4) (y 5) (y 6) (y 7) (y 8) (y 9) py2_13 py2_14 py2_15 py2_16 py2_17))]) (rnS (rest := []) ⟨hx, hb, hml, hown, hg⟩ (k_X9_isHeight_0 l V a2) mt_X9_isHeight q_4_49 ⟨Nat.le_of_ble_eq_true rfl, Nat.le_of_ble_eq_true rfl⟩ hK hP hD hS hA hE [] rfl rfl rfl hl.1 rfl (Nat.le_of_ble_eq_true rfl) dX9_chance_23 ⟨Nat.le_of_ble_eq_true rfl, Nat.le_of_ble_eq_true rfl⟩) hP hD hS hA [] [0, 1, 2, 3, 4, 5, 6, 7, 8, 9, 10, 11, 12, 13, 14, 15, 16, 17] rfl rfl rfl (by decide) (fun r_23 w H locs hw hP hD hS => ?_)
      rcases hw with ⟨c_24, rfl, rfl⟩ | ⟨c_25, c_26, rfl, rfl⟩ | ⟨c_27, c_28, rfl, rfl⟩
      · have hP : va_P V.1 vwCl [(y 3, aI V 4 fy3), (y 9, aI V 900 fy9), (y 19, .inr (4, o4_rrrrrr (y 2) (y 20) (y 21) (y 22) (y 23) (y 24))), (y 20, aI V 2000 fy20), (y 21, aI V 6 fy21), (y 22, aI V 64 fy22), (Yw 0, .inr (8, o8_iirrriirrrrrrriii pYw0_0 (nI n) (Yw 1) (Yw 2) wa pYw0_5 pYw0_6 (y 19) (Yw 4) (Yw 5) (Yw 6) (Yw 7) (Yw 8) wb pYw0_14 pYw0_15 pYw0_16)), (Yw 1, aI V n fYw1), (Yw 2, aI V n fYw2), (wa, aI V n fwa), (Yw 4, aI V L fYw4), (Yw 5, aI V n fYw5), (Yw 6, aI V (n * 4) fYw6), (Yw 7, aI V n fYw7), (Yw 8, aI V 4 fYw8), (wb, aI V n fwb), (y 0, .inr (9, o9_rirrrrrrrrrviii (y 1) py0_1 (y 2) (y 10) (y 19) (y 25) (y 26) (y 30) (y 31) (y 32) (Yw 0) o11 py0_12 py0_13 py0_14)), (y 2, .inr (1, o1_iiiiiirrrrrrriiiii py2_0 py2_1 py2_2 py2_3 py2_4 py2_5 (y 3) (y 4) (y 5) (y 6) (y 7) (y 8) (y 9) py2_13 py2_14 py2_15 py2_16 py2_17))] H := hP
        have hD := cpD hP hD
        have b_29 : iv (-2147483648) (-1) a2 := iv_l1 c_24 (iv_top a2) (iv_c (0 : Int32) (a := 0) (b := 0) (by decide)) (by first | decide | omega)
        refine lv_if_eq (tgt := 39) hx hb dX9_chance_26 (by decide) (fun _ => ?_) (fun c_31 => absurd c_31 (by decide))
        refine lv_bipush (v := (-3)) hx hb dX9_chance_39 (by decide) ?_
        have z_0 := Int32.lt_iff_toInt_lt.mp hq0
        have z_1 := Int32.le_iff_toInt_le.mp (Int32.not_lt.mp c_7)
        have z_2 := Int32.lt_iff_toInt_lt.mp (Int32.not_le.mp c_8)
        have z_3 := congrArg Int32.toInt c_21
        have z_4 := Int32.lt_iff_toInt_lt.mp c_24
        have k_0 : (0 : Int32).toInt = 0 := (by decide)
        exfalso
        have g_0 := hf3
        have g_1 := hf4
        have g_2 := hf5
        have g_3 := hf6
        have g_4 := hf7
        have g_5 := hf8
        have g_6 := hf9
        have g_7 := hf10
        omega
      · have hP : va_P V.1 vwCl [(y 3, aI V 4 fy3), (y 9, aI V 900 fy9), (y 19, .inr (4, o4_rrrrrr (y 2) (y 20) (y 21) (y 22) (y 23) (y 24))), (y 20, aI V 2000 fy20), (y 21, aI V 6 fy21), (y 22, aI V 64 fy22), (Yw 0, .inr (8, o8_iirrriirrrrrrriii pYw0_0 (nI n) (Yw 1) (Yw 2) wa pYw0_5 pYw0_6 (y 19) (Yw 4) (Yw 5) (Yw 6) (Yw 7) (Yw 8) wb pYw0_14 pYw0_15 pYw0_16)), (Yw 1, aI V n fYw1), (Yw 2, aI V n fYw2), (wa, aI V n fwa), (Yw 4, aI V L fYw4), (Yw 5, aI V n fYw5), (Yw 6, aI V (n * 4) fYw6), (Yw 7, aI V n fYw7), (Yw 8, aI V 4 fYw8), (wb, aI V n fwb), (y 0, .inr (9, o9_rirrrrrrrrrviii (y 1) py0_1 (y 2) (y 10) (y 19) (y 25) (y 26) (y 30) (y 31) (y 32) (Yw 0) o11 py0_12 py0_13 py0_14)), (y 2, .inr (1, o1_iiiiiirrrrrrriiiii py2_0 py2_1 py2_2 py2_3 py2_4 py2_5 (y 3) (y 4) (y 5) (y 6) (y 7) (y 8) (y 9) py2_13 py2_14 py2_15 py2_16 py2_17))] H := hP
        have hD := cpD hP hD
        have b_32 : iv 0 2147483647 a2 := iv_e2 (Int32.not_lt.mp c_25) (iv_c (0 : Int32) (a := 0) (b := 0) (by decide)) (iv_top a2) (by first | decide | omega)
        have b_33 : iv 5 2147483647 a2 := iv_l2 c_26 (iv_c (4 : Int32) (a := 4) (b := 4) (by decide)) b_32 (by first | decide | omega)
        refine lv_if_eq (tgt := 39) hx hb dX9_chance_26 (by decide) (fun _ => ?_) (fun c_35 => absurd c_35 (by decide))
        refine lv_bipush (v := (-3)) hx hb dX9_chance_39 (by decide) ?_
        have z_0 := Int32.lt_iff_toInt_lt.mp hq0
        have z_1 := Int32.le_iff_toInt_le.mp (Int32.not_lt.mp c_7)
        have z_2 := Int32.lt_iff_toInt_lt.mp (Int32.not_le.mp c_8)
        have z_3 := congrArg Int32.toInt c_21
        have z_4 := Int32.le_iff_toInt_le.mp (Int32.not_lt.mp c_25)
        have z_5 := Int32.lt_iff_toInt_lt.mp c_26
        have k_0 : (0 : Int32).toInt = 0 := (by decide)
        have k_4 : (4 : Int32).toInt = 4 := (by decide)
        exfalso
        have g_0 := hf3
        have g_1 := hf4
        have g_2 := hf5
        have g_3 := hf6
        have g_4 := hf7
        have g_5 := hf8
        have g_6 := hf9
        have g_7 := hf10
        omega
      · have hP : va_P V.1 vwCl [(y 3, aI V 4 fy3), (y 9, aI V 900 fy9), (y 19, .inr (4, o4_rrrrrr (y 2) (y 20) (y 21) (y 22) (y 23) (y 24))), (y 20, aI V 2000 fy20), (y 21, aI V 6 fy21), (y 22, aI V 64 fy22), (Yw 0, .inr (8, o8_iirrriirrrrrrriii pYw0_0 (nI n) (Yw 1) (Yw 2) wa pYw0_5 pYw0_6 (y 19) (Yw 4) (Yw 5) (Yw 6) (Yw 7) (Yw 8) wb pYw0_14 pYw0_15 pYw0_16)), (Yw 1, aI V n fYw1), (Yw 2, aI V n fYw2), (wa, aI V n fwa), (Yw 4, aI V L fYw4), (Yw 5, aI V n fYw5), (Yw 6, aI V (n * 4) fYw6), (Yw 7, aI V n fYw7), (Yw 8, aI V 4 fYw8), (wb, aI V n fwb), (y 0, .inr (9, o9_rirrrrrrrrrviii (y 1) py0_1 (y 2) (y 10) (y 19) (y 25) (y 26) (y 30) (y 31) (y 32) (Yw 0) o11 py0_12 py0_13 py0_14)), (y 2, .inr (1, o1_iiiiiirrrrrrriiiii py2_0 py2_1 py2_2 py2_3 py2_4 py2_5 (y 3) (y 4) (y 5) (y 6) (y 7) (y 8) (y 9) py2_13 py2_14 py2_15 py2_16 py2_17))] H := hP
        have hD := cpD hP hD
        have b_36 : iv 0 2147483647 a2 := iv_e2 (Int32.not_lt.mp c_27) (iv_c (0 : Int32) (a := 0) (b := 0) (by decide)) (iv_top a2) (by first | decide | omega)
        have b_37 : iv 0 4 a2 := iv_e1 (Int32.not_lt.mp c_28) b_36 (iv_c (4 : Int32) (a := 4) (b := 4) (by decide)) (by first | decide | omega)
        refine lv_if_eq (tgt := 39) hx hb dX9_chance_26 (by decide) (fun c_39 => absurd c_39 (by decide)) (fun _ => ?_)
        refine lv_iload_n hx hb dX9_chance_29 rfl (lv_at hl 3 rfl) ?_
        refine lv_if_lt (tgt := 39) hx hb dX9_chance_30 (by decide) (fun c_40 => ?_) (fun c_40 => ?_)
        · have b_41 : iv (-2147483648) (-1) a3 := iv_l1 c_40 (iv_top a3) (iv_c (0 : Int32) (a := 0) (b := 0) (by decide)) (by first | decide | omega)
          refine lv_bipush (v := (-3)) hx hb dX9_chance_39 (by decide) ?_
          have z_0 := Int32.lt_iff_toInt_lt.mp hq0
          have z_1 := Int32.le_iff_toInt_le.mp (Int32.not_lt.mp c_7)
          have z_2 := Int32.lt_iff_toInt_lt.mp (Int32.not_le.mp c_8)
          have z_3 := congrArg Int32.toInt c_21
          have z_4 := Int32.le_iff_toInt_le.mp (Int32.not_lt.mp c_27)
          have z_5 := Int32.le_iff_toInt_le.mp (Int32.not_lt.mp c_28)
          have z_6 := Int32.lt_iff_toInt_lt.mp c_40
          have k_0 : (0 : Int32).toInt = 0 := (by decide)
          have k_4 : (4 : Int32).toInt = 4 := (by decide)
          exfalso
          have g_0 := hf3
          have g_1 := hf4
          have g_2 := hf5
          have g_3 := hf6
          have g_4 := hf7
          have g_5 := hf8
          have g_6 := hf9
          have g_7 := hf10
          omega
        · have b_42 : iv 0 2147483647 a3 := iv_e2 (Int32.not_lt.mp c_40) (iv_c (0 : Int32) (a := 0) (b := 0) (by decide)) (iv_top a3) (by first | decide | omega)
          refine lv_iload_n hx hb dX9_chance_33 rfl (lv_at hl 3 rfl) ?_
          refine lv_bipush (v := 7) hx hb dX9_chance_34 (by decide) ?_
          refine lv_icmp_le (tgt := 42) hx hb dX9_chance_36 (by decide) (fun c_43 => ?_) (fun c_43 => ?_)
          · have b_44 : iv 0 7 a3 := iv_e1 c_43 b_42 (iv_c (7 : Int32) (a := 7) (b := 7) (by decide)) (by first | decide | omega)
            refine lv_aload_n hx hb dX9_chance_42 rfl (lv_at hl 0 rfl) ?_
            refine lv_iload_n hx hb dX9_chance_43 rfl (lv_at hl 3 rfl) ?_
            refine jnR (wr := []) (rnV (rest := []) ⟨hx, hb, hml, hown, hg⟩ (k_X9_waysFromNow_2 l V n L Yw y D9 a3 fy3 fy9 fy20 fy21 fy22 pYw0_0 wa pYw0_5 pYw0_6 wb pYw0_14 pYw0_15 pYw0_16 fYw1 fYw2 fwa fYw4 fYw5 fYw6 fYw7 fYw8 fwb py0_1 o11 py0_12 py0_13 py0_14 py2_0 py2_1 py2_2 py2_3 py2_4 py2_5 py2_13 py2_14 py2_15 py2_16 py2_17 hn hL hq0 tfy20 bpYw0_0 bpYw0_5 bpYw0_6 bpYw0_14 bpYw0_15 bpYw0_16 tfYw1 tfYw4 tfYw5 tfYw6 tfYw7 bpy0_1 bpy0_12 bpy0_13 (iv_w b_18 (by first | decide | omega)) bpy2_2 bpy2_3 bpy2_4 bpy2_5 bpy2_13 bpy2_14 bpy2_15 bpy2_16 bpy2_17 hf0 hf1 hf2 hL9 hK9) mt_X9_waysFromNow q_4_52 ⟨Nat.le_of_ble_eq_true rfl, Nat.le_of_ble_eq_true rfl⟩ hK hP hD hS hA hE [0, 1, 2, 3, 4, 5, 6, 7, 8, 9, 10, 11, 12, 13, 14, 15, 16, 17] rfl rfl 16 rfl rfl rfl rfl hl.1 rfl (Nat.le_of_ble_eq_true rfl) dX9_chance_44 ⟨Nat.le_of_ble_eq_true rfl, Nat.le_of_ble_eq_true rfl⟩) hP hD hS hA [0, 1, 2, 3, 4, 5, 6, 7, 8, 9, 10, 11, 12, 13, 14, 15, 16, 17] [] rfl rfl rfl (by decide) (fun r_45 w H locs hw hP hD hS => ?_)
            refine W.widen (k := 10) (n := 46481) (Nat.le_of_ble_eq_true rfl) (Nat.le_of_ble_eq_true rfl) ?_
            obtain ⟨n, L, Yw, wa_46, wb_47, f_48, f_49, f_50, v_51, v_52, v_53, v_54, v_55, v_56, f_57, f_58, f_59, f_60, f_61, f_62, f_63, f_64, f_65, hn, hL, tf_48, bv_51, bv_52, bv_53, bv_54, bv_55, bv_56, tf_57, tf_60, tf_61, tf_62, tf_63, eW, g_66, g_67, g_68, g_69, g_70, kn_71, rfl⟩ := hw
            have hP : va_P V.1 vwCl [(y 3, aI V 4 fy3), (y 9, aI V 900 fy9), (y 19, .inr (4, o4_rrrrrr (y 2) (y 20) (y 21) (y 22) (y 23) (y 24))), (y 20, aI V 2000 f_48), (y 21, aI V 6 f_49), (y 22, aI V 64 f_50), (y 0, .inr (9, o9_rirrrrrrrrrviii (y 1) py0_1 (y 2) (y 10) (y 19) (y 25) (y 26) (y 30) (y 31) (y 32) (Yw 0) o11 py0_12 py0_13 py0_14)), (y 2, .inr (1, o1_iiiiiirrrrrrriiiii py2_0 py2_1 py2_2 py2_3 py2_4 py2_5 (y 3) (y 4) (y 5) (y 6) (y 7) (y 8) (y 9) py2_13 py2_14 py2_15 py2_16 py2_17)), (Yw 0, .inr (8, o8_iirrriirrrrrrriii v_51 (nI n) (Yw 1) (Yw 2) wa_46 v_52 v_53 (y 19) (Yw 4) (Yw 5) (Yw 6) (Yw 7) (Yw 8) wb_47 v_54 v_55 v_56)), (Yw 1, aI V n f_57), (Yw 2, aI V n f_58), (wa_46, aI V n f_59), (Yw 4, aI V L f_60), (Yw 5, aI V n f_61), (Yw 6, aI V (n * 4) f_62), (Yw 7, aI V n f_63), (Yw 8, aI V 4 f_64), (wb_47, aI V n f_65)] H := hP
            have hD := cpD hP hD
            rw [← eW]
            refine lv_astore (lv' := [(5, .ref (Yw 0)), (0, .ref (y 0)), (1, .int a1), (2, .int a2), (3, .int a3), (4, .int a4)]) hx hb dX9_chance_47 hl (by decide) rfl (fun ls hl => ?_)
            refine lv_aload hx hb dX9_chance_49 (lv_at hl 0 rfl) ?_
            refine lv_iload_n hx hb dX9_chance_51 rfl (lv_at hl 4 rfl) ?_
            refine jnV (wr := [(y 3, aI V 4 fy3), (y 9, aI V 900 fy9), (y 19, .inr (4, o4_rrrrrr (y 2) (y 20) (y 21) (y 22) (y 23) (y 24))), (y 20, aI V 2000 f_48), (y 21, aI V 6 f_49), (y 22, aI V 64 f_50), (y 0, .inr (9, o9_rirrrrrrrrrviii (y 1) py0_1 (y 2) (y 10) (y 19) (y 25) (y 26) (y 30) (y 31) (y 32) (Yw 0) o11 py0_12 py0_13 py0_14)), (y 2, .inr (1, o1_iiiiiirrrrrrriiiii py2_0 py2_1 py2_2 py2_3 py2_4 py2_5 (y 3) (y 4) (y 5) (y 6) (y 7) (y 8) (y 9) py2_13 py2_14 py2_15 py2_16 py2_17)), (Yw 1, aI V n f_57), (Yw 4, aI V L f_60), (Yw 5, aI V n f_61), (Yw 7, aI V n f_63), (Yw 8, aI V 4 f_64)]) (rnV (rest := []) ⟨hx, hb, hml, hown, hg⟩ (k_X8_spreadByLots_0 l V n Yw y a3 v_51 wa_46 v_52 v_53 wb_47 v_54 v_55 v_56 f_58 f_59 f_62 f_65 hn bv_51 bv_52 bv_53 bv_54 bv_55 bv_56 tf_62) mt_X8_spreadByLots q_5_158 ⟨Nat.le_of_ble_eq_true rfl, Nat.le_of_ble_eq_true rfl⟩ hK hP hD hS hA hE [8, 10, 11, 14, 17] rfl rfl 8 rfl rfl rfl rfl hl.1 rfl (Nat.le_of_ble_eq_true rfl) dX9_chance_52 ⟨Nat.le_of_ble_eq_true rfl, Nat.le_of_ble_eq_true rfl⟩) hP hD hS hA [8, 10, 11, 14, 17] [0, 1, 2, 3, 4, 5, 6, 7, 9, 12, 13, 15, 16] rfl rfl rfl (by decide) (fun  w H locs hw hP hD hS => ?_)
            obtain ⟨wa_72, wb_73, f_74, f_75, rfl⟩ := hw
            have hP : va_P V.1 vwCl [(y 3, aI V 4 fy3), (y 9, aI V 900 fy9), (y 19, .inr (4, o4_rrrrrr (y 2) (y 20) (y 21) (y 22) (y 23) (y 24))), (y 20, aI V 2000 f_48), (y 21, aI V 6 f_49), (y 22, aI V 64 f_50), (y 0, .inr (9, o9_rirrrrrrrrrviii (y 1) py0_1 (y 2) (y 10) (y 19) (y 25) (y 26) (y 30) (y 31) (y 32) (Yw 0) o11 py0_12 py0_13 py0_14)), (y 2, .inr (1, o1_iiiiiirrrrrrriiiii py2_0 py2_1 py2_2 py2_3 py2_4 py2_5 (y 3) (y 4) (y 5) (y 6) (y 7) (y 8) (y 9) py2_13 py2_14 py2_15 py2_16 py2_17)), (Yw 1, aI V n f_57), (Yw 4, aI V L f_60), (Yw 5, aI V n f_61), (Yw 7, aI V n f_63), (Yw 8, aI V 4 f_64), (Yw 0, .inr (8, o8_iirrriirrrrrrriii v_51 (nI n) (Yw 1) (Yw 2) wa_72 v_52 v_53 (y 19) (Yw 4) (Yw 5) (Yw 6) (Yw 7) (Yw 8) wb_73 v_54 v_55 v_56)), (Yw 2, aI V n f_58), (wa_72, aI V n f_74), (Yw 6, aI V (n * 4) f_62), (wb_73, aI V n f_75)] H := hP
            have hD := cpD hP hD
            refine lv_aload hx hb dX9_chance_55 (lv_at hl 0 rfl) ?_
            refine lv_iload_n hx hb dX9_chance_57 rfl (lv_at hl 2 rfl) ?_
            refine lv_iload_n hx hb dX9_chance_58 rfl (lv_at hl 3 rfl) ?_
            refine lv_iconst (v := 4) hx hb dX9_chance_59 (by decide) ?_
            refine jnI (wr := [(y 3, aI V 4 fy3), (y 9, aI V 900 fy9), (y 19, .inr (4, o4_rrrrrr (y 2) (y 20) (y 21) (y 22) (y 23) (y 24))), (y 20, aI V 2000 f_48), (y 21, aI V 6 f_49), (y 22, aI V 64 f_50), (y 0, .inr (9, o9_rirrrrrrrrrviii (y 1) py0_1 (y 2) (y 10) (y 19) (y 25) (y 26) (y 30) (y 31) (y 32) (Yw 0) o11 py0_12 py0_13 py0_14)), (y 2, .inr (1, o1_iiiiiirrrrrrriiiii py2_0 py2_1 py2_2 py2_3 py2_4 py2_5 (y 3) (y 4) (y 5) (y 6) (y 7) (y 8) (y 9) py2_13 py2_14 py2_15 py2_16 py2_17)), (Yw 4, aI V L f_60), (Yw 5, aI V n f_61), (Yw 7, aI V n f_63), (Yw 8, aI V 4 f_64), (Yw 2, aI V n f_58), (Yw 6, aI V (n * 4) f_62), (wb_73, aI V n f_75)]) (rnV (rest := []) ⟨hx, hb, hml, hown, hg⟩ (k_X8_weightOf_0 l V n L Yw y a1 a2 4 v_51 wa_72 v_52 v_53 wb_73 v_54 v_55 v_56 f_57 f_74 hn hL b_17 bv_51 bv_52 bv_53 bv_54 bv_55 bv_56 tf_57) mt_X8_weightOf q_4_186 ⟨Nat.le_of_ble_eq_true rfl, Nat.le_of_ble_eq_true rfl⟩ hK hP hD hS hA hE [13, 8, 15] rfl rfl 13 rfl rfl rfl rfl hl.1 rfl (Nat.le_of_ble_eq_true rfl) dX9_chance_60 ⟨Nat.le_of_ble_eq_true rfl, Nat.le_of_ble_eq_true rfl⟩) hP hD hS hA [13, 8, 15] [0, 1, 2, 3, 4, 5, 6, 7, 9, 10, 11, 12, 14, 16, 17] rfl rfl rfl (by decide) (fun r_76 w H locs hw hP hD hS => ?_)
            subst hw
            have hP : va_P V.1 vwCl [(y 3, aI V 4 fy3), (y 9, aI V 900 fy9), (y 19, .inr (4, o4_rrrrrr (y 2) (y 20) (y 21) (y 22) (y 23) (y 24))), (y 20, aI V 2000 f_48), (y 21, aI V 6 f_49), (y 22, aI V 64 f_50), (y 0, .inr (9, o9_rirrrrrrrrrviii (y 1) py0_1 (y 2) (y 10) (y 19) (y 25) (y 26) (y 30) (y 31) (y 32) (Yw 0) o11 py0_12 py0_13 py0_14)), (y 2, .inr (1, o1_iiiiiirrrrrrriiiii py2_0 py2_1 py2_2 py2_3 py2_4 py2_5 (y 3) (y 4) (y 5) (y 6) (y 7) (y 8) (y 9) py2_13 py2_14 py2_15 py2_16 py2_17)), (Yw 4, aI V L f_60), (Yw 5, aI V n f_61), (Yw 7, aI V n f_63), (Yw 8, aI V 4 f_64), (Yw 2, aI V n f_58), (Yw 6, aI V (n * 4) f_62), (wb_73, aI V n f_75), (Yw 0, .inr (8, o8_iirrriirrrrrrriii v_51 (nI n) (Yw 1) (Yw 2) wa_72 v_52 v_53 (y 19) (Yw 4) (Yw 5) (Yw 6) (Yw 7) (Yw 8) wb_73 v_54 v_55 v_56)), (Yw 1, aI V n f_57), (wa_72, aI V n f_74)] H := hP
            have hD := cpD hP hD
            refine lv_iload_n hx hb dX9_chance_63 rfl (lv_at hl 4 rfl) ?_
            refine lv_iload hx hb dX9_chance_64 (lv_at hl 5 rfl) ?_
            refine jnI (wr := [(y 3, aI V 4 fy3), (y 9, aI V 900 fy9), (y 19, .inr (4, o4_rrrrrr (y 2) (y 20) (y 21) (y 22) (y 23) (y 24))), (y 20, aI V 2000 f_48), (y 21, aI V 6 f_49), (y 22, aI V 64 f_50), (y 0, .inr (9, o9_rirrrrrrrrrviii (y 1) py0_1 (y 2) (y 10) (y 19) (y 25) (y 26) (y 30) (y 31) (y 32) (Yw 0) o11 py0_12 py0_13 py0_14)), (y 2, .inr (1, o1_iiiiiirrrrrrriiiii py2_0 py2_1 py2_2 py2_3 py2_4 py2_5 (y 3) (y 4) (y 5) (y 6) (y 7) (y 8) (y 9) py2_13 py2_14 py2_15 py2_16 py2_17)), (Yw 4, aI V L f_60), (Yw 5, aI V n f_61), (Yw 7, aI V n f_63), (Yw 8, aI V 4 f_64), (Yw 2, aI V n f_58), (Yw 6, aI V (n * 4) f_62), (wb_73, aI V n f_75), (Yw 0, .inr (8, o8_iirrriirrrrrrriii v_51 (nI n) (Yw 1) (Yw 2) wa_72 v_52 v_53 (y 19) (Yw 4) (Yw 5) (Yw 6) (Yw 7) (Yw 8) wb_73 v_54 v_55 v_56)), (Yw 1, aI V n f_57), (wa_72, aI V n f_74)]) (rnS (rest := []) ⟨hx, hb, hml, hown, hg⟩ (k_X9_inLowestTerms_0 l V r_76 a3 a4) mt_X9_inLowestTerms q_5_163 ⟨Nat.le_of_ble_eq_true rfl, Nat.le_of_ble_eq_true rfl⟩ hK hP hD hS hA hE [] rfl rfl rfl hl.1 rfl (Nat.le_of_ble_eq_true rfl) dX9_chance_66 ⟨Nat.le_of_ble_eq_true rfl, Nat.le_of_ble_eq_true rfl⟩) hP hD hS hA [] [0, 1, 2, 3, 4, 5, 6, 7, 8, 9, 10, 11, 12, 13, 14, 15, 16, 17] rfl rfl rfl (by decide) (fun r_77 w H locs hw hP hD hS => ?_)
            subst hw
            have hP : va_P V.1 vwCl [(y 3, aI V 4 fy3), (y 9, aI V 900 fy9), (y 19, .inr (4, o4_rrrrrr (y 2) (y 20) (y 21) (y 22) (y 23) (y 24))), (y 20, aI V 2000 f_48), (y 21, aI V 6 f_49), (y 22, aI V 64 f_50), (y 0, .inr (9, o9_rirrrrrrrrrviii (y 1) py0_1 (y 2) (y 10) (y 19) (y 25) (y 26) (y 30) (y 31) (y 32) (Yw 0) o11 py0_12 py0_13 py0_14)), (y 2, .inr (1, o1_iiiiiirrrrrrriiiii py2_0 py2_1 py2_2 py2_3 py2_4 py2_5 (y 3) (y 4) (y 5) (y 6) (y 7) (y 8) (y 9) py2_13 py2_14 py2_15 py2_16 py2_17)), (Yw 4, aI V L f_60), (Yw 5, aI V n f_61), (Yw 7, aI V n f_63), (Yw 8, aI V 4 f_64), (Yw 2, aI V n f_58), (Yw 6, aI V (n * 4) f_62), (wb_73, aI V n f_75), (Yw 0, .inr (8, o8_iirrriirrrrrrriii v_51 (nI n) (Yw 1) (Yw 2) wa_72 v_52 v_53 (y 19) (Yw 4) (Yw 5) (Yw 6) (Yw 7) (Yw 8) wb_73 v_54 v_55 v_56)), (Yw 1, aI V n f_57), (wa_72, aI V n f_74)] H := hP
            have hD := cpD hP hD
            have hP := subP (ws' := [(y 0, .inr (9, o9_rirrrrrrrrrviii (y 1) py0_1 (y 2) (y 10) (y 19) (y 25) (y 26) (y 30) (y 31) (y 32) (Yw 0) o11 py0_12 py0_13 py0_14)), (y 2, .inr (1, o1_iiiiiirrrrrrriiiii py2_0 py2_1 py2_2 py2_3 py2_4 py2_5 (y 3) (y 4) (y 5) (y 6) (y 7) (y 8) (y 9) py2_13 py2_14 py2_15 py2_16 py2_17)), (y 3, aI V 4 fy3), (y 9, aI V 900 fy9), (y 19, .inr (4, o4_rrrrrr (y 2) (y 20) (y 21) (y 22) (y 23) (y 24))), (y 20, aI V 2000 f_48), (y 21, aI V 6 f_49), (y 22, aI V 64 f_50), (Yw 0, .inr (8, o8_iirrriirrrrrrriii v_51 (nI n) (Yw 1) (Yw 2) wa_72 v_52 v_53 (y 19) (Yw 4) (Yw 5) (Yw 6) (Yw 7) (Yw 8) wb_73 v_54 v_55 v_56)), (Yw 1, aI V n f_57), (Yw 2, aI V n f_58), (wa_72, aI V n f_74), (Yw 4, aI V L f_60), (Yw 5, aI V n f_61), (Yw 6, aI V (n * 4) f_62), (Yw 7, aI V n f_63), (Yw 8, aI V 4 f_64), (wb_73, aI V n f_75)]) hP [6, 7, 0, 1, 2, 3, 4, 5, 15, 16, 12, 17, 8, 9, 13, 10, 11, 14] rfl
            have hD := subD hP hD [6, 7, 0, 1, 2, 3, 4, 5, 15, 16, 12, 17, 8, 9, 13, 10, 11, 14] rfl rfl
            exact fiI hx hb hr hlk hK (subP (ws' := [(y 0, .inr (9, o9_rirrrrrrrrrviii (y 1) py0_1 (y 2) (y 10) (y 19) (y 25) (y 26) (y 30) (y 31) (y 32) (Yw 0) o11 py0_12 py0_13 py0_14)), (y 2, .inr (1, o1_iiiiiirrrrrrriiiii py2_0 py2_1 py2_2 py2_3 py2_4 py2_5 (y 3) (y 4) (y 5) (y 6) (y 7) (y 8) (y 9) py2_13 py2_14 py2_15 py2_16 py2_17)), (y 3, aI V 4 fy3), (y 9, aI V 900 fy9), (y 19, .inr (4, o4_rrrrrr (y 2) (y 20) (y 21) (y 22) (y 23) (y 24))), (y 20, aI V 2000 f_48), (y 21, aI V 6 f_49), (y 22, aI V 64 f_50), (Yw 0, .inr (8, o8_iirrriirrrrrrriii v_51 (nI n) (Yw 1) (Yw 2) wa_72 v_52 v_53 (y 19) (Yw 4) (Yw 5) (Yw 6) (Yw 7) (Yw 8) wb_73 v_54 v_55 v_56)), (Yw 1, aI V n f_57), (Yw 2, aI V n f_58), (wa_72, aI V n f_74), (Yw 4, aI V L f_60), (Yw 5, aI V n f_61), (Yw 6, aI V (n * 4) f_62), (Yw 7, aI V n f_63), (Yw 8, aI V 4 f_64), (wb_73, aI V n f_75)]) hP [0, 1, 2, 3, 4, 5, 6, 7, 8, 9, 10, 11, 12, 13, 14, 15, 16, 17] rfl) (hD.sub [0, 1, 2, 3, 4, 5, 6, 7, 8, 9, 10, 11, 12, 13, 14, 15, 16, 17] rfl rfl) hS dX9_chance_69 (Nat.le_of_ble_eq_true rfl) (Nat.le_of_ble_eq_true rfl) (⟨n, L, Yw, wa_72, wb_73, f_48, f_49, f_50, v_51, v_52, v_53, v_54, v_55, v_56, f_57, f_58, f_74, f_60, f_61, f_62, f_63, f_64, f_75, hn, hL, tf_48, bv_51, bv_52, bv_53, bv_54, bv_55, bv_56, tf_57, tf_60, tf_61, tf_62, tf_63, g_66, g_67, g_68, g_70, kn_71, rfl⟩)
          · have b_78 : iv 8 2147483647 a3 := iv_l2 (Int32.not_le.mp c_43) (iv_c (7 : Int32) (a := 7) (b := 7) (by decide)) b_42 (by first | decide | omega)
            refine lv_bipush (v := (-3)) hx hb dX9_chance_39 (by decide) ?_
            have z_0 := Int32.lt_iff_toInt_lt.mp hq0
            have z_1 := Int32.le_iff_toInt_le.mp (Int32.not_lt.mp c_7)
            have z_2 := Int32.lt_iff_toInt_lt.mp (Int32.not_le.mp c_8)
            have z_3 := congrArg Int32.toInt c_21
            have z_4 := Int32.le_iff_toInt_le.mp (Int32.not_lt.mp c_27)
            have z_5 := Int32.le_iff_toInt_le.mp (Int32.not_lt.mp c_28)
            have z_6 := Int32.le_iff_toInt_le.mp (Int32.not_lt.mp c_40)
            have z_7 := Int32.lt_iff_toInt_lt.mp (Int32.not_le.mp c_43)
            have k_0 : (0 : Int32).toInt = 0 := (by decide)
            have k_4 : (4 : Int32).toInt = 4 := (by decide)
            have k_7 : (7 : Int32).toInt = 7 := (by decide)
            exfalso
            have g_0 := hf3
            have g_1 := hf4
            have g_2 := hf5
            have g_3 := hf6
            have g_4 := hf7
            have g_5 := hf8
            have g_6 := hf9
            have g_7 := hf10
            omega
    · refine lv_iload hx hb dX9_chance_13 (lv_at hl 4 rfl) ?_
      refine lv_iconst (v := 1) hx hb dX9_chance_15 (by decide) ?_
      refine lv_icmp_eq (tgt := 22) hx hb dX9_chance_16 (by decide) (fun c_79 => ?_) (fun c_79 => ?_)
      · have b_80 : iv 1 1 a4 := iv_q c_79 (iv_c (1 : Int32) (a := 1) (b := 1) (by decide))
        refine lv_iload_n hx hb dX9_chance_22 rfl (lv_at hl 2 rfl) ?_
        refine jnI (wr := [(y 3, aI V 4 fy3), (y 9, aI V 900 fy9), (y 19, .inr (4, o4_rrrrrr (y 2) (y 20) (y 21) (y 22) (y 23) (y 24))), (y 20, aI V 2000 fy20), (y 21, aI V 6 fy21), (y 22, aI V 64 fy22), (Yw 0, .inr (8, o8_iirrriirrrrrrriii pYw0_0 (nI n) (Yw 1) (Yw 2) wa pYw0_5 pYw0_6 (y 19) (Yw 4) (Yw 5) (Yw 6) (Yw 7) (Yw 8) wb pYw0_14 pYw0_15 pYw0_16)), (Yw 1, aI V n fYw1), (Yw 2, aI V n fYw2), (wa, aI V n fwa), (Yw 4, aI V L fYw4), (Yw 5, aI V n fYw5), (Yw 6, aI V (n * 4) fYw6), (Yw 7, aI V n fYw7), (Yw 8, aI V 4 fYw8), (wb, aI V n fwb), (y 0, .inr (9, o9_rirrrrrrrrrviii (y 1) py0_1 (y 2) (y 10) (y 19) (y 25) (y 26) (y 30) (y 31) (y 32) (Yw 0) o11 py0_12 py0_13 py0_14)), (y 2, .inr (1, o1_iiiiiirrrrrrriiiii py2_0 py2_1 py2_2 py2_3 py2_4 py2_5 (y 3) (y 4) (y 5) (y 6) (y 7) (y 8) (y 9) py2_13 py2_14 py2_15 py2_16 py2_17))]) (rnS (rest := []) ⟨hx, hb, hml, hown, hg⟩ (k_X9_isHeight_0 l V a2) mt_X9_isHeight q_4_49 ⟨Nat.le_of_ble_eq_true rfl, Nat.le_of_ble_eq_true rfl⟩ hK hP hD hS hA hE [] rfl rfl rfl hl.1 rfl (Nat.le_of_ble_eq_true rfl) dX9_chance_23 ⟨Nat.le_of_ble_eq_true rfl, Nat.le_of_ble_eq_true rfl⟩) hP hD hS hA [] [0, 1, 2, 3, 4, 5, 6, 7, 8, 9, 10, 11, 12, 13, 14, 15, 16, 17] rfl rfl rfl (by decide) (fun r_81 w H locs hw hP hD hS => ?_)
        rcases hw with ⟨c_82, rfl, rfl⟩ | ⟨c_83, c_84, rfl, rfl⟩ | ⟨c_85, c_86, rfl, rfl⟩
        · have hP : va_P V.1 vwCl [(y 3, aI V 4 fy3), (y 9, aI V 900 fy9), (y 19, .inr (4, o4_rrrrrr (y 2) (y 20) (y 21) (y 22) (y 23) (y 24))), (y 20, aI V 2000 fy20), (y 21, aI V 6 fy21), (y 22, aI V 64 fy22), (Yw 0, .inr (8, o8_iirrriirrrrrrriii pYw0_0 (nI n) (Yw 1) (Yw 2) wa pYw0_5 pYw0_6 (y 19) (Yw 4) (Yw 5) (Yw 6) (Yw 7) (Yw 8) wb pYw0_14 pYw0_15 pYw0_16)), (Yw 1, aI V n fYw1), (Yw 2, aI V n fYw2), (wa, aI V n fwa), (Yw 4, aI V L fYw4), (Yw 5, aI V n fYw5), (Yw 6, aI V (n * 4) fYw6), (Yw 7, aI V n fYw7), (Yw 8, aI V 4 fYw8), (wb, aI V n fwb), (y 0, .inr (9, o9_rirrrrrrrrrviii (y 1) py0_1 (y 2) (y 10) (y 19) (y 25) (y 26) (y 30) (y 31) (y 32) (Yw 0) o11 py0_12 py0_13 py0_14)), (y 2, .inr (1, o1_iiiiiirrrrrrriiiii py2_0 py2_1 py2_2 py2_3 py2_4 py2_5 (y 3) (y 4) (y 5) (y 6) (y 7) (y 8) (y 9) py2_13 py2_14 py2_15 py2_16 py2_17))] H := hP
          have hD := cpD hP hD
          have b_87 : iv (-2147483648) (-1) a2 := iv_l1 c_82 (iv_top a2) (iv_c (0 : Int32) (a := 0) (b := 0) (by decide)) (by first | decide | omega)
          refine lv_if_eq (tgt := 39) hx hb dX9_chance_26 (by decide) (fun _ => ?_) (fun c_89 => absurd c_89 (by decide))
          refine lv_bipush (v := (-3)) hx hb dX9_chance_39 (by decide) ?_
          have z_0 := Int32.lt_iff_toInt_lt.mp hq0
          have z_1 := Int32.le_iff_toInt_le.mp (Int32.not_lt.mp c_7)
          have z_2 := Int32.lt_iff_toInt_lt.mp (Int32.not_le.mp c_8)
          have z_3 : ¬ ((a4 : Int32).toInt = (0 : Int32).toInt) := fun q9 => c_21 (Int32.toInt_inj.mp q9)
          have z_4 := congrArg Int32.toInt c_79
          have z_5 := Int32.lt_iff_toInt_lt.mp c_82
          have k_0 : (0 : Int32).toInt = 0 := (by decide)
          have k_1 : (1 : Int32).toInt = 1 := (by decide)
          exfalso
          have g_0 := hf3
          have g_1 := hf4
          have g_2 := hf5
          have g_3 := hf6
          have g_4 := hf7
          have g_5 := hf8
          have g_6 := hf9
          have g_7 := hf10
          omega
        · have hP : va_P V.1 vwCl [(y 3, aI V 4 fy3), (y 9, aI V 900 fy9), (y 19, .inr (4, o4_rrrrrr (y 2) (y 20) (y 21) (y 22) (y 23) (y 24))), (y 20, aI V 2000 fy20), (y 21, aI V 6 fy21), (y 22, aI V 64 fy22), (Yw 0, .inr (8, o8_iirrriirrrrrrriii pYw0_0 (nI n) (Yw 1) (Yw 2) wa pYw0_5 pYw0_6 (y 19) (Yw 4) (Yw 5) (Yw 6) (Yw 7) (Yw 8) wb pYw0_14 pYw0_15 pYw0_16)), (Yw 1, aI V n fYw1), (Yw 2, aI V n fYw2), (wa, aI V n fwa), (Yw 4, aI V L fYw4), (Yw 5, aI V n fYw5), (Yw 6, aI V (n * 4) fYw6), (Yw 7, aI V n fYw7), (Yw 8, aI V 4 fYw8), (wb, aI V n fwb), (y 0, .inr (9, o9_rirrrrrrrrrviii (y 1) py0_1 (y 2) (y 10) (y 19) (y 25) (y 26) (y 30) (y 31) (y 32) (Yw 0) o11 py0_12 py0_13 py0_14)), (y 2, .inr (1, o1_iiiiiirrrrrrriiiii py2_0 py2_1 py2_2 py2_3 py2_4 py2_5 (y 3) (y 4) (y 5) (y 6) (y 7) (y 8) (y 9) py2_13 py2_14 py2_15 py2_16 py2_17))] H := hP
          have hD := cpD hP hD
          have b_90 : iv 0 2147483647 a2 := iv_e2 (Int32.not_lt.mp c_83) (iv_c (0 : Int32) (a := 0) (b := 0) (by decide)) (iv_top a2) (by first | decide | omega)
          have b_91 : iv 5 2147483647 a2 := iv_l2 c_84 (iv_c (4 : Int32) (a := 4) (b := 4) (by decide)) b_90 (by first | decide | omega)
          refine lv_if_eq (tgt := 39) hx hb dX9_chance_26 (by decide) (fun _ => ?_) (fun c_93 => absurd c_93 (by decide))
          refine lv_bipush (v := (-3)) hx hb dX9_chance_39 (by decide) ?_
          have z_0 := Int32.lt_iff_toInt_lt.mp hq0
          have z_1 := Int32.le_iff_toInt_le.mp (Int32.not_lt.mp c_7)
          have z_2 := Int32.lt_iff_toInt_lt.mp (Int32.not_le.mp c_8)
          have z_3 : ¬ ((a4 : Int32).toInt = (0 : Int32).toInt) := fun q9 => c_21 (Int32.toInt_inj.mp q9)
          have z_4 := congrArg Int32.toInt c_79
          have z_5 := Int32.le_iff_toInt_le.mp (Int32.not_lt.mp c_83)
          have z_6 := Int32.lt_iff_toInt_lt.mp c_84
          have k_0 : (0 : Int32).toInt = 0 := (by decide)
          have k_1 : (1 : Int32).toInt = 1 := (by decide)
          have k_4 : (4 : Int32).toInt = 4 := (by decide)
          exfalso
          have g_0 := hf3
          have g_1 := hf4
          have g_2 := hf5
          have g_3 := hf6
          have g_4 := hf7
          have g_5 := hf8
          have g_6 := hf9
          have g_7 := hf10
          omega
        · have hP : va_P V.1 vwCl [(y 3, aI V 4 fy3), (y 9, aI V 900 fy9), (y 19, .inr (4, o4_rrrrrr (y 2) (y 20) (y 21) (y 22) (y 23) (y 24))), (y 20, aI V 2000 fy20), (y 21, aI V 6 fy21), (y 22, aI V 64 fy22), (Yw 0, .inr (8, o8_iirrriirrrrrrriii pYw0_0 (nI n) (Yw 1) (Yw 2) wa pYw0_5 pYw0_6 (y 19) (Yw 4) (Yw 5) (Yw 6) (Yw 7) (Yw 8) wb pYw0_14 pYw0_15 pYw0_16)), (Yw 1, aI V n fYw1), (Yw 2, aI V n fYw2), (wa, aI V n fwa), (Yw 4, aI V L fYw4), (Yw 5, aI V n fYw5), (Yw 6, aI V (n * 4) fYw6), (Yw 7, aI V n fYw7), (Yw 8, aI V 4 fYw8), (wb, aI V n fwb), (y 0, .inr (9, o9_rirrrrrrrrrviii (y 1) py0_1 (y 2) (y 10) (y 19) (y 25) (y 26) (y 30) (y 31) (y 32) (Yw 0) o11 py0_12 py0_13 py0_14)), (y 2, .inr (1, o1_iiiiiirrrrrrriiiii py2_0 py2_1 py2_2 py2_3 py2_4 py2_5 (y 3) (y 4) (y 5) (y 6) (y 7) (y 8) (y 9) py2_13 py2_14 py2_15 py2_16 py2_17))] H := hP
          have hD := cpD hP hD
          have b_94 : iv 0 2147483647 a2 := iv_e2 (Int32.not_lt.mp c_85) (iv_c (0 : Int32) (a := 0) (b := 0) (by decide)) (iv_top a2) (by first | decide | omega)
          have b_95 : iv 0 4 a2 := iv_e1 (Int32.not_lt.mp c_86) b_94 (iv_c (4 : Int32) (a := 4) (b := 4) (by decide)) (by first | decide | omega)
          refine lv_if_eq (tgt := 39) hx hb dX9_chance_26 (by decide) (fun c_97 => absurd c_97 (by decide)) (fun _ => ?_)
          refine lv_iload_n hx hb dX9_chance_29 rfl (lv_at hl 3 rfl) ?_
          refine lv_if_lt (tgt := 39) hx hb dX9_chance_30 (by decide) (fun c_98 => ?_) (fun c_98 => ?_)
          · have b_99 : iv (-2147483648) (-1) a3 := iv_l1 c_98 (iv_top a3) (iv_c (0 : Int32) (a := 0) (b := 0) (by decide)) (by first | decide | omega)
            refine lv_bipush (v := (-3)) hx hb dX9_chance_39 (by decide) ?_
            have z_0 := Int32.lt_iff_toInt_lt.mp hq0
            have z_1 := Int32.le_iff_toInt_le.mp (Int32.not_lt.mp c_7)
            have z_2 := Int32.lt_iff_toInt_lt.mp (Int32.not_le.mp c_8)
            have z_3 : ¬ ((a4 : Int32).toInt = (0 : Int32).toInt) := fun q9 => c_21 (Int32.toInt_inj.mp q9)
            have z_4 := congrArg Int32.toInt c_79
            have z_5 := Int32.le_iff_toInt_le.mp (Int32.not_lt.mp c_85)
            have z_6 := Int32.le_iff_toInt_le.mp (Int32.not_lt.mp c_86)
            have z_7 := Int32.lt_iff_toInt_lt.mp c_98
            have k_0 : (0 : Int32).toInt = 0 := (by decide)
            have k_1 : (1 : Int32).toInt = 1 := (by decide)
            have k_4 : (4 : Int32).toInt = 4 := (by decide)
            exfalso
            have g_0 := hf3
            have g_1 := hf4
            have g_2 := hf5
            have g_3 := hf6
            have g_4 := hf7
            have g_5 := hf8
            have g_6 := hf9
            have g_7 := hf10
            omega
          · have b_100 : iv 0 2147483647 a3 := iv_e2 (Int32.not_lt.mp c_98) (iv_c (0 : Int32) (a := 0) (b := 0) (by decide)) (iv_top a3) (by first | decide | omega)
            refine lv_iload_n hx hb dX9_chance_33 rfl (lv_at hl 3 rfl) ?_
            refine lv_bipush (v := 7) hx hb dX9_chance_34 (by decide) ?_
            refine lv_icmp_le (tgt := 42) hx hb dX9_chance_36 (by decide) (fun c_101 => ?_) (fun c_101 => ?_)
            · have b_102 : iv 0 7 a3 := iv_e1 c_101 b_100 (iv_c (7 : Int32) (a := 7) (b := 7) (by decide)) (by first | decide | omega)
              refine lv_aload_n hx hb dX9_chance_42 rfl (lv_at hl 0 rfl) ?_
              refine lv_iload_n hx hb dX9_chance_43 rfl (lv_at hl 3 rfl) ?_
              refine jnR (wr := []) (rnV (rest := []) ⟨hx, hb, hml, hown, hg⟩ (k_X9_waysFromNow_2 l V n L Yw y D9 a3 fy3 fy9 fy20 fy21 fy22 pYw0_0 wa pYw0_5 pYw0_6 wb pYw0_14 pYw0_15 pYw0_16 fYw1 fYw2 fwa fYw4 fYw5 fYw6 fYw7 fYw8 fwb py0_1 o11 py0_12 py0_13 py0_14 py2_0 py2_1 py2_2 py2_3 py2_4 py2_5 py2_13 py2_14 py2_15 py2_16 py2_17 hn hL hq0 tfy20 bpYw0_0 bpYw0_5 bpYw0_6 bpYw0_14 bpYw0_15 bpYw0_16 tfYw1 tfYw4 tfYw5 tfYw6 tfYw7 bpy0_1 bpy0_12 bpy0_13 (iv_w b_18 (by first | decide | omega)) bpy2_2 bpy2_3 bpy2_4 bpy2_5 bpy2_13 bpy2_14 bpy2_15 bpy2_16 bpy2_17 hf0 hf1 hf2 hL9 hK9) mt_X9_waysFromNow q_4_52 ⟨Nat.le_of_ble_eq_true rfl, Nat.le_of_ble_eq_true rfl⟩ hK hP hD hS hA hE [0, 1, 2, 3, 4, 5, 6, 7, 8, 9, 10, 11, 12, 13, 14, 15, 16, 17] rfl rfl 16 rfl rfl rfl rfl hl.1 rfl (Nat.le_of_ble_eq_true rfl) dX9_chance_44 ⟨Nat.le_of_ble_eq_true rfl, Nat.le_of_ble_eq_true rfl⟩) hP hD hS hA [0, 1, 2, 3, 4, 5, 6, 7, 8, 9, 10, 11, 12, 13, 14, 15, 16, 17] [] rfl rfl rfl (by decide) (fun r_103 w H locs hw hP hD hS => ?_)
              refine W.widen (k := 10) (n := 46481) (Nat.le_of_ble_eq_true rfl) (Nat.le_of_ble_eq_true rfl) ?_
              obtain ⟨n, L, Yw, wa_104, wb_105, f_106, f_107, f_108, v_109, v_110, v_111, v_112, v_113, v_114, f_115, f_116, f_117, f_118, f_119, f_120, f_121, f_122, f_123, hn, hL, tf_106, bv_109, bv_110, bv_111, bv_112, bv_113, bv_114, tf_115, tf_118, tf_119, tf_120, tf_121, eW, g_124, g_125, g_126, g_127, g_128, kn_129, rfl⟩ := hw
              have hP : va_P V.1 vwCl [(y 3, aI V 4 fy3), (y 9, aI V 900 fy9), (y 19, .inr (4, o4_rrrrrr (y 2) (y 20) (y 21) (y 22) (y 23) (y 24))), (y 20, aI V 2000 f_106), (y 21, aI V 6 f_107), (y 22, aI V 64 f_108), (y 0, .inr (9, o9_rirrrrrrrrrviii (y 1) py0_1 (y 2) (y 10) (y 19) (y 25) (y 26) (y 30) (y 31) (y 32) (Yw 0) o11 py0_12 py0_13 py0_14)), (y 2, .inr (1, o1_iiiiiirrrrrrriiiii py2_0 py2_1 py2_2 py2_3 py2_4 py2_5 (y 3) (y 4) (y 5) (y 6) (y 7) (y 8) (y 9) py2_13 py2_14 py2_15 py2_16 py2_17)), (Yw 0, .inr (8, o8_iirrriirrrrrrriii v_109 (nI n) (Yw 1) (Yw 2) wa_104 v_110 v_111 (y 19) (Yw 4) (Yw 5) (Yw 6) (Yw 7) (Yw 8) wb_105 v_112 v_113 v_114)), (Yw 1, aI V n f_115), (Yw 2, aI V n f_116), (wa_104, aI V n f_117), (Yw 4, aI V L f_118), (Yw 5, aI V n f_119), (Yw 6, aI V (n * 4) f_120), (Yw 7, aI V n f_121), (Yw 8, aI V 4 f_122), (wb_105, aI V n f_123)] H := hP
              have hD := cpD hP hD
              rw [← eW]
              refine lv_astore (lv' := [(5, .ref (Yw 0)), (0, .ref (y 0)), (1, .int a1), (2, .int a2), (3, .int a3), (4, .int a4)]) hx hb dX9_chance_47 hl (by decide) rfl (fun ls hl => ?_)
              refine lv_aload hx hb dX9_chance_49 (lv_at hl 0 rfl) ?_
              refine lv_iload_n hx hb dX9_chance_51 rfl (lv_at hl 4 rfl) ?_
              refine jnV (wr := [(y 3, aI V 4 fy3), (y 9, aI V 900 fy9), (y 19, .inr (4, o4_rrrrrr (y 2) (y 20) (y 21) (y 22) (y 23) (y 24))), (y 20, aI V 2000 f_106), (y 21, aI V 6 f_107), (y 22, aI V 64 f_108), (y 0, .inr (9, o9_rirrrrrrrrrviii (y 1) py0_1 (y 2) (y 10) (y 19) (y 25) (y 26) (y 30) (y 31) (y 32) (Yw 0) o11 py0_12 py0_13 py0_14)), (y 2, .inr (1, o1_iiiiiirrrrrrriiiii py2_0 py2_1 py2_2 py2_3 py2_4 py2_5 (y 3) (y 4) (y 5) (y 6) (y 7) (y 8) (y 9) py2_13 py2_14 py2_15 py2_16 py2_17)), (Yw 1, aI V n f_115), (Yw 4, aI V L f_118), (Yw 5, aI V n f_119), (Yw 7, aI V n f_121), (Yw 8, aI V 4 f_122)]) (rnV (rest := []) ⟨hx, hb, hml, hown, hg⟩ (k_X8_spreadByLots_0 l V n Yw y a3 v_109 wa_104 v_110 v_111 wb_105 v_112 v_113 v_114 f_116 f_117 f_120 f_123 hn bv_109 bv_110 bv_111 bv_112 bv_113 bv_114 tf_120) mt_X8_spreadByLots q_5_158 ⟨Nat.le_of_ble_eq_true rfl, Nat.le_of_ble_eq_true rfl⟩ hK hP hD hS hA hE [8, 10, 11, 14, 17] rfl rfl 8 rfl rfl rfl rfl hl.1 rfl (Nat.le_of_ble_eq_true rfl) dX9_chance_52 ⟨Nat.le_of_ble_eq_true rfl, Nat.le_of_ble_eq_true rfl⟩) hP hD hS hA [8, 10, 11, 14, 17] [0, 1, 2, 3, 4, 5, 6, 7, 9, 12, 13, 15, 16] rfl rfl rfl (by decide) (fun  w H locs hw hP hD hS => ?_)
              obtain ⟨wa_130, wb_131, f_132, f_133, rfl⟩ := hw
              have hP : va_P V.1 vwCl [(y 3, aI V 4 fy3), (y 9, aI V 900 fy9), (y 19, .inr (4, o4_rrrrrr (y 2) (y 20) (y 21) (y 22) (y 23) (y 24))), (y 20, aI V 2000 f_106), (y 21, aI V 6 f_107), (y 22, aI V 64 f_108), (y 0, .inr (9, o9_rirrrrrrrrrviii (y 1) py0_1 (y 2) (y 10) (y 19) (y 25) (y 26) (y 30) (y 31) (y 32) (Yw 0) o11 py0_12 py0_13 py0_14)), (y 2, .inr (1, o1_iiiiiirrrrrrriiiii py2_0 py2_1 py2_2 py2_3 py2_4 py2_5 (y 3) (y 4) (y 5) (y 6) (y 7) (y 8) (y 9) py2_13 py2_14 py2_15 py2_16 py2_17)), (Yw 1, aI V n f_115), (Yw 4, aI V L f_118), (Yw 5, aI V n f_119), (Yw 7, aI V n f_121), (Yw 8, aI V 4 f_122), (Yw 0, .inr (8, o8_iirrriirrrrrrriii v_109 (nI n) (Yw 1) (Yw 2) wa_130 v_110 v_111 (y 19) (Yw 4) (Yw 5) (Yw 6) (Yw 7) (Yw 8) wb_131 v_112 v_113 v_114)), (Yw 2, aI V n f_116), (wa_130, aI V n f_132), (Yw 6, aI V (n * 4) f_120), (wb_131, aI V n f_133)] H := hP
              have hD := cpD hP hD
              refine lv_aload hx hb dX9_chance_55 (lv_at hl 0 rfl) ?_
              refine lv_iload_n hx hb dX9_chance_57 rfl (lv_at hl 2 rfl) ?_
              refine lv_iload_n hx hb dX9_chance_58 rfl (lv_at hl 3 rfl) ?_
              refine lv_iconst (v := 4) hx hb dX9_chance_59 (by decide) ?_
              refine jnI (wr := [(y 3, aI V 4 fy3), (y 9, aI V 900 fy9), (y 19, .inr (4, o4_rrrrrr (y 2) (y 20) (y 21) (y 22) (y 23) (y 24))), (y 20, aI V 2000 f_106), (y 21, aI V 6 f_107), (y 22, aI V 64 f_108), (y 0, .inr (9, o9_rirrrrrrrrrviii (y 1) py0_1 (y 2) (y 10) (y 19) (y 25) (y 26) (y 30) (y 31) (y 32) (Yw 0) o11 py0_12 py0_13 py0_14)), (y 2, .inr (1, o1_iiiiiirrrrrrriiiii py2_0 py2_1 py2_2 py2_3 py2_4 py2_5 (y 3) (y 4) (y 5) (y 6) (y 7) (y 8) (y 9) py2_13 py2_14 py2_15 py2_16 py2_17)), (Yw 4, aI V L f_118), (Yw 5, aI V n f_119), (Yw 7, aI V n f_121), (Yw 8, aI V 4 f_122), (Yw 2, aI V n f_116), (Yw 6, aI V (n * 4) f_120), (wb_131, aI V n f_133)]) (rnV (rest := []) ⟨hx, hb, hml, hown, hg⟩ (k_X8_weightOf_0 l V n L Yw y a1 a2 4 v_109 wa_130 v_110 v_111 wb_131 v_112 v_113 v_114 f_115 f_132 hn hL b_17 bv_109 bv_110 bv_111 bv_112 bv_113 bv_114 tf_115) mt_X8_weightOf q_4_186 ⟨Nat.le_of_ble_eq_true rfl, Nat.le_of_ble_eq_true rfl⟩ hK hP hD hS hA hE [13, 8, 15] rfl rfl 13 rfl rfl rfl rfl hl.1 rfl (Nat.le_of_ble_eq_true rfl) dX9_chance_60 ⟨Nat.le_of_ble_eq_true rfl, Nat.le_of_ble_eq_true rfl⟩) hP hD hS hA [13, 8, 15] [0, 1, 2, 3, 4, 5, 6, 7, 9, 10, 11, 12, 14, 16, 17] rfl rfl rfl (by decide) (fun r_134 w H locs hw hP hD hS => ?_)
              subst hw
              have hP : va_P V.1 vwCl [(y 3, aI V 4 fy3), (y 9, aI V 900 fy9), (y 19, .inr (4, o4_rrrrrr (y 2) (y 20) (y 21) (y 22) (y 23) (y 24))), (y 20, aI V 2000 f_106), (y 21, aI V 6 f_107), (y 22, aI V 64 f_108), (y 0, .inr (9, o9_rirrrrrrrrrviii (y 1) py0_1 (y 2) (y 10) (y 19) (y 25) (y 26) (y 30) (y 31) (y 32) (Yw 0) o11 py0_12 py0_13 py0_14)), (y 2, .inr (1, o1_iiiiiirrrrrrriiiii py2_0 py2_1 py2_2 py2_3 py2_4 py2_5 (y 3) (y 4) (y 5) (y 6) (y 7) (y 8) (y 9) py2_13 py2_14 py2_15 py2_16 py2_17)), (Yw 4, aI V L f_118), (Yw 5, aI V n f_119), (Yw 7, aI V n f_121), (Yw 8, aI V 4 f_122), (Yw 2, aI V n f_116), (Yw 6, aI V (n * 4) f_120), (wb_131, aI V n f_133), (Yw 0, .inr (8, o8_iirrriirrrrrrriii v_109 (nI n) (Yw 1) (Yw 2) wa_130 v_110 v_111 (y 19) (Yw 4) (Yw 5) (Yw 6) (Yw 7) (Yw 8) wb_131 v_112 v_113 v_114)), (Yw 1, aI V n f_115), (wa_130, aI V n f_132)] H := hP
              have hD := cpD hP hD
              refine lv_iload_n hx hb dX9_chance_63 rfl (lv_at hl 4 rfl) ?_
              refine lv_iload hx hb dX9_chance_64 (lv_at hl 5 rfl) ?_
              refine jnI (wr := [(y 3, aI V 4 fy3), (y 9, aI V 900 fy9), (y 19, .inr (4, o4_rrrrrr (y 2) (y 20) (y 21) (y 22) (y 23) (y 24))), (y 20, aI V 2000 f_106), (y 21, aI V 6 f_107), (y 22, aI V 64 f_108), (y 0, .inr (9, o9_rirrrrrrrrrviii (y 1) py0_1 (y 2) (y 10) (y 19) (y 25) (y 26) (y 30) (y 31) (y 32) (Yw 0) o11 py0_12 py0_13 py0_14)), (y 2, .inr (1, o1_iiiiiirrrrrrriiiii py2_0 py2_1 py2_2 py2_3 py2_4 py2_5 (y 3) (y 4) (y 5) (y 6) (y 7) (y 8) (y 9) py2_13 py2_14 py2_15 py2_16 py2_17)), (Yw 4, aI V L f_118), (Yw 5, aI V n f_119), (Yw 7, aI V n f_121), (Yw 8, aI V 4 f_122), (Yw 2, aI V n f_116), (Yw 6, aI V (n * 4) f_120), (wb_131, aI V n f_133), (Yw 0, .inr (8, o8_iirrriirrrrrrriii v_109 (nI n) (Yw 1) (Yw 2) wa_130 v_110 v_111 (y 19) (Yw 4) (Yw 5) (Yw 6) (Yw 7) (Yw 8) wb_131 v_112 v_113 v_114)), (Yw 1, aI V n f_115), (wa_130, aI V n f_132)]) (rnS (rest := []) ⟨hx, hb, hml, hown, hg⟩ (k_X9_inLowestTerms_0 l V r_134 a3 a4) mt_X9_inLowestTerms q_5_163 ⟨Nat.le_of_ble_eq_true rfl, Nat.le_of_ble_eq_true rfl⟩ hK hP hD hS hA hE [] rfl rfl rfl hl.1 rfl (Nat.le_of_ble_eq_true rfl) dX9_chance_66 ⟨Nat.le_of_ble_eq_true rfl, Nat.le_of_ble_eq_true rfl⟩) hP hD hS hA [] [0, 1, 2, 3, 4, 5, 6, 7, 8, 9, 10, 11, 12, 13, 14, 15, 16, 17] rfl rfl rfl (by decide) (fun r_135 w H locs hw hP hD hS => ?_)
              subst hw
              have hP : va_P V.1 vwCl [(y 3, aI V 4 fy3), (y 9, aI V 900 fy9), (y 19, .inr (4, o4_rrrrrr (y 2) (y 20) (y 21) (y 22) (y 23) (y 24))), (y 20, aI V 2000 f_106), (y 21, aI V 6 f_107), (y 22, aI V 64 f_108), (y 0, .inr (9, o9_rirrrrrrrrrviii (y 1) py0_1 (y 2) (y 10) (y 19) (y 25) (y 26) (y 30) (y 31) (y 32) (Yw 0) o11 py0_12 py0_13 py0_14)), (y 2, .inr (1, o1_iiiiiirrrrrrriiiii py2_0 py2_1 py2_2 py2_3 py2_4 py2_5 (y 3) (y 4) (y 5) (y 6) (y 7) (y 8) (y 9) py2_13 py2_14 py2_15 py2_16 py2_17)), (Yw 4, aI V L f_118), (Yw 5, aI V n f_119), (Yw 7, aI V n f_121), (Yw 8, aI V 4 f_122), (Yw 2, aI V n f_116), (Yw 6, aI V (n * 4) f_120), (wb_131, aI V n f_133), (Yw 0, .inr (8, o8_iirrriirrrrrrriii v_109 (nI n) (Yw 1) (Yw 2) wa_130 v_110 v_111 (y 19) (Yw 4) (Yw 5) (Yw 6) (Yw 7) (Yw 8) wb_131 v_112 v_113 v_114)), (Yw 1, aI V n f_115), (wa_130, aI V n f_132)] H := hP
              have hD := cpD hP hD
              have hP := subP (ws' := [(y 0, .inr (9, o9_rirrrrrrrrrviii (y 1) py0_1 (y 2) (y 10) (y 19) (y 25) (y 26) (y 30) (y 31) (y 32) (Yw 0) o11 py0_12 py0_13 py0_14)), (y 2, .inr (1, o1_iiiiiirrrrrrriiiii py2_0 py2_1 py2_2 py2_3 py2_4 py2_5 (y 3) (y 4) (y 5) (y 6) (y 7) (y 8) (y 9) py2_13 py2_14 py2_15 py2_16 py2_17)), (y 3, aI V 4 fy3), (y 9, aI V 900 fy9), (y 19, .inr (4, o4_rrrrrr (y 2) (y 20) (y 21) (y 22) (y 23) (y 24))), (y 20, aI V 2000 f_106), (y 21, aI V 6 f_107), (y 22, aI V 64 f_108), (Yw 0, .inr (8, o8_iirrriirrrrrrriii v_109 (nI n) (Yw 1) (Yw 2) wa_130 v_110 v_111 (y 19) (Yw 4) (Yw 5) (Yw 6) (Yw 7) (Yw 8) wb_131 v_112 v_113 v_114)), (Yw 1, aI V n f_115), (Yw 2, aI V n f_116), (wa_130, aI V n f_132), (Yw 4, aI V L f_118), (Yw 5, aI V n f_119), (Yw 6, aI V (n * 4) f_120), (Yw 7, aI V n f_121), (Yw 8, aI V 4 f_122), (wb_131, aI V n f_133)]) hP [6, 7, 0, 1, 2, 3, 4, 5, 15, 16, 12, 17, 8, 9, 13, 10, 11, 14] rfl
              have hD := subD hP hD [6, 7, 0, 1, 2, 3, 4, 5, 15, 16, 12, 17, 8, 9, 13, 10, 11, 14] rfl rfl
              exact fiI hx hb hr hlk hK (subP (ws' := [(y 0, .inr (9, o9_rirrrrrrrrrviii (y 1) py0_1 (y 2) (y 10) (y 19) (y 25) (y 26) (y 30) (y 31) (y 32) (Yw 0) o11 py0_12 py0_13 py0_14)), (y 2, .inr (1, o1_iiiiiirrrrrrriiiii py2_0 py2_1 py2_2 py2_3 py2_4 py2_5 (y 3) (y 4) (y 5) (y 6) (y 7) (y 8) (y 9) py2_13 py2_14 py2_15 py2_16 py2_17)), (y 3, aI V 4 fy3), (y 9, aI V 900 fy9), (y 19, .inr (4, o4_rrrrrr (y 2) (y 20) (y 21) (y 22) (y 23) (y 24))), (y 20, aI V 2000 f_106), (y 21, aI V 6 f_107), (y 22, aI V 64 f_108), (Yw 0, .inr (8, o8_iirrriirrrrrrriii v_109 (nI n) (Yw 1) (Yw 2) wa_130 v_110 v_111 (y 19) (Yw 4) (Yw 5) (Yw 6) (Yw 7) (Yw 8) wb_131 v_112 v_113 v_114)), (Yw 1, aI V n f_115), (Yw 2, aI V n f_116), (wa_130, aI V n f_132), (Yw 4, aI V L f_118), (Yw 5, aI V n f_119), (Yw 6, aI V (n * 4) f_120), (Yw 7, aI V n f_121), (Yw 8, aI V 4 f_122), (wb_131, aI V n f_133)]) hP [0, 1, 2, 3, 4, 5, 6, 7, 8, 9, 10, 11, 12, 13, 14, 15, 16, 17] rfl) (hD.sub [0, 1, 2, 3, 4, 5, 6, 7, 8, 9, 10, 11, 12, 13, 14, 15, 16, 17] rfl rfl) hS dX9_chance_69 (Nat.le_of_ble_eq_true rfl) (Nat.le_of_ble_eq_true rfl) (⟨n, L, Yw, wa_130, wb_131, f_106, f_107, f_108, v_109, v_110, v_111, v_112, v_113, v_114, f_115, f_116, f_132, f_118, f_119, f_120, f_121, f_122, f_133, hn, hL, tf_106, bv_109, bv_110, bv_111, bv_112, bv_113, bv_114, tf_115, tf_118, tf_119, tf_120, tf_121, g_124, g_125, g_126, g_128, kn_129, rfl⟩)
            · have b_136 : iv 8 2147483647 a3 := iv_l2 (Int32.not_le.mp c_101) (iv_c (7 : Int32) (a := 7) (b := 7) (by decide)) b_100 (by first | decide | omega)
              refine lv_bipush (v := (-3)) hx hb dX9_chance_39 (by decide) ?_
              have z_0 := Int32.lt_iff_toInt_lt.mp hq0
              have z_1 := Int32.le_iff_toInt_le.mp (Int32.not_lt.mp c_7)
              have z_2 := Int32.lt_iff_toInt_lt.mp (Int32.not_le.mp c_8)
              have z_3 : ¬ ((a4 : Int32).toInt = (0 : Int32).toInt) := fun q9 => c_21 (Int32.toInt_inj.mp q9)
              have z_4 := congrArg Int32.toInt c_79
              have z_5 := Int32.le_iff_toInt_le.mp (Int32.not_lt.mp c_85)
              have z_6 := Int32.le_iff_toInt_le.mp (Int32.not_lt.mp c_86)
              have z_7 := Int32.le_iff_toInt_le.mp (Int32.not_lt.mp c_98)
              have z_8 := Int32.lt_iff_toInt_lt.mp (Int32.not_le.mp c_101)
              have k_0 : (0 : Int32).toInt = 0 := (by decide)
              have k_1 : (1 : Int32).toInt = 1 := (by decide)
              have k_4 : (4 : Int32).toInt = 4 := (by decide)
              have k_7 : (7 : Int32).toInt = 7 := (by decide)
              exfalso
              have g_0 := hf3
              have g_1 := hf4
              have g_2 := hf5
              have g_3 := hf6
              have g_4 := hf7
              have g_5 := hf8
              have g_6 := hf9
              have g_7 := hf10
              omega
      · refine lv_bipush (v := (-2)) hx hb dX9_chance_19 (by decide) ?_
        have z_0 := Int32.lt_iff_toInt_lt.mp hq0
        have z_1 := Int32.le_iff_toInt_le.mp (Int32.not_lt.mp c_7)
        have z_2 := Int32.lt_iff_toInt_lt.mp (Int32.not_le.mp c_8)
        have z_3 : ¬ ((a4 : Int32).toInt = (0 : Int32).toInt) := fun q9 => c_21 (Int32.toInt_inj.mp q9)
        have z_4 : ¬ ((a4 : Int32).toInt = (1 : Int32).toInt) := fun q9 => c_79 (Int32.toInt_inj.mp q9)
        have k_0 : (0 : Int32).toInt = 0 := (by decide)
        have k_1 : (1 : Int32).toInt = 1 := (by decide)
        exfalso
        have g_0 := hf3
        have g_1 := hf4
        have g_2 := hf5
        have g_3 := hf6
        have g_4 := hf7
        have g_5 := hf8
        have g_6 := hf9
        have g_7 := hf10
        omega
set_option maxHeartbeats 4000000 in
set_option maxRecDepth 100000 in
theorem k_X9_mean_1 (l : Launch) (V : GV) (y : Nat → Nat) (a1 : Int32) (a2 : Int32) (hf0 : ¬ (0 ≤ (a1 : Int32).toInt ∧ (a1 : Int32).toInt ≤ 7 ∧ 0 ≤ (a2 : Int32).toInt ∧ (a2 : Int32).toInt ≤ 1)) : Ct l V yX9_mean (.code yX9_mean cX9_mean 6 (some .int)) 1 [.ref (y 0), .int a1, .int a2] [] 0 0 (QI V (fun (r : Int32) (w : va_W) => iv (-3) (-2) r ∧ w = [])) := by
  refine Ct.of (by decide) (Nat.le_of_ble_eq_true rfl) (fun p e s m below meth c A ls hx hb hr hml hown hlk hnm hg hP hK hD hE hA hS hl => ?_)
  have hl : lv_has ls 6 [(0, .ref (y 0)), (1, .int a1), (2, .int a2)] := hl
  refine lv_iload_n hx hb dX9_mean_0 rfl (lv_at hl 2 rfl) ?_
  refine lv_if_eq (tgt := 12) hx hb dX9_mean_1 (by decide) (fun c_1 => ?_) (fun c_1 => ?_)
  · have b_2 : iv 0 0 a2 := iv_q c_1 (iv_c (0 : Int32) (a := 0) (b := 0) (by decide))
    refine lv_iload_n hx hb dX9_mean_12 rfl (lv_at hl 1 rfl) ?_
    refine lv_if_lt (tgt := 22) hx hb dX9_mean_13 (by decide) (fun c_3 => ?_) (fun c_3 => ?_)
    · have b_4 : iv (-2147483648) (-1) a1 := iv_l1 c_3 (iv_top a1) (iv_c (0 : Int32) (a := 0) (b := 0) (by decide)) (by decide)
      refine lv_bipush (v := (-3)) hx hb dX9_mean_22 (by decide) ?_
      exact fiI hx hb hr hlk hK hP hD hS dX9_mean_24 (Nat.le_of_ble_eq_true rfl) (Nat.le_of_ble_eq_true rfl) (⟨(iv_c ((-3) : Int32) (by decide)), rfl⟩)
    · have b_5 : iv 0 2147483647 a1 := iv_e2 (Int32.not_lt.mp c_3) (iv_c (0 : Int32) (a := 0) (b := 0) (by decide)) (iv_top a1) (by decide)
      refine lv_iload_n hx hb dX9_mean_16 rfl (lv_at hl 1 rfl) ?_
      refine lv_bipush (v := 7) hx hb dX9_mean_17 (by decide) ?_
      refine lv_icmp_le (tgt := 25) hx hb dX9_mean_19 (by decide) (fun c_6 => ?_) (fun c_6 => ?_)
      · have b_7 : iv 0 7 a1 := iv_e1 c_6 b_5 (iv_c (7 : Int32) (a := 7) (b := 7) (by decide)) (by decide)
        refine lv_aload_n hx hb dX9_mean_25 rfl (lv_at hl 0 rfl) ?_
        refine lv_iload_n hx hb dX9_mean_26 rfl (lv_at hl 1 rfl) ?_
        have z_0 := congrArg Int32.toInt c_1
        have z_1 := Int32.le_iff_toInt_le.mp (Int32.not_lt.mp c_3)
        have z_2 := Int32.le_iff_toInt_le.mp c_6
        have k_0 : (0 : Int32).toInt = 0 := (by decide)
        have k_7 : (7 : Int32).toInt = 7 := (by decide)
        exact absurd (⟨by omega, by omega, by omega, by omega⟩) hf0
      · have b_8 : iv 8 2147483647 a1 := iv_l2 (Int32.not_le.mp c_6) (iv_c (7 : Int32) (a := 7) (b := 7) (by decide)) b_5 (by decide)
        refine lv_bipush (v := (-3)) hx hb dX9_mean_22 (by decide) ?_
        exact fiI hx hb hr hlk hK hP hD hS dX9_mean_24 (Nat.le_of_ble_eq_true rfl) (Nat.le_of_ble_eq_true rfl) (⟨(iv_c ((-3) : Int32) (by decide)), rfl⟩)
  · refine lv_iload_n hx hb dX9_mean_4 rfl (lv_at hl 2 rfl) ?_
    refine lv_iconst (v := 1) hx hb dX9_mean_5 (by decide) ?_
    refine lv_icmp_eq (tgt := 12) hx hb dX9_mean_6 (by decide) (fun c_9 => ?_) (fun c_9 => ?_)
    · have b_10 : iv 1 1 a2 := iv_q c_9 (iv_c (1 : Int32) (a := 1) (b := 1) (by decide))
      refine lv_iload_n hx hb dX9_mean_12 rfl (lv_at hl 1 rfl) ?_
      refine lv_if_lt (tgt := 22) hx hb dX9_mean_13 (by decide) (fun c_11 => ?_) (fun c_11 => ?_)
      · have b_12 : iv (-2147483648) (-1) a1 := iv_l1 c_11 (iv_top a1) (iv_c (0 : Int32) (a := 0) (b := 0) (by decide)) (by decide)
        refine lv_bipush (v := (-3)) hx hb dX9_mean_22 (by decide) ?_
        exact fiI hx hb hr hlk hK hP hD hS dX9_mean_24 (Nat.le_of_ble_eq_true rfl) (Nat.le_of_ble_eq_true rfl) (⟨(iv_c ((-3) : Int32) (by decide)), rfl⟩)
      · have b_13 : iv 0 2147483647 a1 := iv_e2 (Int32.not_lt.mp c_11) (iv_c (0 : Int32) (a := 0) (b := 0) (by decide)) (iv_top a1) (by decide)
        refine lv_iload_n hx hb dX9_mean_16 rfl (lv_at hl 1 rfl) ?_
        refine lv_bipush (v := 7) hx hb dX9_mean_17 (by decide) ?_
        refine lv_icmp_le (tgt := 25) hx hb dX9_mean_19 (by decide) (fun c_14 => ?_) (fun c_14 => ?_)
        · have b_15 : iv 0 7 a1 := iv_e1 c_14 b_13 (iv_c (7 : Int32) (a := 7) (b := 7) (by decide)) (by decide)
          refine lv_aload_n hx hb dX9_mean_25 rfl (lv_at hl 0 rfl) ?_
          refine lv_iload_n hx hb dX9_mean_26 rfl (lv_at hl 1 rfl) ?_
          have z_0 : ¬ ((a2 : Int32).toInt = (0 : Int32).toInt) := fun q9 => c_1 (Int32.toInt_inj.mp q9)
          have z_1 := congrArg Int32.toInt c_9
          have z_2 := Int32.le_iff_toInt_le.mp (Int32.not_lt.mp c_11)
          have z_3 := Int32.le_iff_toInt_le.mp c_14
          have k_0 : (0 : Int32).toInt = 0 := (by decide)
          have k_1 : (1 : Int32).toInt = 1 := (by decide)
          have k_7 : (7 : Int32).toInt = 7 := (by decide)
          exact absurd (⟨by omega, by omega, by omega, by omega⟩) hf0
        · have b_16 : iv 8 2147483647 a1 := iv_l2 (Int32.not_le.mp c_14) (iv_c (7 : Int32) (a := 7) (b := 7) (by decide)) b_13 (by decide)
          refine lv_bipush (v := (-3)) hx hb dX9_mean_22 (by decide) ?_
          exact fiI hx hb hr hlk hK hP hD hS dX9_mean_24 (Nat.le_of_ble_eq_true rfl) (Nat.le_of_ble_eq_true rfl) (⟨(iv_c ((-3) : Int32) (by decide)), rfl⟩)
    · refine lv_bipush (v := (-2)) hx hb dX9_mean_9 (by decide) ?_
      exact fiI hx hb hr hlk hK hP hD hS dX9_mean_11 (Nat.le_of_ble_eq_true rfl) (Nat.le_of_ble_eq_true rfl) (⟨(iv_c ((-2) : Int32) (by decide)), rfl⟩)
set_option maxHeartbeats 4000000 in
set_option maxRecDepth 100000 in
theorem k_X9_mean_2 (l : Launch) (V : GV) (y : Nat → Nat) (D9 : Nat → Int32) (a1 : Int32) (a2 : Int32) (py0_1 : Int32) (o11 : Value) (py0_12 : Int32) (py0_13 : Int32) (py0_14 : Int32) (py2_0 : Int32) (py2_1 : Int32) (py2_2 : Int32) (py2_3 : Int32) (py2_4 : Int32) (py2_5 : Int32) (py2_13 : Int32) (py2_14 : Int32) (py2_15 : Int32) (py2_16 : Int32) (py2_17 : Int32) (fy3 : Nat → Int32) (fy9 : Nat → Int32) (fy20 : Nat → Int32) (fy21 : Nat → Int32) (fy22 : Nat → Int32) (bpy0_1 : iv 0 900 py0_1) (bpy0_12 : iv 0 9999 py0_12) (bpy0_13 : iv 0 9 py0_13) (bpy2_1 : iv 0 4 py2_1) (bpy2_2 : iv 0 4 py2_2) (bpy2_3 : iv 0 8 py2_3) (bpy2_4 : iv 0 9999 py2_4) (bpy2_5 : iv 0 9 py2_5) (bpy2_13 : iv 0 900 py2_13) (bpy2_14 : iv 0 900 py2_14) (bpy2_15 : iv 0 900 py2_15) (bpy2_16 : iv 0 900 py2_16) (bpy2_17 : iv 0 900 py2_17) (tfy20 : ∀ j, iv 0 10 (fy20 j)) (hf0 : 0 ≤ (a1 : Int32).toInt) (hf1 : (a1 : Int32).toInt ≤ 7) (hf2 : 0 ≤ (a2 : Int32).toInt) (hf3 : (a2 : Int32).toInt ≤ 1) (hL9 : LW D9 fy3 fy9 py2_14 py2_15 py2_16 py2_17) (hK9 : KN D9 fy20) : Ct l V yX9_mean (.code yX9_mean cX9_mean 6 (some .int)) 8 [.ref (y 0), .int a1, .int a2] [(y 0, .inr (9, o9_rirrrrrrrrnviii (y 1) py0_1 (y 2) (y 10) (y 19) (y 25) (y 26) (y 30) (y 31) (y 32) o11 py0_12 py0_13 py0_14)), (y 2, .inr (1, o1_iiiiiirrrrrrriiiii py2_0 py2_1 py2_2 py2_3 py2_4 py2_5 (y 3) (y 4) (y 5) (y 6) (y 7) (y 8) (y 9) py2_13 py2_14 py2_15 py2_16 py2_17)), (y 3, aI V 4 fy3), (y 9, aI V 900 fy9), (y 19, .inr (4, o4_rrrrrr (y 2) (y 20) (y 21) (y 22) (y 23) (y 24))), (y 20, aI V 2000 fy20), (y 21, aI V 6 fy21), (y 22, aI V 64 fy22)] 10 46481 (QI V (fun (r : Int32) (w : va_W) => ∃ (n : Nat) (L : Nat) (Yw : Nat → Nat) (wa : Nat) (wb : Nat) (g0 : Nat → Int32) (g1 : Nat → Int32) (g2 : Nat → Int32) (ww0 : Int32) (ww5 : Int32) (ww6 : Int32) (ww14 : Int32) (ww15 : Int32) (ww16 : Int32) (wew1 : Nat → Int32) (wew2 : Nat → Int32) (wew3 : Nat → Int32) (wew4 : Nat → Int32) (wew5 : Nat → Int32) (wew6 : Nat → Int32) (wew7 : Nat → Int32) (wew8 : Nat → Int32) (wew9 : Nat → Int32), (1 ≤ n ∧ n ≤ 3646) ∧ (1 ≤ L ∧ L ≤ 10000) ∧ (∀ j, iv 0 10 (g0 j)) ∧ iv 0 4 ww0 ∧ iv 0 ((n : Int)) ww5 ∧ iv 0 4 ww6 ∧ iv 0 4 ww14 ∧ iv 0 9 ww15 ∧ iv 0 ((n : Int)) ww16 ∧ (∀ j, iv 0 ((L : Int) - 1) (wew1 j)) ∧ (∀ j, iv 0 ((n : Int)) (wew4 j)) ∧ (∀ j, iv 0 (4 * (n : Int) - 1) (wew5 j)) ∧ (∀ j, iv 0 ((n : Int) - 1) (wew6 j)) ∧ (∀ j, iv 0 ((n : Int) - 1) (wew7 j)) ∧ (WA ww5 wew4 wew1) ∧ (WB ww16 ww6 ww5 wew6) ∧ (WC ww5 wew2) ∧ (ww0 = py2_1) ∧ KN D9 g0 ∧ w = [(y 0, .inr (9, o9_rirrrrrrrrrviii (y 1) py0_1 (y 2) (y 10) (y 19) (y 25) (y 26) (y 30) (y 31) (y 32) (Yw 0) o11 py0_12 py0_13 py0_14)), (y 2, .inr (1, o1_iiiiiirrrrrrriiiii py2_0 py2_1 py2_2 py2_3 py2_4 py2_5 (y 3) (y 4) (y 5) (y 6) (y 7) (y 8) (y 9) py2_13 py2_14 py2_15 py2_16 py2_17)), (y 3, aI V 4 fy3), (y 9, aI V 900 fy9), (y 19, .inr (4, o4_rrrrrr (y 2) (y 20) (y 21) (y 22) (y 23) (y 24))), (y 20, aI V 2000 g0), (y 21, aI V 6 g1), (y 22, aI V 64 g2), (Yw 0, .inr (8, o8_iirrriirrrrrrriii ww0 (nI n) (Yw 1) (Yw 2) wa ww5 ww6 (y 19) (Yw 4) (Yw 5) (Yw 6) (Yw 7) (Yw 8) wb ww14 ww15 ww16)), (Yw 1, aI V n wew1), (Yw 2, aI V n wew2), (wa, aI V n wew3), (Yw 4, aI V L wew4), (Yw 5, aI V n wew5), (Yw 6, aI V (n * 4) wew6), (Yw 7, aI V n wew7), (Yw 8, aI V 4 wew8), (wb, aI V n wew9)])) := by
  refine Ct.of (by decide) (Nat.le_of_ble_eq_true rfl) (fun p e s m below meth c A ls hx hb hr hml hown hlk hnm hg hP hK hD hE hA hS hl => ?_)
  have hl : lv_has ls 6 [(0, .ref (y 0)), (1, .int a1), (2, .int a2)] := hl
  refine lv_iload_n hx hb dX9_mean_0 rfl (lv_at hl 2 rfl) ?_
  refine lv_if_eq (tgt := 12) hx hb dX9_mean_1 (by decide) (fun c_1 => ?_) (fun c_1 => ?_)
  · have b_2 : iv 0 0 a2 := iv_q c_1 (iv_c (0 : Int32) (a := 0) (b := 0) (by decide))
    refine lv_iload_n hx hb dX9_mean_12 rfl (lv_at hl 1 rfl) ?_
    refine lv_if_lt (tgt := 22) hx hb dX9_mean_13 (by decide) (fun c_3 => ?_) (fun c_3 => ?_)
    · have b_4 : iv (-2147483648) (-1) a1 := iv_l1 c_3 (iv_top a1) (iv_c (0 : Int32) (a := 0) (b := 0) (by decide)) (by first | decide | omega)
      refine lv_bipush (v := (-3)) hx hb dX9_mean_22 (by decide) ?_
      have z_0 := congrArg Int32.toInt c_1
      have z_1 := Int32.lt_iff_toInt_lt.mp c_3
      have k_0 : (0 : Int32).toInt = 0 := (by decide)
      exfalso
      have g_0 := hf0
      have g_1 := hf1
      have g_2 := hf2
      have g_3 := hf3
      omega
    · have b_5 : iv 0 2147483647 a1 := iv_e2 (Int32.not_lt.mp c_3) (iv_c (0 : Int32) (a := 0) (b := 0) (by decide)) (iv_top a1) (by first | decide | omega)
      refine lv_iload_n hx hb dX9_mean_16 rfl (lv_at hl 1 rfl) ?_
      refine lv_bipush (v := 7) hx hb dX9_mean_17 (by decide) ?_
      refine lv_icmp_le (tgt := 25) hx hb dX9_mean_19 (by decide) (fun c_6 => ?_) (fun c_6 => ?_)
      · have b_7 : iv 0 7 a1 := iv_e1 c_6 b_5 (iv_c (7 : Int32) (a := 7) (b := 7) (by decide)) (by first | decide | omega)
        refine lv_aload_n hx hb dX9_mean_25 rfl (lv_at hl 0 rfl) ?_
        refine lv_iload_n hx hb dX9_mean_26 rfl (lv_at hl 1 rfl) ?_
        refine jnR (wr := []) (rnV (rest := []) ⟨hx, hb, hml, hown, hg⟩ (k_X9_waysFromNow_1 l V y D9 a1 fy3 fy9 fy20 fy21 fy22 py0_1 o11 py0_12 py0_13 py0_14 py2_0 py2_1 py2_2 py2_3 py2_4 py2_5 py2_13 py2_14 py2_15 py2_16 py2_17 tfy20 bpy0_1 bpy0_12 bpy0_13 bpy2_1 bpy2_2 bpy2_3 bpy2_4 bpy2_5 bpy2_13 bpy2_14 bpy2_15 bpy2_16 bpy2_17 hL9 hK9) mt_X9_waysFromNow q_4_52 ⟨Nat.le_of_ble_eq_true rfl, Nat.le_of_ble_eq_true rfl⟩ hK hP hD hS hA hE [2, 3, 4, 5, 6, 7, 0, 1] rfl rfl 0 rfl rfl rfl rfl hl.1 rfl (Nat.le_of_ble_eq_true rfl) dX9_mean_27 ⟨Nat.le_of_ble_eq_true rfl, Nat.le_of_ble_eq_true rfl⟩) hP hD hS hA [2, 3, 4, 5, 6, 7, 0, 1] [] rfl rfl rfl (by decide) (fun r_8 w H locs hw hP hD hS => ?_)
        refine W.widen (k := 10) (n := 46481) (Nat.le_of_ble_eq_true rfl) (Nat.le_of_ble_eq_true rfl) ?_
        obtain ⟨n, L, Yw, wa_9, wb_10, f_11, f_12, f_13, v_14, v_15, v_16, v_17, v_18, v_19, f_20, f_21, f_22, f_23, f_24, f_25, f_26, f_27, f_28, hn, hL, tf_11, bv_14, bv_15, bv_16, bv_17, bv_18, bv_19, tf_20, tf_23, tf_24, tf_25, tf_26, eW, g_29, g_30, g_31, g_32, g_33, kn_34, rfl⟩ := hw
        have hP : va_P V.1 vwCl [(y 3, aI V 4 fy3), (y 9, aI V 900 fy9), (y 19, .inr (4, o4_rrrrrr (y 2) (y 20) (y 21) (y 22) (y 23) (y 24))), (y 20, aI V 2000 f_11), (y 21, aI V 6 f_12), (y 22, aI V 64 f_13), (y 0, .inr (9, o9_rirrrrrrrrrviii (y 1) py0_1 (y 2) (y 10) (y 19) (y 25) (y 26) (y 30) (y 31) (y 32) (Yw 0) o11 py0_12 py0_13 py0_14)), (y 2, .inr (1, o1_iiiiiirrrrrrriiiii py2_0 py2_1 py2_2 py2_3 py2_4 py2_5 (y 3) (y 4) (y 5) (y 6) (y 7) (y 8) (y 9) py2_13 py2_14 py2_15 py2_16 py2_17)), (Yw 0, .inr (8, o8_iirrriirrrrrrriii v_14 (nI n) (Yw 1) (Yw 2) wa_9 v_15 v_16 (y 19) (Yw 4) (Yw 5) (Yw 6) (Yw 7) (Yw 8) wb_10 v_17 v_18 v_19)), (Yw 1, aI V n f_20), (Yw 2, aI V n f_21), (wa_9, aI V n f_22), (Yw 4, aI V L f_23), (Yw 5, aI V n f_24), (Yw 6, aI V (n * 4) f_25), (Yw 7, aI V n f_26), (Yw 8, aI V 4 f_27), (wb_10, aI V n f_28)] H := hP
        have hD := cpD hP hD
        rw [← eW]
        refine lv_astore_n (lv' := [(3, .ref (Yw 0)), (0, .ref (y 0)), (1, .int a1), (2, .int a2)]) hx hb dX9_mean_30 rfl hl (by decide) rfl (fun ls hl => ?_)
        refine lv_aload_n hx hb dX9_mean_31 rfl (lv_at hl 0 rfl) ?_
        refine lv_iload_n hx hb dX9_mean_32 rfl (lv_at hl 2 rfl) ?_
        refine jnV (wr := [(y 3, aI V 4 fy3), (y 9, aI V 900 fy9), (y 19, .inr (4, o4_rrrrrr (y 2) (y 20) (y 21) (y 22) (y 23) (y 24))), (y 20, aI V 2000 f_11), (y 21, aI V 6 f_12), (y 22, aI V 64 f_13), (y 0, .inr (9, o9_rirrrrrrrrrviii (y 1) py0_1 (y 2) (y 10) (y 19) (y 25) (y 26) (y 30) (y 31) (y 32) (Yw 0) o11 py0_12 py0_13 py0_14)), (y 2, .inr (1, o1_iiiiiirrrrrrriiiii py2_0 py2_1 py2_2 py2_3 py2_4 py2_5 (y 3) (y 4) (y 5) (y 6) (y 7) (y 8) (y 9) py2_13 py2_14 py2_15 py2_16 py2_17)), (Yw 1, aI V n f_20), (Yw 4, aI V L f_23), (Yw 5, aI V n f_24), (Yw 7, aI V n f_26), (Yw 8, aI V 4 f_27)]) (rnV (rest := []) ⟨hx, hb, hml, hown, hg⟩ (k_X8_spreadByLots_0 l V n Yw y a1 v_14 wa_9 v_15 v_16 wb_10 v_17 v_18 v_19 f_21 f_22 f_25 f_28 hn bv_14 bv_15 bv_16 bv_17 bv_18 bv_19 tf_25) mt_X8_spreadByLots q_5_158 ⟨Nat.le_of_ble_eq_true rfl, Nat.le_of_ble_eq_true rfl⟩ hK hP hD hS hA hE [8, 10, 11, 14, 17] rfl rfl 8 rfl rfl rfl rfl hl.1 rfl (Nat.le_of_ble_eq_true rfl) dX9_mean_33 ⟨Nat.le_of_ble_eq_true rfl, Nat.le_of_ble_eq_true rfl⟩) hP hD hS hA [8, 10, 11, 14, 17] [0, 1, 2, 3, 4, 5, 6, 7, 9, 12, 13, 15, 16] rfl rfl rfl (by decide) (fun  w H locs hw hP hD hS => ?_)
        obtain ⟨wa_35, wb_36, f_37, f_38, rfl⟩ := hw
        have hP : va_P V.1 vwCl [(y 3, aI V 4 fy3), (y 9, aI V 900 fy9), (y 19, .inr (4, o4_rrrrrr (y 2) (y 20) (y 21) (y 22) (y 23) (y 24))), (y 20, aI V 2000 f_11), (y 21, aI V 6 f_12), (y 22, aI V 64 f_13), (y 0, .inr (9, o9_rirrrrrrrrrviii (y 1) py0_1 (y 2) (y 10) (y 19) (y 25) (y 26) (y 30) (y 31) (y 32) (Yw 0) o11 py0_12 py0_13 py0_14)), (y 2, .inr (1, o1_iiiiiirrrrrrriiiii py2_0 py2_1 py2_2 py2_3 py2_4 py2_5 (y 3) (y 4) (y 5) (y 6) (y 7) (y 8) (y 9) py2_13 py2_14 py2_15 py2_16 py2_17)), (Yw 1, aI V n f_20), (Yw 4, aI V L f_23), (Yw 5, aI V n f_24), (Yw 7, aI V n f_26), (Yw 8, aI V 4 f_27), (Yw 0, .inr (8, o8_iirrriirrrrrrriii v_14 (nI n) (Yw 1) (Yw 2) wa_35 v_15 v_16 (y 19) (Yw 4) (Yw 5) (Yw 6) (Yw 7) (Yw 8) wb_36 v_17 v_18 v_19)), (Yw 2, aI V n f_21), (wa_35, aI V n f_37), (Yw 6, aI V (n * 4) f_25), (wb_36, aI V n f_38)] H := hP
        have hD := cpD hP hD
        refine lv_iconst (v := 0) hx hb dX9_mean_36 (by decide) ?_
        refine lv_istore (lv' := [(4, .int 0), (3, .ref (Yw 0)), (0, .ref (y 0)), (1, .int a1), (2, .int a2)]) hx hb dX9_mean_37 hl (by decide) rfl (fun ls hl => ?_)
        refine lv_iconst (v := 0) hx hb dX9_mean_39 (by decide) ?_
        refine lv_istore (lv' := [(5, .int 0), (4, .int 0), (3, .ref (Yw 0)), (0, .ref (y 0)), (1, .int a1), (2, .int a2)]) hx hb dX9_mean_40 hl (by decide) rfl (fun ls hl => ?_)
        refine loopF (X := fun (n_41 : Nat) (H : Heap) (locs : List Loc) (ls : Array Slot) => ∃ (u_39 : Int32) (u_40 : Int32), (iv 0 2147483647 u_39) ∧ KN D9 f_11 ∧ n_41 = (2147483647 - (u_39 : Int32).toInt).toNat ∧ va_P V.1 vwCl [(y 3, aI V 4 fy3), (y 9, aI V 900 fy9), (y 19, .inr (4, o4_rrrrrr (y 2) (y 20) (y 21) (y 22) (y 23) (y 24))), (y 20, aI V 2000 f_11), (y 21, aI V 6 f_12), (y 22, aI V 64 f_13), (y 0, .inr (9, o9_rirrrrrrrrrviii (y 1) py0_1 (y 2) (y 10) (y 19) (y 25) (y 26) (y 30) (y 31) (y 32) (Yw 0) o11 py0_12 py0_13 py0_14)), (y 2, .inr (1, o1_iiiiiirrrrrrriiiii py2_0 py2_1 py2_2 py2_3 py2_4 py2_5 (y 3) (y 4) (y 5) (y 6) (y 7) (y 8) (y 9) py2_13 py2_14 py2_15 py2_16 py2_17)), (Yw 1, aI V n f_20), (Yw 4, aI V L f_23), (Yw 5, aI V n f_24), (Yw 7, aI V n f_26), (Yw 8, aI V 4 f_27), (Yw 0, .inr (8, o8_iirrriirrrrrrriii v_14 (nI n) (Yw 1) (Yw 2) wa_35 v_15 v_16 (y 19) (Yw 4) (Yw 5) (Yw 6) (Yw 7) (Yw 8) wb_36 v_17 v_18 v_19)), (Yw 2, aI V n f_21), (wa_35, aI V n f_37), (Yw 6, aI V (n * 4) f_25), (wb_36, aI V n f_38)] H ∧ va_D A [(y 3, aI V 4 fy3), (y 9, aI V 900 fy9), (y 19, .inr (4, o4_rrrrrr (y 2) (y 20) (y 21) (y 22) (y 23) (y 24))), (y 20, aI V 2000 f_11), (y 21, aI V 6 f_12), (y 22, aI V 64 f_13), (y 0, .inr (9, o9_rirrrrrrrrrviii (y 1) py0_1 (y 2) (y 10) (y 19) (y 25) (y 26) (y 30) (y 31) (y 32) (Yw 0) o11 py0_12 py0_13 py0_14)), (y 2, .inr (1, o1_iiiiiirrrrrrriiiii py2_0 py2_1 py2_2 py2_3 py2_4 py2_5 (y 3) (y 4) (y 5) (y 6) (y 7) (y 8) (y 9) py2_13 py2_14 py2_15 py2_16 py2_17)), (Yw 1, aI V n f_20), (Yw 4, aI V L f_23), (Yw 5, aI V n f_24), (Yw 7, aI V n f_26), (Yw 8, aI V 4 f_27), (Yw 0, .inr (8, o8_iirrriirrrrrrriii v_14 (nI n) (Yw 1) (Yw 2) wa_35 v_15 v_16 (y 19) (Yw 4) (Yw 5) (Yw 6) (Yw 7) (Yw 8) wb_36 v_17 v_18 v_19)), (Yw 2, aI V n f_21), (wa_35, aI V n f_37), (Yw 6, aI V (n * 4) f_25), (wb_36, aI V n f_38)] ∧ va_S A s.heap H locs ∧ lv_has ls 6 [(5, .int u_39), (4, .int u_40), (3, .ref (Yw 0)), (0, .ref (y 0)), (1, .int a1), (2, .int a2)]) (g := fun ls => F0 m 42 ls []) (fun n_41 H locs ls hX ihn_41 => ?_) _ ⟨0, 0, (iv_c (0 : Int32) (by decide)), kn_34, rfl, hP, hD, hS, lv_sub hl [0, 1, 2, 3, 4, 5] rfl⟩
        obtain ⟨u_39, u_40, bu_39, knn_41, en_41, hP, hD, hS, hl⟩ := hX
        refine lv_iload hx hb dX9_mean_42 (lv_at hl 0 rfl) ?_
        refine lv_aload_n hx hb dX9_mean_44 rfl (lv_at hl 2 rfl) ?_
        refine va_get (ci := 8) (v := .int v_15) (C := RX8) (T := TX8) (N := 17) hx hb hg inX8 hown hK hP 13 rfl rfl 5 (by decide) (hg _ q_4_78) (fun _ h9 => h9) rfl dX9_mean_45 ?_
        refine lv_icmp_ge (tgt := 90) hx hb dX9_mean_48 (by decide) (fun c_42 => ?_) (fun c_42 => ?_)
        · refine lv_iload hx hb dX9_mean_90 (lv_at hl 1 rfl) ?_
          refine lv_iload_n hx hb dX9_mean_92 rfl (lv_at hl 4 rfl) ?_
          refine lv_iload_n hx hb dX9_mean_93 rfl (lv_at hl 5 rfl) ?_
          refine jnI (wr := [(y 3, aI V 4 fy3), (y 9, aI V 900 fy9), (y 19, .inr (4, o4_rrrrrr (y 2) (y 20) (y 21) (y 22) (y 23) (y 24))), (y 20, aI V 2000 f_11), (y 21, aI V 6 f_12), (y 22, aI V 64 f_13), (y 0, .inr (9, o9_rirrrrrrrrrviii (y 1) py0_1 (y 2) (y 10) (y 19) (y 25) (y 26) (y 30) (y 31) (y 32) (Yw 0) o11 py0_12 py0_13 py0_14)), (y 2, .inr (1, o1_iiiiiirrrrrrriiiii py2_0 py2_1 py2_2 py2_3 py2_4 py2_5 (y 3) (y 4) (y 5) (y 6) (y 7) (y 8) (y 9) py2_13 py2_14 py2_15 py2_16 py2_17)), (Yw 1, aI V n f_20), (Yw 4, aI V L f_23), (Yw 5, aI V n f_24), (Yw 7, aI V n f_26), (Yw 8, aI V 4 f_27), (Yw 0, .inr (8, o8_iirrriirrrrrrriii v_14 (nI n) (Yw 1) (Yw 2) wa_35 v_15 v_16 (y 19) (Yw 4) (Yw 5) (Yw 6) (Yw 7) (Yw 8) wb_36 v_17 v_18 v_19)), (Yw 2, aI V n f_21), (wa_35, aI V n f_37), (Yw 6, aI V (n * 4) f_25), (wb_36, aI V n f_38)]) (rnS (rest := []) ⟨hx, hb, hml, hown, hg⟩ (k_X9_inLowestTerms_0 l V u_40 a1 a2) mt_X9_inLowestTerms q_5_163 ⟨Nat.le_of_ble_eq_true rfl, Nat.le_of_ble_eq_true rfl⟩ hK hP hD hS hA hE [] rfl rfl rfl hl.1 rfl (Nat.le_of_ble_eq_true rfl) dX9_mean_94 ⟨Nat.le_of_ble_eq_true rfl, Nat.le_of_ble_eq_true rfl⟩) hP hD hS hA [] [0, 1, 2, 3, 4, 5, 6, 7, 8, 9, 10, 11, 12, 13, 14, 15, 16, 17] rfl rfl rfl (by decide) (fun r_43 w H locs hw hP hD hS => ?_)
          subst hw
          have hP : va_P V.1 vwCl [(y 3, aI V 4 fy3), (y 9, aI V 900 fy9), (y 19, .inr (4, o4_rrrrrr (y 2) (y 20) (y 21) (y 22) (y 23) (y 24))), (y 20, aI V 2000 f_11), (y 21, aI V 6 f_12), (y 22, aI V 64 f_13), (y 0, .inr (9, o9_rirrrrrrrrrviii (y 1) py0_1 (y 2) (y 10) (y 19) (y 25) (y 26) (y 30) (y 31) (y 32) (Yw 0) o11 py0_12 py0_13 py0_14)), (y 2, .inr (1, o1_iiiiiirrrrrrriiiii py2_0 py2_1 py2_2 py2_3 py2_4 py2_5 (y 3) (y 4) (y 5) (y 6) (y 7) (y 8) (y 9) py2_13 py2_14 py2_15 py2_16 py2_17)), (Yw 1, aI V n f_20), (Yw 4, aI V L f_23), (Yw 5, aI V n f_24), (Yw 7, aI V n f_26), (Yw 8, aI V 4 f_27), (Yw 0, .inr (8, o8_iirrriirrrrrrriii v_14 (nI n) (Yw 1) (Yw 2) wa_35 v_15 v_16 (y 19) (Yw 4) (Yw 5) (Yw 6) (Yw 7) (Yw 8) wb_36 v_17 v_18 v_19)), (Yw 2, aI V n f_21), (wa_35, aI V n f_37), (Yw 6, aI V (n * 4) f_25), (wb_36, aI V n f_38)] H := hP
          have hD := cpD hP hD
          have hP := subP (ws' := [(y 0, .inr (9, o9_rirrrrrrrrrviii (y 1) py0_1 (y 2) (y 10) (y 19) (y 25) (y 26) (y 30) (y 31) (y 32) (Yw 0) o11 py0_12 py0_13 py0_14)), (y 2, .inr (1, o1_iiiiiirrrrrrriiiii py2_0 py2_1 py2_2 py2_3 py2_4 py2_5 (y 3) (y 4) (y 5) (y 6) (y 7) (y 8) (y 9) py2_13 py2_14 py2_15 py2_16 py2_17)), (y 3, aI V 4 fy3), (y 9, aI V 900 fy9), (y 19, .inr (4, o4_rrrrrr (y 2) (y 20) (y 21) (y 22) (y 23) (y 24))), (y 20, aI V 2000 f_11), (y 21, aI V 6 f_12), (y 22, aI V 64 f_13), (Yw 1, aI V n f_20), (Yw 4, aI V L f_23), (Yw 5, aI V n f_24), (Yw 7, aI V n f_26), (Yw 8, aI V 4 f_27), (Yw 0, .inr (8, o8_iirrriirrrrrrriii v_14 (nI n) (Yw 1) (Yw 2) wa_35 v_15 v_16 (y 19) (Yw 4) (Yw 5) (Yw 6) (Yw 7) (Yw 8) wb_36 v_17 v_18 v_19)), (Yw 2, aI V n f_21), (wa_35, aI V n f_37), (Yw 6, aI V (n * 4) f_25), (wb_36, aI V n f_38)]) hP [6, 7, 0, 1, 2, 3, 4, 5, 8, 9, 10, 11, 12, 13, 14, 15, 16, 17] rfl
          have hD := subD hP hD [6, 7, 0, 1, 2, 3, 4, 5, 8, 9, 10, 11, 12, 13, 14, 15, 16, 17] rfl rfl
          exact fiI hx hb hr hlk hK (subP (ws' := [(y 0, .inr (9, o9_rirrrrrrrrrviii (y 1) py0_1 (y 2) (y 10) (y 19) (y 25) (y 26) (y 30) (y 31) (y 32) (Yw 0) o11 py0_12 py0_13 py0_14)), (y 2, .inr (1, o1_iiiiiirrrrrrriiiii py2_0 py2_1 py2_2 py2_3 py2_4 py2_5 (y 3) (y 4) (y 5) (y 6) (y 7) (y 8) (y 9) py2_13 py2_14 py2_15 py2_16 py2_17)), (y 3, aI V 4 fy3), (y 9, aI V 900 fy9), (y 19, .inr (4, o4_rrrrrr (y 2) (y 20) (y 21) (y 22) (y 23) (y 24))), (y 20, aI V 2000 f_11), (y 21, aI V 6 f_12), (y 22, aI V 64 f_13), (Yw 0, .inr (8, o8_iirrriirrrrrrriii v_14 (nI n) (Yw 1) (Yw 2) wa_35 v_15 v_16 (y 19) (Yw 4) (Yw 5) (Yw 6) (Yw 7) (Yw 8) wb_36 v_17 v_18 v_19)), (Yw 1, aI V n f_20), (Yw 2, aI V n f_21), (wa_35, aI V n f_37), (Yw 4, aI V L f_23), (Yw 5, aI V n f_24), (Yw 6, aI V (n * 4) f_25), (Yw 7, aI V n f_26), (Yw 8, aI V 4 f_27), (wb_36, aI V n f_38)]) hP [0, 1, 2, 3, 4, 5, 6, 7, 13, 8, 14, 15, 9, 10, 16, 11, 12, 17] rfl) (hD.sub [0, 1, 2, 3, 4, 5, 6, 7, 13, 8, 14, 15, 9, 10, 16, 11, 12, 17] rfl rfl) hS dX9_mean_97 (Nat.le_of_ble_eq_true rfl) (Nat.le_of_ble_eq_true rfl) (⟨n, L, Yw, wa_35, wb_36, f_11, f_12, f_13, v_14, v_15, v_16, v_17, v_18, v_19, f_20, f_21, f_37, f_23, f_24, f_25, f_26, f_27, f_38, hn, hL, tf_11, bv_14, bv_15, bv_16, bv_17, bv_18, bv_19, tf_20, tf_23, tf_24, tf_25, tf_26, g_29, g_30, g_31, g_33, knn_41, rfl⟩)
        · have b_44 : iv 0 ((n : Int) - 1) u_39 := iv_l1 (Int32.not_le.mp c_42) bu_39 bv_15 (by first | decide | omega)
          have b_45 : iv 1 ((n : Int)) v_15 := iv_l2 (Int32.not_le.mp c_42) bu_39 bv_15 (by first | decide | omega)
          refine lv_aload_n hx hb dX9_mean_51 rfl (lv_at hl 2 rfl) ?_
          refine va_get (ci := 8) (v := .ref wa_35) (C := RX8) (T := TX8) (N := 17) hx hb hg inX8 hown hK hP 13 rfl rfl 4 (by decide) (hg _ q_4_75) (fun _ h9 => h9) rfl dX9_mean_52 ?_
          refine lv_iload hx hb dX9_mean_55 (lv_at hl 0 rfl) ?_
          refine va_iald hx hb hK hP 15 0 rfl rfl (iv_in b_44 (by first | decide | omega)) dX9_mean_57 ?_
          refine lv_topi (fun x_46 ex_46 => ?_)
          refine lv_if_eq (tgt := 84) hx hb dX9_mean_58 (by decide) (fun c_47 => ?_) (fun c_47 => ?_)
          · have b_48 : iv 0 0 x_46 := iv_q c_47 (iv_c (0 : Int32) (a := 0) (b := 0) (by decide))
            obtain ⟨x_49, ex_49⟩ : ∃ z9 : Int32, z9 = u_39 + 1 := ⟨_, rfl⟩
            have bx_49 : iv 1 ((n : Int)) x_49 := by rw [ex_49]; exact iv_add b_44 (iv_c (1 : Int32) (a := 1) (b := 1) (by first | decide | omega)) (by first | decide | omega)
            refine lv_iinc (v := x_49) (lv' := [(5, .int x_49), (4, .int u_40), (3, .ref (Yw 0)), (0, .ref (y 0)), (1, .int a1), (2, .int a2)]) hx hb dX9_mean_84 hl (k := 0) rfl (by rw [ex_49]; rfl) (by decide) rfl (fun ls hl => ?_)
            refine lv_goto (tgt := 42) hx hb dX9_mean_87 (by decide) ?_
            exact ihn_41 _ _ _ _ (by rw [en_41, ex_49]; exact mu_up b_44 (by first | decide | omega)) ⟨x_49, u_40, (iv_w bx_49 (by first | decide | omega)), knn_41, rfl, hP, hD, hS, lv_sub hl [0, 1, 2, 3, 4, 5] rfl⟩
          · refine lv_iload hx hb dX9_mean_61 (lv_at hl 1 rfl) ?_
            refine lv_aload_n hx hb dX9_mean_63 rfl (lv_at hl 2 rfl) ?_
            refine va_get (ci := 8) (v := .ref wa_35) (C := RX8) (T := TX8) (N := 17) hx hb hg inX8 hown hK hP 13 rfl rfl 4 (by decide) (hg _ q_4_75) (fun _ h9 => h9) rfl dX9_mean_64 ?_
            refine lv_iload hx hb dX9_mean_67 (lv_at hl 0 rfl) ?_
            refine va_iald hx hb hK hP 15 0 rfl rfl (iv_in b_44 (by first | decide | omega)) dX9_mean_69 ?_
            refine lv_topi (fun x_50 ex_50 => ?_)
            refine lv_aload_n hx hb dX9_mean_70 rfl (lv_at hl 2 rfl) ?_
            refine va_get (ci := 8) (v := .ref (Yw 1)) (C := RX8) (T := TX8) (N := 17) hx hb hg inX8 hown hK hP 13 rfl rfl 2 (by decide) (hg _ q_4_71) (fun _ h9 => h9) rfl dX9_mean_71 ?_
            refine lv_iload hx hb dX9_mean_74 (lv_at hl 0 rfl) ?_
            refine va_iald hx hb hK hP 8 0 rfl rfl (iv_in b_44 (by first | decide | omega)) dX9_mean_76 ?_
            refine lv_topi (fun x_51 ex_51 => ?_)
            have bx_51 : iv 0 ((L : Int) - 1) x_51 := by rw [ex_51]; exact tf_20 _
            refine jnI (wr := [(y 3, aI V 4 fy3), (y 9, aI V 900 fy9), (y 19, .inr (4, o4_rrrrrr (y 2) (y 20) (y 21) (y 22) (y 23) (y 24))), (y 20, aI V 2000 f_11), (y 21, aI V 6 f_12), (y 22, aI V 64 f_13), (y 0, .inr (9, o9_rirrrrrrrrrviii (y 1) py0_1 (y 2) (y 10) (y 19) (y 25) (y 26) (y 30) (y 31) (y 32) (Yw 0) o11 py0_12 py0_13 py0_14)), (y 2, .inr (1, o1_iiiiiirrrrrrriiiii py2_0 py2_1 py2_2 py2_3 py2_4 py2_5 (y 3) (y 4) (y 5) (y 6) (y 7) (y 8) (y 9) py2_13 py2_14 py2_15 py2_16 py2_17)), (Yw 1, aI V n f_20), (Yw 4, aI V L f_23), (Yw 5, aI V n f_24), (Yw 7, aI V n f_26), (Yw 8, aI V 4 f_27), (Yw 0, .inr (8, o8_iirrriirrrrrrriii v_14 (nI n) (Yw 1) (Yw 2) wa_35 v_15 v_16 (y 19) (Yw 4) (Yw 5) (Yw 6) (Yw 7) (Yw 8) wb_36 v_17 v_18 v_19)), (Yw 2, aI V n f_21), (wa_35, aI V n f_37), (Yw 6, aI V (n * 4) f_25), (wb_36, aI V n f_38)]) (rnS (rest := [.int x_50, .int u_40]) ⟨hx, hb, hml, hown, hg⟩ (k_X9_stacksTogether_0 l V x_51 (iv_w bx_51 (by first | decide | omega))) mt_X9_stacksTogether q_3_239 ⟨Nat.le_of_ble_eq_true rfl, Nat.le_of_ble_eq_true rfl⟩ hK hP hD hS hA hE [] rfl rfl rfl hl.1 rfl (Nat.le_of_ble_eq_true rfl) dX9_mean_77 ⟨Nat.le_of_ble_eq_true rfl, Nat.le_of_ble_eq_true rfl⟩) hP hD hS hA [] [0, 1, 2, 3, 4, 5, 6, 7, 8, 9, 10, 11, 12, 13, 14, 15, 16, 17] rfl rfl rfl (by decide) (fun r_52 w H locs hw hP hD hS => ?_)
            obtain ⟨er_52, et_53, rfl⟩ := hw
            have hP : va_P V.1 vwCl [(y 3, aI V 4 fy3), (y 9, aI V 900 fy9), (y 19, .inr (4, o4_rrrrrr (y 2) (y 20) (y 21) (y 22) (y 23) (y 24))), (y 20, aI V 2000 f_11), (y 21, aI V 6 f_12), (y 22, aI V 64 f_13), (y 0, .inr (9, o9_rirrrrrrrrrviii (y 1) py0_1 (y 2) (y 10) (y 19) (y 25) (y 26) (y 30) (y 31) (y 32) (Yw 0) o11 py0_12 py0_13 py0_14)), (y 2, .inr (1, o1_iiiiiirrrrrrriiiii py2_0 py2_1 py2_2 py2_3 py2_4 py2_5 (y 3) (y 4) (y 5) (y 6) (y 7) (y 8) (y 9) py2_13 py2_14 py2_15 py2_16 py2_17)), (Yw 1, aI V n f_20), (Yw 4, aI V L f_23), (Yw 5, aI V n f_24), (Yw 7, aI V n f_26), (Yw 8, aI V 4 f_27), (Yw 0, .inr (8, o8_iirrriirrrrrrriii v_14 (nI n) (Yw 1) (Yw 2) wa_35 v_15 v_16 (y 19) (Yw 4) (Yw 5) (Yw 6) (Yw 7) (Yw 8) wb_36 v_17 v_18 v_19)), (Yw 2, aI V n f_21), (wa_35, aI V n f_37), (Yw 6, aI V (n * 4) f_25), (wb_36, aI V n f_38)] H := hP
            have hD := cpD hP hD
            refine lv_imul hx hb dX9_mean_80 ?_
            refine lv_topi (fun x_54 ex_54 => ?_)
            refine lv_iadd hx hb dX9_mean_81 ?_
            refine lv_topi (fun x_55 ex_55 => ?_)
            refine lv_istore (lv' := [(4, .int x_55), (5, .int u_39), (3, .ref (Yw 0)), (0, .ref (y 0)), (1, .int a1), (2, .int a2)]) hx hb dX9_mean_82 hl (by decide) rfl (fun ls hl => ?_)
            obtain ⟨x_56, ex_56⟩ : ∃ z9 : Int32, z9 = u_39 + 1 := ⟨_, rfl⟩
            have bx_56 : iv 1 ((n : Int)) x_56 := by rw [ex_56]; exact iv_add b_44 (iv_c (1 : Int32) (a := 1) (b := 1) (by first | decide | omega)) (by first | decide | omega)
            refine lv_iinc (v := x_56) (lv' := [(5, .int x_56), (4, .int x_55), (3, .ref (Yw 0)), (0, .ref (y 0)), (1, .int a1), (2, .int a2)]) hx hb dX9_mean_84 hl (k := 1) rfl (by rw [ex_56]; rfl) (by decide) rfl (fun ls hl => ?_)
            refine lv_goto (tgt := 42) hx hb dX9_mean_87 (by decide) ?_
            exact ihn_41 _ _ _ _ (by rw [en_41, ex_56]; exact mu_up b_44 (by first | decide | omega)) ⟨x_56, x_55, (iv_w bx_56 (by first | decide | omega)), knn_41, rfl, hP, hD, hS, lv_sub hl [0, 1, 2, 3, 4, 5] rfl⟩
      · have b_57 : iv 8 2147483647 a1 := iv_l2 (Int32.not_le.mp c_6) (iv_c (7 : Int32) (a := 7) (b := 7) (by decide)) b_5 (by first | decide | omega)
        refine lv_bipush (v := (-3)) hx hb dX9_mean_22 (by decide) ?_
        have z_0 := congrArg Int32.toInt c_1
        have z_1 := Int32.le_iff_toInt_le.mp (Int32.not_lt.mp c_3)
        have z_2 := Int32.lt_iff_toInt_lt.mp (Int32.not_le.mp c_6)
        have k_0 : (0 : Int32).toInt = 0 := (by decide)
        have k_7 : (7 : Int32).toInt = 7 := (by decide)
        exfalso
        have g_0 := hf0
        have g_1 := hf1
        have g_2 := hf2
        have g_3 := hf3
        omega
  · refine lv_iload_n hx hb dX9_mean_4 rfl (lv_at hl 2 rfl) ?_
    refine lv_iconst (v := 1) hx hb dX9_mean_5 (by decide) ?_
    refine lv_icmp_eq (tgt := 12) hx hb dX9_mean_6 (by decide) (fun c_58 => ?_) (fun c_58 => ?_)
    · have b_59 : iv 1 1 a2 := iv_q c_58 (iv_c (1 : Int32) (a := 1) (b := 1) (by decide))
      refine lv_iload_n hx hb dX9_mean_12 rfl (lv_at hl 1 rfl) ?_
      refine lv_if_lt (tgt := 22) hx hb dX9_mean_13 (by decide) (fun c_60 => ?_) (fun c_60 => ?_)
      · have b_61 : iv (-2147483648) (-1) a1 := iv_l1 c_60 (iv_top a1) (iv_c (0 : Int32) (a := 0) (b := 0) (by decide)) (by first | decide | omega)
        refine lv_bipush (v := (-3)) hx hb dX9_mean_22 (by decide) ?_
        have z_0 : ¬ ((a2 : Int32).toInt = (0 : Int32).toInt) := fun q9 => c_1 (Int32.toInt_inj.mp q9)
        have z_1 := congrArg Int32.toInt c_58
        have z_2 := Int32.lt_iff_toInt_lt.mp c_60
        have k_0 : (0 : Int32).toInt = 0 := (by decide)
        have k_1 : (1 : Int32).toInt = 1 := (by decide)
        exfalso
        have g_0 := hf0
        have g_1 := hf1
        have g_2 := hf2
        have g_3 := hf3
        omega
      · have b_62 : iv 0 2147483647 a1 := iv_e2 (Int32.not_lt.mp c_60) (iv_c (0 : Int32) (a := 0) (b := 0) (by decide)) (iv_top a1) (by first | decide | omega)
        refine lv_iload_n hx hb dX9_mean_16 rfl (lv_at hl 1 rfl) ?_
        refine lv_bipush (v := 7) hx hb dX9_mean_17 (by decide) ?_
        refine lv_icmp_le (tgt := 25) hx hb dX9_mean_19 (by decide) (fun c_63 => ?_) (fun c_63 => ?_)
        · have b_64 : iv 0 7 a1 := iv_e1 c_63 b_62 (iv_c (7 : Int32) (a := 7) (b := 7) (by decide)) (by first | decide | omega)
          refine lv_aload_n hx hb dX9_mean_25 rfl (lv_at hl 0 rfl) ?_
          refine lv_iload_n hx hb dX9_mean_26 rfl (lv_at hl 1 rfl) ?_
          refine jnR (wr := []) (rnV (rest := []) ⟨hx, hb, hml, hown, hg⟩ (k_X9_waysFromNow_1 l V y D9 a1 fy3 fy9 fy20 fy21 fy22 py0_1 o11 py0_12 py0_13 py0_14 py2_0 py2_1 py2_2 py2_3 py2_4 py2_5 py2_13 py2_14 py2_15 py2_16 py2_17 tfy20 bpy0_1 bpy0_12 bpy0_13 bpy2_1 bpy2_2 bpy2_3 bpy2_4 bpy2_5 bpy2_13 bpy2_14 bpy2_15 bpy2_16 bpy2_17 hL9 hK9) mt_X9_waysFromNow q_4_52 ⟨Nat.le_of_ble_eq_true rfl, Nat.le_of_ble_eq_true rfl⟩ hK hP hD hS hA hE [2, 3, 4, 5, 6, 7, 0, 1] rfl rfl 0 rfl rfl rfl rfl hl.1 rfl (Nat.le_of_ble_eq_true rfl) dX9_mean_27 ⟨Nat.le_of_ble_eq_true rfl, Nat.le_of_ble_eq_true rfl⟩) hP hD hS hA [2, 3, 4, 5, 6, 7, 0, 1] [] rfl rfl rfl (by decide) (fun r_65 w H locs hw hP hD hS => ?_)
          refine W.widen (k := 10) (n := 46481) (Nat.le_of_ble_eq_true rfl) (Nat.le_of_ble_eq_true rfl) ?_
          obtain ⟨n, L, Yw, wa_66, wb_67, f_68, f_69, f_70, v_71, v_72, v_73, v_74, v_75, v_76, f_77, f_78, f_79, f_80, f_81, f_82, f_83, f_84, f_85, hn, hL, tf_68, bv_71, bv_72, bv_73, bv_74, bv_75, bv_76, tf_77, tf_80, tf_81, tf_82, tf_83, eW, g_86, g_87, g_88, g_89, g_90, kn_91, rfl⟩ := hw
          have hP : va_P V.1 vwCl [(y 3, aI V 4 fy3), (y 9, aI V 900 fy9), (y 19, .inr (4, o4_rrrrrr (y 2) (y 20) (y 21) (y 22) (y 23) (y 24))), (y 20, aI V 2000 f_68), (y 21, aI V 6 f_69), (y 22, aI V 64 f_70), (y 0, .inr (9, o9_rirrrrrrrrrviii (y 1) py0_1 (y 2) (y 10) (y 19) (y 25) (y 26) (y 30) (y 31) (y 32) (Yw 0) o11 py0_12 py0_13 py0_14)), (y 2, .inr (1, o1_iiiiiirrrrrrriiiii py2_0 py2_1 py2_2 py2_3 py2_4 py2_5 (y 3) (y 4) (y 5) (y 6) (y 7) (y 8) (y 9) py2_13 py2_14 py2_15 py2_16 py2_17)), (Yw 0, .inr (8, o8_iirrriirrrrrrriii v_71 (nI n) (Yw 1) (Yw 2) wa_66 v_72 v_73 (y 19) (Yw 4) (Yw 5) (Yw 6) (Yw 7) (Yw 8) wb_67 v_74 v_75 v_76)), (Yw 1, aI V n f_77), (Yw 2, aI V n f_78), (wa_66, aI V n f_79), (Yw 4, aI V L f_80), (Yw 5, aI V n f_81), (Yw 6, aI V (n * 4) f_82), (Yw 7, aI V n f_83), (Yw 8, aI V 4 f_84), (wb_67, aI V n f_85)] H := hP
          have hD := cpD hP hD
          rw [← eW]
          refine lv_astore_n (lv' := [(3, .ref (Yw 0)), (0, .ref (y 0)), (1, .int a1), (2, .int a2)]) hx hb dX9_mean_30 rfl hl (by decide) rfl (fun ls hl => ?_)
          refine lv_aload_n hx hb dX9_mean_31 rfl (lv_at hl 0 rfl) ?_
          refine lv_iload_n hx hb dX9_mean_32 rfl (lv_at hl 2 rfl) ?_
          refine jnV (wr := [(y 3, aI V 4 fy3), (y 9, aI V 900 fy9), (y 19, .inr (4, o4_rrrrrr (y 2) (y 20) (y 21) (y 22) (y 23) (y 24))), (y 20, aI V 2000 f_68), (y 21, aI V 6 f_69), (y 22, aI V 64 f_70), (y 0, .inr (9, o9_rirrrrrrrrrviii (y 1) py0_1 (y 2) (y 10) (y 19) (y 25) (y 26) (y 30) (y 31) (y 32) (Yw 0) o11 py0_12 py0_13 py0_14)), (y 2, .inr (1, o1_iiiiiirrrrrrriiiii py2_0 py2_1 py2_2 py2_3 py2_4 py2_5 (y 3) (y 4) (y 5) (y 6) (y 7) (y 8) (y 9) py2_13 py2_14 py2_15 py2_16 py2_17)), (Yw 1, aI V n f_77), (Yw 4, aI V L f_80), (Yw 5, aI V n f_81), (Yw 7, aI V n f_83), (Yw 8, aI V 4 f_84)]) (rnV (rest := []) ⟨hx, hb, hml, hown, hg⟩ (k_X8_spreadByLots_0 l V n Yw y a1 v_71 wa_66 v_72 v_73 wb_67 v_74 v_75 v_76 f_78 f_79 f_82 f_85 hn bv_71 bv_72 bv_73 bv_74 bv_75 bv_76 tf_82) mt_X8_spreadByLots q_5_158 ⟨Nat.le_of_ble_eq_true rfl, Nat.le_of_ble_eq_true rfl⟩ hK hP hD hS hA hE [8, 10, 11, 14, 17] rfl rfl 8 rfl rfl rfl rfl hl.1 rfl (Nat.le_of_ble_eq_true rfl) dX9_mean_33 ⟨Nat.le_of_ble_eq_true rfl, Nat.le_of_ble_eq_true rfl⟩) hP hD hS hA [8, 10, 11, 14, 17] [0, 1, 2, 3, 4, 5, 6, 7, 9, 12, 13, 15, 16] rfl rfl rfl (by decide) (fun  w H locs hw hP hD hS => ?_)
          obtain ⟨wa_92, wb_93, f_94, f_95, rfl⟩ := hw
          have hP : va_P V.1 vwCl [(y 3, aI V 4 fy3), (y 9, aI V 900 fy9), (y 19, .inr (4, o4_rrrrrr (y 2) (y 20) (y 21) (y 22) (y 23) (y 24))), (y 20, aI V 2000 f_68), (y 21, aI V 6 f_69), (y 22, aI V 64 f_70), (y 0, .inr (9, o9_rirrrrrrrrrviii (y 1) py0_1 (y 2) (y 10) (y 19) (y 25) (y 26) (y 30) (y 31) (y 32) (Yw 0) o11 py0_12 py0_13 py0_14)), (y 2, .inr (1, o1_iiiiiirrrrrrriiiii py2_0 py2_1 py2_2 py2_3 py2_4 py2_5 (y 3) (y 4) (y 5) (y 6) (y 7) (y 8) (y 9) py2_13 py2_14 py2_15 py2_16 py2_17)), (Yw 1, aI V n f_77), (Yw 4, aI V L f_80), (Yw 5, aI V n f_81), (Yw 7, aI V n f_83), (Yw 8, aI V 4 f_84), (Yw 0, .inr (8, o8_iirrriirrrrrrriii v_71 (nI n) (Yw 1) (Yw 2) wa_92 v_72 v_73 (y 19) (Yw 4) (Yw 5) (Yw 6) (Yw 7) (Yw 8) wb_93 v_74 v_75 v_76)), (Yw 2, aI V n f_78), (wa_92, aI V n f_94), (Yw 6, aI V (n * 4) f_82), (wb_93, aI V n f_95)] H := hP
          have hD := cpD hP hD
          refine lv_iconst (v := 0) hx hb dX9_mean_36 (by decide) ?_
          refine lv_istore (lv' := [(4, .int 0), (3, .ref (Yw 0)), (0, .ref (y 0)), (1, .int a1), (2, .int a2)]) hx hb dX9_mean_37 hl (by decide) rfl (fun ls hl => ?_)
          refine lv_iconst (v := 0) hx hb dX9_mean_39 (by decide) ?_
          refine lv_istore (lv' := [(5, .int 0), (4, .int 0), (3, .ref (Yw 0)), (0, .ref (y 0)), (1, .int a1), (2, .int a2)]) hx hb dX9_mean_40 hl (by decide) rfl (fun ls hl => ?_)
          refine loopF (X := fun (n_98 : Nat) (H : Heap) (locs : List Loc) (ls : Array Slot) => ∃ (u_96 : Int32) (u_97 : Int32), (iv 0 2147483647 u_96) ∧ KN D9 f_68 ∧ n_98 = (2147483647 - (u_96 : Int32).toInt).toNat ∧ va_P V.1 vwCl [(y 3, aI V 4 fy3), (y 9, aI V 900 fy9), (y 19, .inr (4, o4_rrrrrr (y 2) (y 20) (y 21) (y 22) (y 23) (y 24))), (y 20, aI V 2000 f_68), (y 21, aI V 6 f_69), (y 22, aI V 64 f_70), (y 0, .inr (9, o9_rirrrrrrrrrviii (y 1) py0_1 (y 2) (y 10) (y 19) (y 25) (y 26) (y 30) (y 31) (y 32) (Yw 0) o11 py0_12 py0_13 py0_14)), (y 2, .inr (1, o1_iiiiiirrrrrrriiiii py2_0 py2_1 py2_2 py2_3 py2_4 py2_5 (y 3) (y 4) (y 5) (y 6) (y 7) (y 8) (y 9) py2_13 py2_14 py2_15 py2_16 py2_17)), (Yw 1, aI V n f_77), (Yw 4, aI V L f_80), (Yw 5, aI V n f_81), (Yw 7, aI V n f_83), (Yw 8, aI V 4 f_84), (Yw 0, .inr (8, o8_iirrriirrrrrrriii v_71 (nI n) (Yw 1) (Yw 2) wa_92 v_72 v_73 (y 19) (Yw 4) (Yw 5) (Yw 6) (Yw 7) (Yw 8) wb_93 v_74 v_75 v_76)), (Yw 2, aI V n f_78), (wa_92, aI V n f_94), (Yw 6, aI V (n * 4) f_82), (wb_93, aI V n f_95)] H ∧ va_D A [(y 3, aI V 4 fy3), (y 9, aI V 900 fy9), (y 19, .inr (4, o4_rrrrrr (y 2) (y 20) (y 21) (y 22) (y 23) (y 24))), (y 20, aI V 2000 f_68), (y 21, aI V 6 f_69), (y 22, aI V 64 f_70), (y 0, .inr (9, o9_rirrrrrrrrrviii (y 1) py0_1 (y 2) (y 10) (y 19) (y 25) (y 26) (y 30) (y 31) (y 32) (Yw 0) o11 py0_12 py0_13 py0_14)), (y 2, .inr (1, o1_iiiiiirrrrrrriiiii py2_0 py2_1 py2_2 py2_3 py2_4 py2_5 (y 3) (y 4) (y 5) (y 6) (y 7) (y 8) (y 9) py2_13 py2_14 py2_15 py2_16 py2_17)), (Yw 1, aI V n f_77), (Yw 4, aI V L f_80), (Yw 5, aI V n f_81), (Yw 7, aI V n f_83), (Yw 8, aI V 4 f_84), (Yw 0, .inr (8, o8_iirrriirrrrrrriii v_71 (nI n) (Yw 1) (Yw 2) wa_92 v_72 v_73 (y 19) (Yw 4) (Yw 5) (Yw 6) (Yw 7) (Yw 8) wb_93 v_74 v_75 v_76)), (Yw 2, aI V n f_78), (wa_92, aI V n f_94), (Yw 6, aI V (n * 4) f_82), (wb_93, aI V n f_95)] ∧ va_S A s.heap H locs ∧ lv_has ls 6 [(5, .int u_96), (4, .int u_97), (3, .ref (Yw 0)), (0, .ref (y 0)), (1, .int a1), (2, .int a2)]) (g := fun ls => F0 m 42 ls []) (fun n_98 H locs ls hX ihn_98 => ?_) _ ⟨0, 0, (iv_c (0 : Int32) (by decide)), kn_91, rfl, hP, hD, hS, lv_sub hl [0, 1, 2, 3, 4, 5] rfl⟩
          obtain ⟨u_96, u_97, bu_96, knn_98, en_98, hP, hD, hS, hl⟩ := hX
          refine lv_iload hx hb dX9_mean_42 (lv_at hl 0 rfl) ?_
          refine lv_aload_n hx hb dX9_mean_44 rfl (lv_at hl 2 rfl) ?_
          refine va_get (ci := 8) (v := .int v_72) (C := RX8) (T := TX8) (N := 17) hx hb hg inX8 hown hK hP 13 rfl rfl 5 (by decide) (hg _ q_4_78) (fun _ h9 => h9) rfl dX9_mean_45 ?_
          refine lv_icmp_ge (tgt := 90) hx hb dX9_mean_48 (by decide) (fun c_99 => ?_) (fun c_99 => ?_)
          · refine lv_iload hx hb dX9_mean_90 (lv_at hl 1 rfl) ?_
            refine lv_iload_n hx hb dX9_mean_92 rfl (lv_at hl 4 rfl) ?_
            refine lv_iload_n hx hb dX9_mean_93 rfl (lv_at hl 5 rfl) ?_
            refine jnI (wr := [(y 3, aI V 4 fy3), (y 9, aI V 900 fy9), (y 19, .inr (4, o4_rrrrrr (y 2) (y 20) (y 21) (y 22) (y 23) (y 24))), (y 20, aI V 2000 f_68), (y 21, aI V 6 f_69), (y 22, aI V 64 f_70), (y 0, .inr (9, o9_rirrrrrrrrrviii (y 1) py0_1 (y 2) (y 10) (y 19) (y 25) (y 26) (y 30) (y 31) (y 32) (Yw 0) o11 py0_12 py0_13 py0_14)), (y 2, .inr (1, o1_iiiiiirrrrrrriiiii py2_0 py2_1 py2_2 py2_3 py2_4 py2_5 (y 3) (y 4) (y 5) (y 6) (y 7) (y 8) (y 9) py2_13 py2_14 py2_15 py2_16 py2_17)), (Yw 1, aI V n f_77), (Yw 4, aI V L f_80), (Yw 5, aI V n f_81), (Yw 7, aI V n f_83), (Yw 8, aI V 4 f_84), (Yw 0, .inr (8, o8_iirrriirrrrrrriii v_71 (nI n) (Yw 1) (Yw 2) wa_92 v_72 v_73 (y 19) (Yw 4) (Yw 5) (Yw 6) (Yw 7) (Yw 8) wb_93 v_74 v_75 v_76)), (Yw 2, aI V n f_78), (wa_92, aI V n f_94), (Yw 6, aI V (n * 4) f_82), (wb_93, aI V n f_95)]) (rnS (rest := []) ⟨hx, hb, hml, hown, hg⟩ (k_X9_inLowestTerms_0 l V u_97 a1 a2) mt_X9_inLowestTerms q_5_163 ⟨Nat.le_of_ble_eq_true rfl, Nat.le_of_ble_eq_true rfl⟩ hK hP hD hS hA hE [] rfl rfl rfl hl.1 rfl (Nat.le_of_ble_eq_true rfl) dX9_mean_94 ⟨Nat.le_of_ble_eq_true rfl, Nat.le_of_ble_eq_true rfl⟩) hP hD hS hA [] [0, 1, 2, 3, 4, 5, 6, 7, 8, 9, 10, 11, 12, 13, 14, 15, 16, 17] rfl rfl rfl (by decide) (fun r_100 w H locs hw hP hD hS => ?_)
            subst hw
            have hP : va_P V.1 vwCl [(y 3, aI V 4 fy3), (y 9, aI V 900 fy9), (y 19, .inr (4, o4_rrrrrr (y 2) (y 20) (y 21) (y 22) (y 23) (y 24))), (y 20, aI V 2000 f_68), (y 21, aI V 6 f_69), (y 22, aI V 64 f_70), (y 0, .inr (9, o9_rirrrrrrrrrviii (y 1) py0_1 (y 2) (y 10) (y 19) (y 25) (y 26) (y 30) (y 31) (y 32) (Yw 0) o11 py0_12 py0_13 py0_14)), (y 2, .inr (1, o1_iiiiiirrrrrrriiiii py2_0 py2_1 py2_2 py2_3 py2_4 py2_5 (y 3) (y 4) (y 5) (y 6) (y 7) (y 8) (y 9) py2_13 py2_14 py2_15 py2_16 py2_17)), (Yw 1, aI V n f_77), (Yw 4, aI V L f_80), (Yw 5, aI V n f_81), (Yw 7, aI V n f_83), (Yw 8, aI V 4 f_84), (Yw 0, .inr (8, o8_iirrriirrrrrrriii v_71 (nI n) (Yw 1) (Yw 2) wa_92 v_72 v_73 (y 19) (Yw 4) (Yw 5) (Yw 6) (Yw 7) (Yw 8) wb_93 v_74 v_75 v_76)), (Yw 2, aI V n f_78), (wa_92, aI V n f_94), (Yw 6, aI V (n * 4) f_82), (wb_93, aI V n f_95)] H := hP
            have hD := cpD hP hD
            have hP := subP (ws' := [(y 0, .inr (9, o9_rirrrrrrrrrviii (y 1) py0_1 (y 2) (y 10) (y 19) (y 25) (y 26) (y 30) (y 31) (y 32) (Yw 0) o11 py0_12 py0_13 py0_14)), (y 2, .inr (1, o1_iiiiiirrrrrrriiiii py2_0 py2_1 py2_2 py2_3 py2_4 py2_5 (y 3) (y 4) (y 5) (y 6) (y 7) (y 8) (y 9) py2_13 py2_14 py2_15 py2_16 py2_17)), (y 3, aI V 4 fy3), (y 9, aI V 900 fy9), (y 19, .inr (4, o4_rrrrrr (y 2) (y 20) (y 21) (y 22) (y 23) (y 24))), (y 20, aI V 2000 f_68), (y 21, aI V 6 f_69), (y 22, aI V 64 f_70), (Yw 1, aI V n f_77), (Yw 4, aI V L f_80), (Yw 5, aI V n f_81), (Yw 7, aI V n f_83), (Yw 8, aI V 4 f_84), (Yw 0, .inr (8, o8_iirrriirrrrrrriii v_71 (nI n) (Yw 1) (Yw 2) wa_92 v_72 v_73 (y 19) (Yw 4) (Yw 5) (Yw 6) (Yw 7) (Yw 8) wb_93 v_74 v_75 v_76)), (Yw 2, aI V n f_78), (wa_92, aI V n f_94), (Yw 6, aI V (n * 4) f_82), (wb_93, aI V n f_95)]) hP [6, 7, 0, 1, 2, 3, 4, 5, 8, 9, 10, 11, 12, 13, 14, 15, 16, 17] rfl
            have hD := subD hP hD [6, 7, 0, 1, 2, 3, 4, 5, 8, 9, 10, 11, 12, 13, 14, 15, 16, 17] rfl rfl
            exact fiI hx hb hr hlk hK (subP (ws' := [(y 0, .inr (9, o9_rirrrrrrrrrviii (y 1) py0_1 (y 2) (y 10) (y 19) (y 25) (y 26) (y 30) (y 31) (y 32) (Yw 0) o11 py0_12 py0_13 py0_14)), (y 2, .inr (1, o1_iiiiiirrrrrrriiiii py2_0 py2_1 py2_2 py2_3 py2_4 py2_5 (y 3) (y 4) (y 5) (y 6) (y 7) (y 8) (y 9) py2_13 py2_14 py2_15 py2_16 py2_17)), (y 3, aI V 4 fy3), (y 9, aI V 900 fy9), (y 19, .inr (4, o4_rrrrrr (y 2) (y 20) (y 21) (y 22) (y 23) (y 24))), (y 20, aI V 2000 f_68), (y 21, aI V 6 f_69), (y 22, aI V 64 f_70), (Yw 0, .inr (8, o8_iirrriirrrrrrriii v_71 (nI n) (Yw 1) (Yw 2) wa_92 v_72 v_73 (y 19) (Yw 4) (Yw 5) (Yw 6) (Yw 7) (Yw 8) wb_93 v_74 v_75 v_76)), (Yw 1, aI V n f_77), (Yw 2, aI V n f_78), (wa_92, aI V n f_94), (Yw 4, aI V L f_80), (Yw 5, aI V n f_81), (Yw 6, aI V (n * 4) f_82), (Yw 7, aI V n f_83), (Yw 8, aI V 4 f_84), (wb_93, aI V n f_95)]) hP [0, 1, 2, 3, 4, 5, 6, 7, 13, 8, 14, 15, 9, 10, 16, 11, 12, 17] rfl) (hD.sub [0, 1, 2, 3, 4, 5, 6, 7, 13, 8, 14, 15, 9, 10, 16, 11, 12, 17] rfl rfl) hS dX9_mean_97 (Nat.le_of_ble_eq_true rfl) (Nat.le_of_ble_eq_true rfl) (⟨n, L, Yw, wa_92, wb_93, f_68, f_69, f_70, v_71, v_72, v_73, v_74, v_75, v_76, f_77, f_78, f_94, f_80, f_81, f_82, f_83, f_84, f_95, hn, hL, tf_68, bv_71, bv_72, bv_73, bv_74, bv_75, bv_76, tf_77, tf_80, tf_81, tf_82, tf_83, g_86, g_87, g_88, g_90, knn_98, rfl⟩)
          · have b_101 : iv 0 ((n : Int) - 1) u_96 := iv_l1 (Int32.not_le.mp c_99) bu_96 bv_72 (by first | decide | omega)
            have b_102 : iv 1 ((n : Int)) v_72 := iv_l2 (Int32.not_le.mp c_99) bu_96 bv_72 (by first | decide | omega)
            refine lv_aload_n hx hb dX9_mean_51 rfl (lv_at hl 2 rfl) ?_
            refine va_get (ci := 8) (v := .ref wa_92) (C := RX8) (T := TX8) (N := 17) hx hb hg inX8 hown hK hP 13 rfl rfl 4 (by decide) (hg _ q_4_75) (fun _ h9 => h9) rfl dX9_mean_52 ?_
            refine lv_iload hx hb dX9_mean_55 (lv_at hl 0 rfl) ?_
            refine va_iald hx hb hK hP 15 0 rfl rfl (iv_in b_101 (by first | decide | omega)) dX9_mean_57 ?_
            refine lv_topi (fun x_103 ex_103 => ?_)
            refine lv_if_eq (tgt := 84) hx hb dX9_mean_58 (by decide) (fun c_104 => ?_) (fun c_104 => ?_)
            · have b_105 : iv 0 0 x_103 := iv_q c_104 (iv_c (0 : Int32) (a := 0) (b := 0) (by decide))
              obtain ⟨x_106, ex_106⟩ : ∃ z9 : Int32, z9 = u_96 + 1 := ⟨_, rfl⟩
              have bx_106 : iv 1 ((n : Int)) x_106 := by rw [ex_106]; exact iv_add b_101 (iv_c (1 : Int32) (a := 1) (b := 1) (by first | decide | omega)) (by first | decide | omega)
              refine lv_iinc (v := x_106) (lv' := [(5, .int x_106), (4, .int u_97), (3, .ref (Yw 0)), (0, .ref (y 0)), (1, .int a1), (2, .int a2)]) hx hb dX9_mean_84 hl (k := 0) rfl (by rw [ex_106]; rfl) (by decide) rfl (fun ls hl => ?_)
              refine lv_goto (tgt := 42) hx hb dX9_mean_87 (by decide) ?_
              exact ihn_98 _ _ _ _ (by rw [en_98, ex_106]; exact mu_up b_101 (by first | decide | omega)) ⟨x_106, u_97, (iv_w bx_106 (by first | decide | omega)), knn_98, rfl, hP, hD, hS, lv_sub hl [0, 1, 2, 3, 4, 5] rfl⟩
            · refine lv_iload hx hb dX9_mean_61 (lv_at hl 1 rfl) ?_
              refine lv_aload_n hx hb dX9_mean_63 rfl (lv_at hl 2 rfl) ?_
              refine va_get (ci := 8) (v := .ref wa_92) (C := RX8) (T := TX8) (N := 17) hx hb hg inX8 hown hK hP 13 rfl rfl 4 (by decide) (hg _ q_4_75) (fun _ h9 => h9) rfl dX9_mean_64 ?_
              refine lv_iload hx hb dX9_mean_67 (lv_at hl 0 rfl) ?_
              refine va_iald hx hb hK hP 15 0 rfl rfl (iv_in b_101 (by first | decide | omega)) dX9_mean_69 ?_
              refine lv_topi (fun x_107 ex_107 => ?_)
              refine lv_aload_n hx hb dX9_mean_70 rfl (lv_at hl 2 rfl) ?_
              refine va_get (ci := 8) (v := .ref (Yw 1)) (C := RX8) (T := TX8) (N := 17) hx hb hg inX8 hown hK hP 13 rfl rfl 2 (by decide) (hg _ q_4_71) (fun _ h9 => h9) rfl dX9_mean_71 ?_
              refine lv_iload hx hb dX9_mean_74 (lv_at hl 0 rfl) ?_
              refine va_iald hx hb hK hP 8 0 rfl rfl (iv_in b_101 (by first | decide | omega)) dX9_mean_76 ?_
              refine lv_topi (fun x_108 ex_108 => ?_)
              have bx_108 : iv 0 ((L : Int) - 1) x_108 := by rw [ex_108]; exact tf_77 _
              refine jnI (wr := [(y 3, aI V 4 fy3), (y 9, aI V 900 fy9), (y 19, .inr (4, o4_rrrrrr (y 2) (y 20) (y 21) (y 22) (y 23) (y 24))), (y 20, aI V 2000 f_68), (y 21, aI V 6 f_69), (y 22, aI V 64 f_70), (y 0, .inr (9, o9_rirrrrrrrrrviii (y 1) py0_1 (y 2) (y 10) (y 19) (y 25) (y 26) (y 30) (y 31) (y 32) (Yw 0) o11 py0_12 py0_13 py0_14)), (y 2, .inr (1, o1_iiiiiirrrrrrriiiii py2_0 py2_1 py2_2 py2_3 py2_4 py2_5 (y 3) (y 4) (y 5) (y 6) (y 7) (y 8) (y 9) py2_13 py2_14 py2_15 py2_16 py2_17)), (Yw 1, aI V n f_77), (Yw 4, aI V L f_80), (Yw 5, aI V n f_81), (Yw 7, aI V n f_83), (Yw 8, aI V 4 f_84), (Yw 0, .inr (8, o8_iirrriirrrrrrriii v_71 (nI n) (Yw 1) (Yw 2) wa_92 v_72 v_73 (y 19) (Yw 4) (Yw 5) (Yw 6) (Yw 7) (Yw 8) wb_93 v_74 v_75 v_76)), (Yw 2, aI V n f_78), (wa_92, aI V n f_94), (Yw 6, aI V (n * 4) f_82), (wb_93, aI V n f_95)]) (rnS (rest := [.int x_107, .int u_97]) ⟨hx, hb, hml, hown, hg⟩ (k_X9_stacksTogether_0 l V x_108 (iv_w bx_108 (by first | decide | omega))) mt_X9_stacksTogether q_3_239 ⟨Nat.le_of_ble_eq_true rfl, Nat.le_of_ble_eq_true rfl⟩ hK hP hD hS hA hE [] rfl rfl rfl hl.1 rfl (Nat.le_of_ble_eq_true rfl) dX9_mean_77 ⟨Nat.le_of_ble_eq_true rfl, Nat.le_of_ble_eq_true rfl⟩) hP hD hS hA [] [0, 1, 2, 3, 4, 5, 6, 7, 8, 9, 10, 11, 12, 13, 14, 15, 16, 17] rfl rfl rfl (by decide) (fun r_109 w H locs hw hP hD hS => ?_)
              obtain ⟨er_109, et_110, rfl⟩ := hw
              have hP : va_P V.1 vwCl [(y 3, aI V 4 fy3), (y 9, aI V 900 fy9), (y 19, .inr (4, o4_rrrrrr (y 2) (y 20) (y 21) (y 22) (y 23) (y 24))), (y 20, aI V 2000 f_68), (y 21, aI V 6 f_69), (y 22, aI V 64 f_70), (y 0, .inr (9, o9_rirrrrrrrrrviii (y 1) py0_1 (y 2) (y 10) (y 19) (y 25) (y 26) (y 30) (y 31) (y 32) (Yw 0) o11 py0_12 py0_13 py0_14)), (y 2, .inr (1, o1_iiiiiirrrrrrriiiii py2_0 py2_1 py2_2 py2_3 py2_4 py2_5 (y 3) (y 4) (y 5) (y 6) (y 7) (y 8) (y 9) py2_13 py2_14 py2_15 py2_16 py2_17)), (Yw 1, aI V n f_77), (Yw 4, aI V L f_80), (Yw 5, aI V n f_81), (Yw 7, aI V n f_83), (Yw 8, aI V 4 f_84), (Yw 0, .inr (8, o8_iirrriirrrrrrriii v_71 (nI n) (Yw 1) (Yw 2) wa_92 v_72 v_73 (y 19) (Yw 4) (Yw 5) (Yw 6) (Yw 7) (Yw 8) wb_93 v_74 v_75 v_76)), (Yw 2, aI V n f_78), (wa_92, aI V n f_94), (Yw 6, aI V (n * 4) f_82), (wb_93, aI V n f_95)] H := hP
              have hD := cpD hP hD
              refine lv_imul hx hb dX9_mean_80 ?_
              refine lv_topi (fun x_111 ex_111 => ?_)
              refine lv_iadd hx hb dX9_mean_81 ?_
              refine lv_topi (fun x_112 ex_112 => ?_)
              refine lv_istore (lv' := [(4, .int x_112), (5, .int u_96), (3, .ref (Yw 0)), (0, .ref (y 0)), (1, .int a1), (2, .int a2)]) hx hb dX9_mean_82 hl (by decide) rfl (fun ls hl => ?_)
              obtain ⟨x_113, ex_113⟩ : ∃ z9 : Int32, z9 = u_96 + 1 := ⟨_, rfl⟩
              have bx_113 : iv 1 ((n : Int)) x_113 := by rw [ex_113]; exact iv_add b_101 (iv_c (1 : Int32) (a := 1) (b := 1) (by first | decide | omega)) (by first | decide | omega)
              refine lv_iinc (v := x_113) (lv' := [(5, .int x_113), (4, .int x_112), (3, .ref (Yw 0)), (0, .ref (y 0)), (1, .int a1), (2, .int a2)]) hx hb dX9_mean_84 hl (k := 1) rfl (by rw [ex_113]; rfl) (by decide) rfl (fun ls hl => ?_)
              refine lv_goto (tgt := 42) hx hb dX9_mean_87 (by decide) ?_
              exact ihn_98 _ _ _ _ (by rw [en_98, ex_113]; exact mu_up b_101 (by first | decide | omega)) ⟨x_113, x_112, (iv_w bx_113 (by first | decide | omega)), knn_98, rfl, hP, hD, hS, lv_sub hl [0, 1, 2, 3, 4, 5] rfl⟩
        · have b_114 : iv 8 2147483647 a1 := iv_l2 (Int32.not_le.mp c_63) (iv_c (7 : Int32) (a := 7) (b := 7) (by decide)) b_62 (by first | decide | omega)
          refine lv_bipush (v := (-3)) hx hb dX9_mean_22 (by decide) ?_
          have z_0 : ¬ ((a2 : Int32).toInt = (0 : Int32).toInt) := fun q9 => c_1 (Int32.toInt_inj.mp q9)
          have z_1 := congrArg Int32.toInt c_58
          have z_2 := Int32.le_iff_toInt_le.mp (Int32.not_lt.mp c_60)
          have z_3 := Int32.lt_iff_toInt_lt.mp (Int32.not_le.mp c_63)
          have k_0 : (0 : Int32).toInt = 0 := (by decide)
          have k_1 : (1 : Int32).toInt = 1 := (by decide)
          have k_7 : (7 : Int32).toInt = 7 := (by decide)
          exfalso
          have g_0 := hf0
          have g_1 := hf1
          have g_2 := hf2
          have g_3 := hf3
          omega
    · refine lv_bipush (v := (-2)) hx hb dX9_mean_9 (by decide) ?_
      have z_0 : ¬ ((a2 : Int32).toInt = (0 : Int32).toInt) := fun q9 => c_1 (Int32.toInt_inj.mp q9)
      have z_1 : ¬ ((a2 : Int32).toInt = (1 : Int32).toInt) := fun q9 => c_58 (Int32.toInt_inj.mp q9)
      have k_0 : (0 : Int32).toInt = 0 := (by decide)
      have k_1 : (1 : Int32).toInt = 1 := (by decide)
      exfalso
      have g_0 := hf0
      have g_1 := hf1
      have g_2 := hf2
      have g_3 := hf3
      omega
set_option maxHeartbeats 4000000 in
set_option maxRecDepth 100000 in
theorem k_X9_mean_3 (l : Launch) (V : GV) (n : Nat) (L : Nat) (Yw : Nat → Nat) (y : Nat → Nat) (D9 : Nat → Int32) (a1 : Int32) (a2 : Int32) (py0_1 : Int32) (o11 : Value) (py0_12 : Int32) (py0_13 : Int32) (py0_14 : Int32) (py2_0 : Int32) (py2_1 : Int32) (py2_2 : Int32) (py2_3 : Int32) (py2_4 : Int32) (py2_5 : Int32) (py2_13 : Int32) (py2_14 : Int32) (py2_15 : Int32) (py2_16 : Int32) (py2_17 : Int32) (fy3 : Nat → Int32) (fy9 : Nat → Int32) (fy20 : Nat → Int32) (fy21 : Nat → Int32) (fy22 : Nat → Int32) (pYw0_0 : Int32) (wa : Nat) (pYw0_5 : Int32) (pYw0_6 : Int32) (wb : Nat) (pYw0_14 : Int32) (pYw0_15 : Int32) (pYw0_16 : Int32) (fYw1 : Nat → Int32) (fYw2 : Nat → Int32) (fwa : Nat → Int32) (fYw4 : Nat → Int32) (fYw5 : Nat → Int32) (fYw6 : Nat → Int32) (fYw7 : Nat → Int32) (fYw8 : Nat → Int32) (fwb : Nat → Int32) (hn : 1 ≤ n ∧ n ≤ 3646) (hL : 1 ≤ L ∧ L ≤ 10000) (hq0 : pYw0_0 < py2_1) (bpy0_1 : iv 0 900 py0_1) (bpy0_12 : iv 0 9999 py0_12) (bpy0_13 : iv 0 9 py0_13) (bpy2_1 : iv 0 4 py2_1) (bpy2_2 : iv 0 4 py2_2) (bpy2_3 : iv 0 8 py2_3) (bpy2_4 : iv 0 9999 py2_4) (bpy2_5 : iv 0 9 py2_5) (bpy2_13 : iv 0 900 py2_13) (bpy2_14 : iv 0 900 py2_14) (bpy2_15 : iv 0 900 py2_15) (bpy2_16 : iv 0 900 py2_16) (bpy2_17 : iv 0 900 py2_17) (tfy20 : ∀ j, iv 0 10 (fy20 j)) (bpYw0_0 : iv 0 4 pYw0_0) (bpYw0_5 : iv 0 ((n : Int)) pYw0_5) (bpYw0_6 : iv 0 4 pYw0_6) (bpYw0_14 : iv 0 4 pYw0_14) (bpYw0_15 : iv 0 9 pYw0_15) (bpYw0_16 : iv 0 ((n : Int)) pYw0_16) (tfYw1 : ∀ j, iv 0 ((L : Int) - 1) (fYw1 j)) (tfYw4 : ∀ j, iv 0 ((n : Int)) (fYw4 j)) (tfYw5 : ∀ j, iv 0 (4 * (n : Int) - 1) (fYw5 j)) (tfYw6 : ∀ j, iv 0 ((n : Int) - 1) (fYw6 j)) (tfYw7 : ∀ j, iv 0 ((n : Int) - 1) (fYw7 j)) (hf0 : WA pYw0_5 fYw4 fYw1) (hf1 : WB pYw0_16 pYw0_6 pYw0_5 fYw6) (hf2 : WC pYw0_5 fYw2) (hf3 : 0 ≤ (a1 : Int32).toInt) (hf4 : (a1 : Int32).toInt ≤ 7) (hf5 : 0 ≤ (a2 : Int32).toInt) (hf6 : (a2 : Int32).toInt ≤ 1) (hL9 : LW D9 fy3 fy9 py2_14 py2_15 py2_16 py2_17) (hK9 : KN D9 fy20) : Ct l V yX9_mean (.code yX9_mean cX9_mean 6 (some .int)) 8 [.ref (y 0), .int a1, .int a2] [(y 0, .inr (9, o9_rirrrrrrrrrviii (y 1) py0_1 (y 2) (y 10) (y 19) (y 25) (y 26) (y 30) (y 31) (y 32) (Yw 0) o11 py0_12 py0_13 py0_14)), (y 2, .inr (1, o1_iiiiiirrrrrrriiiii py2_0 py2_1 py2_2 py2_3 py2_4 py2_5 (y 3) (y 4) (y 5) (y 6) (y 7) (y 8) (y 9) py2_13 py2_14 py2_15 py2_16 py2_17)), (y 3, aI V 4 fy3), (y 9, aI V 900 fy9), (y 19, .inr (4, o4_rrrrrr (y 2) (y 20) (y 21) (y 22) (y 23) (y 24))), (y 20, aI V 2000 fy20), (y 21, aI V 6 fy21), (y 22, aI V 64 fy22), (Yw 0, .inr (8, o8_iirrriirrrrrrriii pYw0_0 (nI n) (Yw 1) (Yw 2) wa pYw0_5 pYw0_6 (y 19) (Yw 4) (Yw 5) (Yw 6) (Yw 7) (Yw 8) wb pYw0_14 pYw0_15 pYw0_16)), (Yw 1, aI V n fYw1), (Yw 2, aI V n fYw2), (wa, aI V n fwa), (Yw 4, aI V L fYw4), (Yw 5, aI V n fYw5), (Yw 6, aI V (n * 4) fYw6), (Yw 7, aI V n fYw7), (Yw 8, aI V 4 fYw8), (wb, aI V n fwb)] 10 46481 (QI V (fun (r : Int32) (w : va_W) => ∃ (n : Nat) (L : Nat) (Yw : Nat → Nat) (wa : Nat) (wb : Nat) (g0 : Nat → Int32) (g1 : Nat → Int32) (g2 : Nat → Int32) (ww0 : Int32) (ww5 : Int32) (ww6 : Int32) (ww14 : Int32) (ww15 : Int32) (ww16 : Int32) (wew1 : Nat → Int32) (wew2 : Nat → Int32) (wew3 : Nat → Int32) (wew4 : Nat → Int32) (wew5 : Nat → Int32) (wew6 : Nat → Int32) (wew7 : Nat → Int32) (wew8 : Nat → Int32) (wew9 : Nat → Int32), (1 ≤ n ∧ n ≤ 3646) ∧ (1 ≤ L ∧ L ≤ 10000) ∧ (∀ j, iv 0 10 (g0 j)) ∧ iv 0 4 ww0 ∧ iv 0 ((n : Int)) ww5 ∧ iv 0 4 ww6 ∧ iv 0 4 ww14 ∧ iv 0 9 ww15 ∧ iv 0 ((n : Int)) ww16 ∧ (∀ j, iv 0 ((L : Int) - 1) (wew1 j)) ∧ (∀ j, iv 0 ((n : Int)) (wew4 j)) ∧ (∀ j, iv 0 (4 * (n : Int) - 1) (wew5 j)) ∧ (∀ j, iv 0 ((n : Int) - 1) (wew6 j)) ∧ (∀ j, iv 0 ((n : Int) - 1) (wew7 j)) ∧ (WA ww5 wew4 wew1) ∧ (WB ww16 ww6 ww5 wew6) ∧ (WC ww5 wew2) ∧ (ww0 = py2_1) ∧ KN D9 g0 ∧ w = [(y 0, .inr (9, o9_rirrrrrrrrrviii (y 1) py0_1 (y 2) (y 10) (y 19) (y 25) (y 26) (y 30) (y 31) (y 32) (Yw 0) o11 py0_12 py0_13 py0_14)), (y 2, .inr (1, o1_iiiiiirrrrrrriiiii py2_0 py2_1 py2_2 py2_3 py2_4 py2_5 (y 3) (y 4) (y 5) (y 6) (y 7) (y 8) (y 9) py2_13 py2_14 py2_15 py2_16 py2_17)), (y 3, aI V 4 fy3), (y 9, aI V 900 fy9), (y 19, .inr (4, o4_rrrrrr (y 2) (y 20) (y 21) (y 22) (y 23) (y 24))), (y 20, aI V 2000 g0), (y 21, aI V 6 g1), (y 22, aI V 64 g2), (Yw 0, .inr (8, o8_iirrriirrrrrrriii ww0 (nI n) (Yw 1) (Yw 2) wa ww5 ww6 (y 19) (Yw 4) (Yw 5) (Yw 6) (Yw 7) (Yw 8) wb ww14 ww15 ww16)), (Yw 1, aI V n wew1), (Yw 2, aI V n wew2), (wa, aI V n wew3), (Yw 4, aI V L wew4), (Yw 5, aI V n wew5), (Yw 6, aI V (n * 4) wew6), (Yw 7, aI V n wew7), (Yw 8, aI V 4 wew8), (wb, aI V n wew9)])) := by
  refine Ct.of (by decide) (Nat.le_of_ble_eq_true rfl) (fun p e s m below meth c A ls hx hb hr hml hown hlk hnm hg hP hK hD hE hA hS hl => ?_)
  have hl : lv_has ls 6 [(0, .ref (y 0)), (1, .int a1), (2, .int a2)] := hl
  refine lv_iload_n hx hb dX9_mean_0 rfl (lv_at hl 2 rfl) ?_
  refine lv_if_eq (tgt := 12) hx hb dX9_mean_1 (by decide) (fun c_1 => ?_) (fun c_1 => ?_)
  · have b_2 : iv 0 0 a2 := iv_q c_1 (iv_c (0 : Int32) (a := 0) (b := 0) (by decide))
    refine lv_iload_n hx hb dX9_mean_12 rfl (lv_at hl 1 rfl) ?_
    refine lv_if_lt (tgt := 22) hx hb dX9_mean_13 (by decide) (fun c_3 => ?_) (fun c_3 => ?_)
    · have b_4 : iv (-2147483648) (-1) a1 := iv_l1 c_3 (iv_top a1) (iv_c (0 : Int32) (a := 0) (b := 0) (by decide)) (by first | decide | omega)
      refine lv_bipush (v := (-3)) hx hb dX9_mean_22 (by decide) ?_
      have z_0 := Int32.lt_iff_toInt_lt.mp hq0
      have z_1 := congrArg Int32.toInt c_1
      have z_2 := Int32.lt_iff_toInt_lt.mp c_3
      have k_0 : (0 : Int32).toInt = 0 := (by decide)
      exfalso
      have g_0 := hf3
      have g_1 := hf4
      have g_2 := hf5
      have g_3 := hf6
      omega
    · have b_5 : iv 0 2147483647 a1 := iv_e2 (Int32.not_lt.mp c_3) (iv_c (0 : Int32) (a := 0) (b := 0) (by decide)) (iv_top a1) (by first | decide | omega)
      refine lv_iload_n hx hb dX9_mean_16 rfl (lv_at hl 1 rfl) ?_
      refine lv_bipush (v := 7) hx hb dX9_mean_17 (by decide) ?_
      refine lv_icmp_le (tgt := 25) hx hb dX9_mean_19 (by decide) (fun c_6 => ?_) (fun c_6 => ?_)
      · have b_7 : iv 0 7 a1 := iv_e1 c_6 b_5 (iv_c (7 : Int32) (a := 7) (b := 7) (by decide)) (by first | decide | omega)
        refine lv_aload_n hx hb dX9_mean_25 rfl (lv_at hl 0 rfl) ?_
        refine lv_iload_n hx hb dX9_mean_26 rfl (lv_at hl 1 rfl) ?_
        refine jnR (wr := []) (rnV (rest := []) ⟨hx, hb, hml, hown, hg⟩ (k_X9_waysFromNow_2 l V n L Yw y D9 a1 fy3 fy9 fy20 fy21 fy22 pYw0_0 wa pYw0_5 pYw0_6 wb pYw0_14 pYw0_15 pYw0_16 fYw1 fYw2 fwa fYw4 fYw5 fYw6 fYw7 fYw8 fwb py0_1 o11 py0_12 py0_13 py0_14 py2_0 py2_1 py2_2 py2_3 py2_4 py2_5 py2_13 py2_14 py2_15 py2_16 py2_17 hn hL hq0 tfy20 bpYw0_0 bpYw0_5 bpYw0_6 bpYw0_14 bpYw0_15 bpYw0_16 tfYw1 tfYw4 tfYw5 tfYw6 tfYw7 bpy0_1 bpy0_12 bpy0_13 bpy2_1 bpy2_2 bpy2_3 bpy2_4 bpy2_5 bpy2_13 bpy2_14 bpy2_15 bpy2_16 bpy2_17 hf0 hf1 hf2 hL9 hK9) mt_X9_waysFromNow q_4_52 ⟨Nat.le_of_ble_eq_true rfl, Nat.le_of_ble_eq_true rfl⟩ hK hP hD hS hA hE [2, 3, 4, 5, 6, 7, 8, 9, 10, 11, 12, 13, 14, 15, 16, 17, 0, 1] rfl rfl 0 rfl rfl rfl rfl hl.1 rfl (Nat.le_of_ble_eq_true rfl) dX9_mean_27 ⟨Nat.le_of_ble_eq_true rfl, Nat.le_of_ble_eq_true rfl⟩) hP hD hS hA [2, 3, 4, 5, 6, 7, 8, 9, 10, 11, 12, 13, 14, 15, 16, 17, 0, 1] [] rfl rfl rfl (by decide) (fun r_8 w H locs hw hP hD hS => ?_)
        refine W.widen (k := 10) (n := 46481) (Nat.le_of_ble_eq_true rfl) (Nat.le_of_ble_eq_true rfl) ?_
        obtain ⟨n, L, Yw, wa_9, wb_10, f_11, f_12, f_13, v_14, v_15, v_16, v_17, v_18, v_19, f_20, f_21, f_22, f_23, f_24, f_25, f_26, f_27, f_28, hn, hL, tf_11, bv_14, bv_15, bv_16, bv_17, bv_18, bv_19, tf_20, tf_23, tf_24, tf_25, tf_26, eW, g_29, g_30, g_31, g_32, g_33, kn_34, rfl⟩ := hw
        have hP : va_P V.1 vwCl [(y 3, aI V 4 fy3), (y 9, aI V 900 fy9), (y 19, .inr (4, o4_rrrrrr (y 2) (y 20) (y 21) (y 22) (y 23) (y 24))), (y 20, aI V 2000 f_11), (y 21, aI V 6 f_12), (y 22, aI V 64 f_13), (y 0, .inr (9, o9_rirrrrrrrrrviii (y 1) py0_1 (y 2) (y 10) (y 19) (y 25) (y 26) (y 30) (y 31) (y 32) (Yw 0) o11 py0_12 py0_13 py0_14)), (y 2, .inr (1, o1_iiiiiirrrrrrriiiii py2_0 py2_1 py2_2 py2_3 py2_4 py2_5 (y 3) (y 4) (y 5) (y 6) (y 7) (y 8) (y 9) py2_13 py2_14 py2_15 py2_16 py2_17)), (Yw 0, .inr (8, o8_iirrriirrrrrrriii v_14 (nI n) (Yw 1) (Yw 2) wa_9 v_15 v_16 (y 19) (Yw 4) (Yw 5) (Yw 6) (Yw 7) (Yw 8) wb_10 v_17 v_18 v_19)), (Yw 1, aI V n f_20), (Yw 2, aI V n f_21), (wa_9, aI V n f_22), (Yw 4, aI V L f_23), (Yw 5, aI V n f_24), (Yw 6, aI V (n * 4) f_25), (Yw 7, aI V n f_26), (Yw 8, aI V 4 f_27), (wb_10, aI V n f_28)] H := hP
        have hD := cpD hP hD
        rw [← eW]
        refine lv_astore_n (lv' := [(3, .ref (Yw 0)), (0, .ref (y 0)), (1, .int a1), (2, .int a2)]) hx hb dX9_mean_30 rfl hl (by decide) rfl (fun ls hl => ?_)
        refine lv_aload_n hx hb dX9_mean_31 rfl (lv_at hl 0 rfl) ?_
        refine lv_iload_n hx hb dX9_mean_32 rfl (lv_at hl 2 rfl) ?_
        refine jnV (wr := [(y 3, aI V 4 fy3), (y 9, aI V 900 fy9), (y 19, .inr (4, o4_rrrrrr (y 2) (y 20) (y 21) (y 22) (y 23) (y 24))), (y 20, aI V 2000 f_11), (y 21, aI V 6 f_12), (y 22, aI V 64 f_13), (y 0, .inr (9, o9_rirrrrrrrrrviii (y 1) py0_1 (y 2) (y 10) (y 19) (y 25) (y 26) (y 30) (y 31) (y 32) (Yw 0) o11 py0_12 py0_13 py0_14)), (y 2, .inr (1, o1_iiiiiirrrrrrriiiii py2_0 py2_1 py2_2 py2_3 py2_4 py2_5 (y 3) (y 4) (y 5) (y 6) (y 7) (y 8) (y 9) py2_13 py2_14 py2_15 py2_16 py2_17)), (Yw 1, aI V n f_20), (Yw 4, aI V L f_23), (Yw 5, aI V n f_24), (Yw 7, aI V n f_26), (Yw 8, aI V 4 f_27)]) (rnV (rest := []) ⟨hx, hb, hml, hown, hg⟩ (k_X8_spreadByLots_0 l V n Yw y a1 v_14 wa_9 v_15 v_16 wb_10 v_17 v_18 v_19 f_21 f_22 f_25 f_28 hn bv_14 bv_15 bv_16 bv_17 bv_18 bv_19 tf_25) mt_X8_spreadByLots q_5_158 ⟨Nat.le_of_ble_eq_true rfl, Nat.le_of_ble_eq_true rfl⟩ hK hP hD hS hA hE [8, 10, 11, 14, 17] rfl rfl 8 rfl rfl rfl rfl hl.1 rfl (Nat.le_of_ble_eq_true rfl) dX9_mean_33 ⟨Nat.le_of_ble_eq_true rfl, Nat.le_of_ble_eq_true rfl⟩) hP hD hS hA [8, 10, 11, 14, 17] [0, 1, 2, 3, 4, 5, 6, 7, 9, 12, 13, 15, 16] rfl rfl rfl (by decide) (fun  w H locs hw hP hD hS => ?_)
        obtain ⟨wa_35, wb_36, f_37, f_38, rfl⟩ := hw
        have hP : va_P V.1 vwCl [(y 3, aI V 4 fy3), (y 9, aI V 900 fy9), (y 19, .inr (4, o4_rrrrrr (y 2) (y 20) (y 21) (y 22) (y 23) (y 24))), (y 20, aI V 2000 f_11), (y 21, aI V 6 f_12), (y 22, aI V 64 f_13), (y 0, .inr (9, o9_rirrrrrrrrrviii (y 1) py0_1 (y 2) (y 10) (y 19) (y 25) (y 26) (y 30) (y 31) (y 32) (Yw 0) o11 py0_12 py0_13 py0_14)), (y 2, .inr (1, o1_iiiiiirrrrrrriiiii py2_0 py2_1 py2_2 py2_3 py2_4 py2_5 (y 3) (y 4) (y 5) (y 6) (y 7) (y 8) (y 9) py2_13 py2_14 py2_15 py2_16 py2_17)), (Yw 1, aI V n f_20), (Yw 4, aI V L f_23), (Yw 5, aI V n f_24), (Yw 7, aI V n f_26), (Yw 8, aI V 4 f_27), (Yw 0, .inr (8, o8_iirrriirrrrrrriii v_14 (nI n) (Yw 1) (Yw 2) wa_35 v_15 v_16 (y 19) (Yw 4) (Yw 5) (Yw 6) (Yw 7) (Yw 8) wb_36 v_17 v_18 v_19)), (Yw 2, aI V n f_21), (wa_35, aI V n f_37), (Yw 6, aI V (n * 4) f_25), (wb_36, aI V n f_38)] H := hP
        have hD := cpD hP hD
        refine lv_iconst (v := 0) hx hb dX9_mean_36 (by decide) ?_
        refine lv_istore (lv' := [(4, .int 0), (3, .ref (Yw 0)), (0, .ref (y 0)), (1, .int a1), (2, .int a2)]) hx hb dX9_mean_37 hl (by decide) rfl (fun ls hl => ?_)
        refine lv_iconst (v := 0) hx hb dX9_mean_39 (by decide) ?_
        refine lv_istore (lv' := [(5, .int 0), (4, .int 0), (3, .ref (Yw 0)), (0, .ref (y 0)), (1, .int a1), (2, .int a2)]) hx hb dX9_mean_40 hl (by decide) rfl (fun ls hl => ?_)
        refine loopF (X := fun (n_41 : Nat) (H : Heap) (locs : List Loc) (ls : Array Slot) => ∃ (u_39 : Int32) (u_40 : Int32), (iv 0 2147483647 u_39) ∧ KN D9 f_11 ∧ n_41 = (2147483647 - (u_39 : Int32).toInt).toNat ∧ va_P V.1 vwCl [(y 3, aI V 4 fy3), (y 9, aI V 900 fy9), (y 19, .inr (4, o4_rrrrrr (y 2) (y 20) (y 21) (y 22) (y 23) (y 24))), (y 20, aI V 2000 f_11), (y 21, aI V 6 f_12), (y 22, aI V 64 f_13), (y 0, .inr (9, o9_rirrrrrrrrrviii (y 1) py0_1 (y 2) (y 10) (y 19) (y 25) (y 26) (y 30) (y 31) (y 32) (Yw 0) o11 py0_12 py0_13 py0_14)), (y 2, .inr (1, o1_iiiiiirrrrrrriiiii py2_0 py2_1 py2_2 py2_3 py2_4 py2_5 (y 3) (y 4) (y 5) (y 6) (y 7) (y 8) (y 9) py2_13 py2_14 py2_15 py2_16 py2_17)), (Yw 1, aI V n f_20), (Yw 4, aI V L f_23), (Yw 5, aI V n f_24), (Yw 7, aI V n f_26), (Yw 8, aI V 4 f_27), (Yw 0, .inr (8, o8_iirrriirrrrrrriii v_14 (nI n) (Yw 1) (Yw 2) wa_35 v_15 v_16 (y 19) (Yw 4) (Yw 5) (Yw 6) (Yw 7) (Yw 8) wb_36 v_17 v_18 v_19)), (Yw 2, aI V n f_21), (wa_35, aI V n f_37), (Yw 6, aI V (n * 4) f_25), (wb_36, aI V n f_38)] H ∧ va_D A [(y 3, aI V 4 fy3), (y 9, aI V 900 fy9), (y 19, .inr (4, o4_rrrrrr (y 2) (y 20) (y 21) (y 22) (y 23) (y 24))), (y 20, aI V 2000 f_11), (y 21, aI V 6 f_12), (y 22, aI V 64 f_13), (y 0, .inr (9, o9_rirrrrrrrrrviii (y 1) py0_1 (y 2) (y 10) (y 19) (y 25) (y 26) (y 30) (y 31) (y 32) (Yw 0) o11 py0_12 py0_13 py0_14)), (y 2, .inr (1, o1_iiiiiirrrrrrriiiii py2_0 py2_1 py2_2 py2_3 py2_4 py2_5 (y 3) (y 4) (y 5) (y 6) (y 7) (y 8) (y 9) py2_13 py2_14 py2_15 py2_16 py2_17)), (Yw 1, aI V n f_20), (Yw 4, aI V L f_23), (Yw 5, aI V n f_24), (Yw 7, aI V n f_26), (Yw 8, aI V 4 f_27), (Yw 0, .inr (8, o8_iirrriirrrrrrriii v_14 (nI n) (Yw 1) (Yw 2) wa_35 v_15 v_16 (y 19) (Yw 4) (Yw 5) (Yw 6) (Yw 7) (Yw 8) wb_36 v_17 v_18 v_19)), (Yw 2, aI V n f_21), (wa_35, aI V n f_37), (Yw 6, aI V (n * 4) f_25), (wb_36, aI V n f_38)] ∧ va_S A s.heap H locs ∧ lv_has ls 6 [(5, .int u_39), (4, .int u_40), (3, .ref (Yw 0)), (0, .ref (y 0)), (1, .int a1), (2, .int a2)]) (g := fun ls => F0 m 42 ls []) (fun n_41 H locs ls hX ihn_41 => ?_) _ ⟨0, 0, (iv_c (0 : Int32) (by decide)), kn_34, rfl, hP, hD, hS, lv_sub hl [0, 1, 2, 3, 4, 5] rfl⟩
        obtain ⟨u_39, u_40, bu_39, knn_41, en_41, hP, hD, hS, hl⟩ := hX
        refine lv_iload hx hb dX9_mean_42 (lv_at hl 0 rfl) ?_
        refine lv_aload_n hx hb dX9_mean_44 rfl (lv_at hl 2 rfl) ?_
        refine va_get (ci := 8) (v := .int v_15) (C := RX8) (T := TX8) (N := 17) hx hb hg inX8 hown hK hP 13 rfl rfl 5 (by decide) (hg _ q_4_78) (fun _ h9 => h9) rfl dX9_mean_45 ?_
        refine lv_icmp_ge (tgt := 90) hx hb dX9_mean_48 (by decide) (fun c_42 => ?_) (fun c_42 => ?_)
        · refine lv_iload hx hb dX9_mean_90 (lv_at hl 1 rfl) ?_
          refine lv_iload_n hx hb dX9_mean_92 rfl (lv_at hl 4 rfl) ?_
          refine lv_iload_n hx hb dX9_mean_93 rfl (lv_at hl 5 rfl) ?_
          refine jnI (wr := [(y 3, aI V 4 fy3), (y 9, aI V 900 fy9), (y 19, .inr (4, o4_rrrrrr (y 2) (y 20) (y 21) (y 22) (y 23) (y 24))), (y 20, aI V 2000 f_11), (y 21, aI V 6 f_12), (y 22, aI V 64 f_13), (y 0, .inr (9, o9_rirrrrrrrrrviii (y 1) py0_1 (y 2) (y 10) (y 19) (y 25) (y 26) (y 30) (y 31) (y 32) (Yw 0) o11 py0_12 py0_13 py0_14)), (y 2, .inr (1, o1_iiiiiirrrrrrriiiii py2_0 py2_1 py2_2 py2_3 py2_4 py2_5 (y 3) (y 4) (y 5) (y 6) (y 7) (y 8) (y 9) py2_13 py2_14 py2_15 py2_16 py2_17)), (Yw 1, aI V n f_20), (Yw 4, aI V L f_23), (Yw 5, aI V n f_24), (Yw 7, aI V n f_26), (Yw 8, aI V 4 f_27), (Yw 0, .inr (8, o8_iirrriirrrrrrriii v_14 (nI n) (Yw 1) (Yw 2) wa_35 v_15 v_16 (y 19) (Yw 4) (Yw 5) (Yw 6) (Yw 7) (Yw 8) wb_36 v_17 v_18 v_19)), (Yw 2, aI V n f_21), (wa_35, aI V n f_37), (Yw 6, aI V (n * 4) f_25), (wb_36, aI V n f_38)]) (rnS (rest := []) ⟨hx, hb, hml, hown, hg⟩ (k_X9_inLowestTerms_0 l V u_40 a1 a2) mt_X9_inLowestTerms q_5_163 ⟨Nat.le_of_ble_eq_true rfl, Nat.le_of_ble_eq_true rfl⟩ hK hP hD hS hA hE [] rfl rfl rfl hl.1 rfl (Nat.le_of_ble_eq_true rfl) dX9_mean_94 ⟨Nat.le_of_ble_eq_true rfl, Nat.le_of_ble_eq_true rfl⟩) hP hD hS hA [] [0, 1, 2, 3, 4, 5, 6, 7, 8, 9, 10, 11, 12, 13, 14, 15, 16, 17] rfl rfl rfl (by decide) (fun r_43 w H locs hw hP hD hS => ?_)
          subst hw
          have hP : va_P V.1 vwCl [(y 3, aI V 4 fy3), (y 9, aI V 900 fy9), (y 19, .inr (4, o4_rrrrrr (y 2) (y 20) (y 21) (y 22) (y 23) (y 24))), (y 20, aI V 2000 f_11), (y 21, aI V 6 f_12), (y 22, aI V 64 f_13), (y 0, .inr (9, o9_rirrrrrrrrrviii (y 1) py0_1 (y 2) (y 10) (y 19) (y 25) (y 26) (y 30) (y 31) (y 32) (Yw 0) o11 py0_12 py0_13 py0_14)), (y 2, .inr (1, o1_iiiiiirrrrrrriiiii py2_0 py2_1 py2_2 py2_3 py2_4 py2_5 (y 3) (y 4) (y 5) (y 6) (y 7) (y 8) (y 9) py2_13 py2_14 py2_15 py2_16 py2_17)), (Yw 1, aI V n f_20), (Yw 4, aI V L f_23), (Yw 5, aI V n f_24), (Yw 7, aI V n f_26), (Yw 8, aI V 4 f_27), (Yw 0, .inr (8, o8_iirrriirrrrrrriii v_14 (nI n) (Yw 1) (Yw 2) wa_35 v_15 v_16 (y 19) (Yw 4) (Yw 5) (Yw 6) (Yw 7) (Yw 8) wb_36 v_17 v_18 v_19)), (Yw 2, aI V n f_21), (wa_35, aI V n f_37), (Yw 6, aI V (n * 4) f_25), (wb_36, aI V n f_38)] H := hP
          have hD := cpD hP hD
          have hP := subP (ws' := [(y 0, .inr (9, o9_rirrrrrrrrrviii (y 1) py0_1 (y 2) (y 10) (y 19) (y 25) (y 26) (y 30) (y 31) (y 32) (Yw 0) o11 py0_12 py0_13 py0_14)), (y 2, .inr (1, o1_iiiiiirrrrrrriiiii py2_0 py2_1 py2_2 py2_3 py2_4 py2_5 (y 3) (y 4) (y 5) (y 6) (y 7) (y 8) (y 9) py2_13 py2_14 py2_15 py2_16 py2_17)), (y 3, aI V 4 fy3), (y 9, aI V 900 fy9), (y 19, .inr (4, o4_rrrrrr (y 2) (y 20) (y 21) (y 22) (y 23) (y 24))), (y 20, aI V 2000 f_11), (y 21, aI V 6 f_12), (y 22, aI V 64 f_13), (Yw 0, .inr (8, o8_iirrriirrrrrrriii v_14 (nI n) (Yw 1) (Yw 2) wa_35 v_15 v_16 (y 19) (Yw 4) (Yw 5) (Yw 6) (Yw 7) (Yw 8) wb_36 v_17 v_18 v_19)), (Yw 1, aI V n f_20), (Yw 2, aI V n f_21), (wa_35, aI V n f_37), (Yw 4, aI V L f_23), (Yw 5, aI V n f_24), (Yw 6, aI V (n * 4) f_25), (Yw 7, aI V n f_26), (Yw 8, aI V 4 f_27), (wb_36, aI V n f_38)]) hP [6, 7, 0, 1, 2, 3, 4, 5, 13, 8, 14, 15, 9, 10, 16, 11, 12, 17] rfl
          have hD := subD hP hD [6, 7, 0, 1, 2, 3, 4, 5, 13, 8, 14, 15, 9, 10, 16, 11, 12, 17] rfl rfl
          exact fiI hx hb hr hlk hK (subP (ws' := [(y 0, .inr (9, o9_rirrrrrrrrrviii (y 1) py0_1 (y 2) (y 10) (y 19) (y 25) (y 26) (y 30) (y 31) (y 32) (Yw 0) o11 py0_12 py0_13 py0_14)), (y 2, .inr (1, o1_iiiiiirrrrrrriiiii py2_0 py2_1 py2_2 py2_3 py2_4 py2_5 (y 3) (y 4) (y 5) (y 6) (y 7) (y 8) (y 9) py2_13 py2_14 py2_15 py2_16 py2_17)), (y 3, aI V 4 fy3), (y 9, aI V 900 fy9), (y 19, .inr (4, o4_rrrrrr (y 2) (y 20) (y 21) (y 22) (y 23) (y 24))), (y 20, aI V 2000 f_11), (y 21, aI V 6 f_12), (y 22, aI V 64 f_13), (Yw 0, .inr (8, o8_iirrriirrrrrrriii v_14 (nI n) (Yw 1) (Yw 2) wa_35 v_15 v_16 (y 19) (Yw 4) (Yw 5) (Yw 6) (Yw 7) (Yw 8) wb_36 v_17 v_18 v_19)), (Yw 1, aI V n f_20), (Yw 2, aI V n f_21), (wa_35, aI V n f_37), (Yw 4, aI V L f_23), (Yw 5, aI V n f_24), (Yw 6, aI V (n * 4) f_25), (Yw 7, aI V n f_26), (Yw 8, aI V 4 f_27), (wb_36, aI V n f_38)]) hP [0, 1, 2, 3, 4, 5, 6, 7, 8, 9, 10, 11, 12, 13, 14, 15, 16, 17] rfl) (hD.sub [0, 1, 2, 3, 4, 5, 6, 7, 8, 9, 10, 11, 12, 13, 14, 15, 16, 17] rfl rfl) hS dX9_mean_97 (Nat.le_of_ble_eq_true rfl) (Nat.le_of_ble_eq_true rfl) (⟨n, L, Yw, wa_35, wb_36, f_11, f_12, f_13, v_14, v_15, v_16, v_17, v_18, v_19, f_20, f_21, f_37, f_23, f_24, f_25, f_26, f_27, f_38, hn, hL, tf_11, bv_14, bv_15, bv_16, bv_17, bv_18, bv_19, tf_20, tf_23, tf_24, tf_25, tf_26, g_29, g_30, g_31, g_33, knn_41, rfl⟩)
        · have b_44 : iv 0 ((n : Int) - 1) u_39 := iv_l1 (Int32.not_le.mp c_42) bu_39 bv_15 (by first | decide | omega)
          have b_45 : iv 1 ((n : Int)) v_15 := iv_l2 (Int32.not_le.mp c_42) bu_39 bv_15 (by first | decide | omega)
          refine lv_aload_n hx hb dX9_mean_51 rfl (lv_at hl 2 rfl) ?_
          refine va_get (ci := 8) (v := .ref wa_35) (C := RX8) (T := TX8) (N := 17) hx hb hg inX8 hown hK hP 13 rfl rfl 4 (by decide) (hg _ q_4_75) (fun _ h9 => h9) rfl dX9_mean_52 ?_
          refine lv_iload hx hb dX9_mean_55 (lv_at hl 0 rfl) ?_
          refine va_iald hx hb hK hP 15 0 rfl rfl (iv_in b_44 (by first | decide | omega)) dX9_mean_57 ?_
          refine lv_topi (fun x_46 ex_46 => ?_)
          refine lv_if_eq (tgt := 84) hx hb dX9_mean_58 (by decide) (fun c_47 => ?_) (fun c_47 => ?_)
          · have b_48 : iv 0 0 x_46 := iv_q c_47 (iv_c (0 : Int32) (a := 0) (b := 0) (by decide))
            obtain ⟨x_49, ex_49⟩ : ∃ z9 : Int32, z9 = u_39 + 1 := ⟨_, rfl⟩
            have bx_49 : iv 1 ((n : Int)) x_49 := by rw [ex_49]; exact iv_add b_44 (iv_c (1 : Int32) (a := 1) (b := 1) (by first | decide | omega)) (by first | decide | omega)
            refine lv_iinc (v := x_49) (lv' := [(5, .int x_49), (4, .int u_40), (3, .ref (Yw 0)), (0, .ref (y 0)), (1, .int a1), (2, .int a2)]) hx hb dX9_mean_84 hl (k := 0) rfl (by rw [ex_49]; rfl) (by decide) rfl (fun ls hl => ?_)
            refine lv_goto (tgt := 42) hx hb dX9_mean_87 (by decide) ?_
            exact ihn_41 _ _ _ _ (by rw [en_41, ex_49]; exact mu_up b_44 (by first | decide | omega)) ⟨x_49, u_40, (iv_w bx_49 (by first | decide | omega)), knn_41, rfl, hP, hD, hS, lv_sub hl [0, 1, 2, 3, 4, 5] rfl⟩
          · refine lv_iload hx hb dX9_mean_61 (lv_at hl 1 rfl) ?_
            refine lv_aload_n hx hb dX9_mean_63 rfl (lv_at hl 2 rfl) ?_
            refine va_get (ci := 8) (v := .ref wa_35) (C := RX8) (T := TX8) (N := 17) hx hb hg inX8 hown hK hP 13 rfl rfl 4 (by decide) (hg _ q_4_75) (fun _ h9 => h9) rfl dX9_mean_64 ?_
            refine lv_iload hx hb dX9_mean_67 (lv_at hl 0 rfl) ?_
            refine va_iald hx hb hK hP 15 0 rfl rfl (iv_in b_44 (by first | decide | omega)) dX9_mean_69 ?_
            refine lv_topi (fun x_50 ex_50 => ?_)
            refine lv_aload_n hx hb dX9_mean_70 rfl (lv_at hl 2 rfl) ?_
            refine va_get (ci := 8) (v := .ref (Yw 1)) (C := RX8) (T := TX8) (N := 17) hx hb hg inX8 hown hK hP 13 rfl rfl 2 (by decide) (hg _ q_4_71) (fun _ h9 => h9) rfl dX9_mean_71 ?_
            refine lv_iload hx hb dX9_mean_74 (lv_at hl 0 rfl) ?_
            refine va_iald hx hb hK hP 8 0 rfl rfl (iv_in b_44 (by first | decide | omega)) dX9_mean_76 ?_
            refine lv_topi (fun x_51 ex_51 => ?_)
            have bx_51 : iv 0 ((L : Int) - 1) x_51 := by rw [ex_51]; exact tf_20 _
            refine jnI (wr := [(y 3, aI V 4 fy3), (y 9, aI V 900 fy9), (y 19, .inr (4, o4_rrrrrr (y 2) (y 20) (y 21) (y 22) (y 23) (y 24))), (y 20, aI V 2000 f_11), (y 21, aI V 6 f_12), (y 22, aI V 64 f_13), (y 0, .inr (9, o9_rirrrrrrrrrviii (y 1) py0_1 (y 2) (y 10) (y 19) (y 25) (y 26) (y 30) (y 31) (y 32) (Yw 0) o11 py0_12 py0_13 py0_14)), (y 2, .inr (1, o1_iiiiiirrrrrrriiiii py2_0 py2_1 py2_2 py2_3 py2_4 py2_5 (y 3) (y 4) (y 5) (y 6) (y 7) (y 8) (y 9) py2_13 py2_14 py2_15 py2_16 py2_17)), (Yw 1, aI V n f_20), (Yw 4, aI V L f_23), (Yw 5, aI V n f_24), (Yw 7, aI V n f_26), (Yw 8, aI V 4 f_27), (Yw 0, .inr (8, o8_iirrriirrrrrrriii v_14 (nI n) (Yw 1) (Yw 2) wa_35 v_15 v_16 (y 19) (Yw 4) (Yw 5) (Yw 6) (Yw 7) (Yw 8) wb_36 v_17 v_18 v_19)), (Yw 2, aI V n f_21), (wa_35, aI V n f_37), (Yw 6, aI V (n * 4) f_25), (wb_36, aI V n f_38)]) (rnS (rest := [.int x_50, .int u_40]) ⟨hx, hb, hml, hown, hg⟩ (k_X9_stacksTogether_0 l V x_51 (iv_w bx_51 (by first | decide | omega))) mt_X9_stacksTogether q_3_239 ⟨Nat.le_of_ble_eq_true rfl, Nat.le_of_ble_eq_true rfl⟩ hK hP hD hS hA hE [] rfl rfl rfl hl.1 rfl (Nat.le_of_ble_eq_true rfl) dX9_mean_77 ⟨Nat.le_of_ble_eq_true rfl, Nat.le_of_ble_eq_true rfl⟩) hP hD hS hA [] [0, 1, 2, 3, 4, 5, 6, 7, 8, 9, 10, 11, 12, 13, 14, 15, 16, 17] rfl rfl rfl (by decide) (fun r_52 w H locs hw hP hD hS => ?_)
            obtain ⟨er_52, et_53, rfl⟩ := hw
            have hP : va_P V.1 vwCl [(y 3, aI V 4 fy3), (y 9, aI V 900 fy9), (y 19, .inr (4, o4_rrrrrr (y 2) (y 20) (y 21) (y 22) (y 23) (y 24))), (y 20, aI V 2000 f_11), (y 21, aI V 6 f_12), (y 22, aI V 64 f_13), (y 0, .inr (9, o9_rirrrrrrrrrviii (y 1) py0_1 (y 2) (y 10) (y 19) (y 25) (y 26) (y 30) (y 31) (y 32) (Yw 0) o11 py0_12 py0_13 py0_14)), (y 2, .inr (1, o1_iiiiiirrrrrrriiiii py2_0 py2_1 py2_2 py2_3 py2_4 py2_5 (y 3) (y 4) (y 5) (y 6) (y 7) (y 8) (y 9) py2_13 py2_14 py2_15 py2_16 py2_17)), (Yw 1, aI V n f_20), (Yw 4, aI V L f_23), (Yw 5, aI V n f_24), (Yw 7, aI V n f_26), (Yw 8, aI V 4 f_27), (Yw 0, .inr (8, o8_iirrriirrrrrrriii v_14 (nI n) (Yw 1) (Yw 2) wa_35 v_15 v_16 (y 19) (Yw 4) (Yw 5) (Yw 6) (Yw 7) (Yw 8) wb_36 v_17 v_18 v_19)), (Yw 2, aI V n f_21), (wa_35, aI V n f_37), (Yw 6, aI V (n * 4) f_25), (wb_36, aI V n f_38)] H := hP
            have hD := cpD hP hD
            refine lv_imul hx hb dX9_mean_80 ?_
            refine lv_topi (fun x_54 ex_54 => ?_)
            refine lv_iadd hx hb dX9_mean_81 ?_
            refine lv_topi (fun x_55 ex_55 => ?_)
            refine lv_istore (lv' := [(4, .int x_55), (5, .int u_39), (3, .ref (Yw 0)), (0, .ref (y 0)), (1, .int a1), (2, .int a2)]) hx hb dX9_mean_82 hl (by decide) rfl (fun ls hl => ?_)
            obtain ⟨x_56, ex_56⟩ : ∃ z9 : Int32, z9 = u_39 + 1 := ⟨_, rfl⟩
            have bx_56 : iv 1 ((n : Int)) x_56 := by rw [ex_56]; exact iv_add b_44 (iv_c (1 : Int32) (a := 1) (b := 1) (by first | decide | omega)) (by first | decide | omega)
            refine lv_iinc (v := x_56) (lv' := [(5, .int x_56), (4, .int x_55), (3, .ref (Yw 0)), (0, .ref (y 0)), (1, .int a1), (2, .int a2)]) hx hb dX9_mean_84 hl (k := 1) rfl (by rw [ex_56]; rfl) (by decide) rfl (fun ls hl => ?_)
            refine lv_goto (tgt := 42) hx hb dX9_mean_87 (by decide) ?_
            exact ihn_41 _ _ _ _ (by rw [en_41, ex_56]; exact mu_up b_44 (by first | decide | omega)) ⟨x_56, x_55, (iv_w bx_56 (by first | decide | omega)), knn_41, rfl, hP, hD, hS, lv_sub hl [0, 1, 2, 3, 4, 5] rfl⟩
      · have b_57 : iv 8 2147483647 a1 := iv_l2 (Int32.not_le.mp c_6) (iv_c (7 : Int32) (a := 7) (b := 7) (by decide)) b_5 (by first | decide | omega)
        refine lv_bipush (v := (-3)) hx hb dX9_mean_22 (by decide) ?_
        have z_0 := Int32.lt_iff_toInt_lt.mp hq0
        have z_1 := congrArg Int32.toInt c_1
        have z_2 := Int32.le_iff_toInt_le.mp (Int32.not_lt.mp c_3)
        have z_3 := Int32.lt_iff_toInt_lt.mp (Int32.not_le.mp c_6)
        have k_0 : (0 : Int32).toInt = 0 := (by decide)
        have k_7 : (7 : Int32).toInt = 7 := (by decide)
        exfalso
        have g_0 := hf3
        have g_1 := hf4
        have g_2 := hf5
        have g_3 := hf6
        omega
  · refine lv_iload_n hx hb dX9_mean_4 rfl (lv_at hl 2 rfl) ?_
    refine lv_iconst (v := 1) hx hb dX9_mean_5 (by decide) ?_
    refine lv_icmp_eq (tgt := 12) hx hb dX9_mean_6 (by decide) (fun c_58 => ?_) (fun c_58 => ?_)
    · have b_59 : iv 1 1 a2 := iv_q c_58 (iv_c (1 : Int32) (a := 1) (b := 1) (by decide))
      refine lv_iload_n hx hb dX9_mean_12 rfl (lv_at hl 1 rfl) ?_
      refine lv_if_lt (tgt := 22) hx hb dX9_mean_13 (by decide) (fun c_60 => ?_) (fun c_60 => ?_)
      · have b_61 : iv (-2147483648) (-1) a1 := iv_l1 c_60 (iv_top a1) (iv_c (0 : Int32) (a := 0) (b := 0) (by decide)) (by first | decide | omega)
        refine lv_bipush (v := (-3)) hx hb dX9_mean_22 (by decide) ?_
        have z_0 := Int32.lt_iff_toInt_lt.mp hq0
        have z_1 : ¬ ((a2 : Int32).toInt = (0 : Int32).toInt) := fun q9 => c_1 (Int32.toInt_inj.mp q9)
        have z_2 := congrArg Int32.toInt c_58
        have z_3 := Int32.lt_iff_toInt_lt.mp c_60
        have k_0 : (0 : Int32).toInt = 0 := (by decide)
        have k_1 : (1 : Int32).toInt = 1 := (by decide)
        exfalso
        have g_0 := hf3
        have g_1 := hf4
        have g_2 := hf5
        have g_3 := hf6
        omega
      · have b_62 : iv 0 2147483647 a1 := iv_e2 (Int32.not_lt.mp c_60) (iv_c (0 : Int32) (a := 0) (b := 0) (by decide)) (iv_top a1) (by first | decide | omega)
        refine lv_iload_n hx hb dX9_mean_16 rfl (lv_at hl 1 rfl) ?_
        refine lv_bipush (v := 7) hx hb dX9_mean_17 (by decide) ?_
        refine lv_icmp_le (tgt := 25) hx hb dX9_mean_19 (by decide) (fun c_63 => ?_) (fun c_63 => ?_)
        · have b_64 : iv 0 7 a1 := iv_e1 c_63 b_62 (iv_c (7 : Int32) (a := 7) (b := 7) (by decide)) (by first | decide | omega)
          refine lv_aload_n hx hb dX9_mean_25 rfl (lv_at hl 0 rfl) ?_
          refine lv_iload_n hx hb dX9_mean_26 rfl (lv_at hl 1 rfl) ?_
          refine jnR (wr := []) (rnV (rest := []) ⟨hx, hb, hml, hown, hg⟩ (k_X9_waysFromNow_2 l V n L Yw y D9 a1 fy3 fy9 fy20 fy21 fy22 pYw0_0 wa pYw0_5 pYw0_6 wb pYw0_14 pYw0_15 pYw0_16 fYw1 fYw2 fwa fYw4 fYw5 fYw6 fYw7 fYw8 fwb py0_1 o11 py0_12 py0_13 py0_14 py2_0 py2_1 py2_2 py2_3 py2_4 py2_5 py2_13 py2_14 py2_15 py2_16 py2_17 hn hL hq0 tfy20 bpYw0_0 bpYw0_5 bpYw0_6 bpYw0_14 bpYw0_15 bpYw0_16 tfYw1 tfYw4 tfYw5 tfYw6 tfYw7 bpy0_1 bpy0_12 bpy0_13 bpy2_1 bpy2_2 bpy2_3 bpy2_4 bpy2_5 bpy2_13 bpy2_14 bpy2_15 bpy2_16 bpy2_17 hf0 hf1 hf2 hL9 hK9) mt_X9_waysFromNow q_4_52 ⟨Nat.le_of_ble_eq_true rfl, Nat.le_of_ble_eq_true rfl⟩ hK hP hD hS hA hE [2, 3, 4, 5, 6, 7, 8, 9, 10, 11, 12, 13, 14, 15, 16, 17, 0, 1] rfl rfl 0 rfl rfl rfl rfl hl.1 rfl (Nat.le_of_ble_eq_true rfl) dX9_mean_27 ⟨Nat.le_of_ble_eq_true rfl, Nat.le_of_ble_eq_true rfl⟩) hP hD hS hA [2, 3, 4, 5, 6, 7, 8, 9, 10, 11, 12, 13, 14, 15, 16, 17, 0, 1] [] rfl rfl rfl (by decide) (fun r_65 w H locs hw hP hD hS => ?_)
          refine W.widen (k := 10) (n := 46481) (Nat.le_of_ble_eq_true rfl) (Nat.le_of_ble_eq_true rfl) ?_
          obtain ⟨n, L, Yw, wa_66, wb_67, f_68, f_69, f_70, v_71, v_72, v_73, v_74, v_75, v_76, f_77, f_78, f_79, f_80, f_81, f_82, f_83, f_84, f_85, hn, hL, tf_68, bv_71, bv_72, bv_73, bv_74, bv_75, bv_76, tf_77, tf_80, tf_81, tf_82, tf_83, eW, g_86, g_87, g_88, g_89, g_90, kn_91, rfl⟩ := hw
          have hP : va_P V.1 vwCl [(y 3, aI V 4 fy3), (y 9, aI V 900 fy9), (y 19, .inr (4, o4_rrrrrr (y 2) (y 20) (y 21) (y 22) (y 23) (y 24))), (y 20, aI V 2000 f_68), (y 21, aI V 6 f_69), (y 22, aI V 64 f_70), (y 0, .inr (9, o9_rirrrrrrrrrviii (y 1) py0_1 (y 2) (y 10) (y 19) (y 25) (y 26) (y 30) (y 31) (y 32) (Yw 0) o11 py0_12 py0_13 py0_14)), (y 2, .inr (1, o1_iiiiiirrrrrrriiiii py2_0 py2_1 py2_2 py2_3 py2_4 py2_5 (y 3) (y 4) (y 5) (y 6) (y 7) (y 8) (y 9) py2_13 py2_14 py2_15 py2_16 py2_17)), (Yw 0, .inr (8, o8_iirrriirrrrrrriii v_71 (nI n) (Yw 1) (Yw 2) wa_66 v_72 v_73 (y 19) (Yw 4) (Yw 5) (Yw 6) (Yw 7) (Yw 8) wb_67 v_74 v_75 v_76)), (Yw 1, aI V n f_77), (Yw 2, aI V n f_78), (wa_66, aI V n f_79), (Yw 4, aI V L f_80), (Yw 5, aI V n f_81), (Yw 6, aI V (n * 4) f_82), (Yw 7, aI V n f_83), (Yw 8, aI V 4 f_84), (wb_67, aI V n f_85)] H := hP
          have hD := cpD hP hD
          rw [← eW]
          refine lv_astore_n (lv' := [(3, .ref (Yw 0)), (0, .ref (y 0)), (1, .int a1), (2, .int a2)]) hx hb dX9_mean_30 rfl hl (by decide) rfl (fun ls hl => ?_)
          refine lv_aload_n hx hb dX9_mean_31 rfl (lv_at hl 0 rfl) ?_
          refine lv_iload_n hx hb dX9_mean_32 rfl (lv_at hl 2 rfl) ?_
          refine jnV (wr := [(y 3, aI V 4 fy3), (y 9, aI V 900 fy9), (y 19, .inr (4, o4_rrrrrr (y 2) (y 20) (y 21) (y 22) (y 23) (y 24))), (y 20, aI V 2000 f_68), (y 21, aI V 6 f_69), (y 22, aI V 64 f_70), (y 0, .inr (9, o9_rirrrrrrrrrviii (y 1) py0_1 (y 2) (y 10) (y 19) (y 25) (y 26) (y 30) (y 31) (y 32) (Yw 0) o11 py0_12 py0_13 py0_14)), (y 2, .inr (1, o1_iiiiiirrrrrrriiiii py2_0 py2_1 py2_2 py2_3 py2_4 py2_5 (y 3) (y 4) (y 5) (y 6) (y 7) (y 8) (y 9) py2_13 py2_14 py2_15 py2_16 py2_17)), (Yw 1, aI V n f_77), (Yw 4, aI V L f_80), (Yw 5, aI V n f_81), (Yw 7, aI V n f_83), (Yw 8, aI V 4 f_84)]) (rnV (rest := []) ⟨hx, hb, hml, hown, hg⟩ (k_X8_spreadByLots_0 l V n Yw y a1 v_71 wa_66 v_72 v_73 wb_67 v_74 v_75 v_76 f_78 f_79 f_82 f_85 hn bv_71 bv_72 bv_73 bv_74 bv_75 bv_76 tf_82) mt_X8_spreadByLots q_5_158 ⟨Nat.le_of_ble_eq_true rfl, Nat.le_of_ble_eq_true rfl⟩ hK hP hD hS hA hE [8, 10, 11, 14, 17] rfl rfl 8 rfl rfl rfl rfl hl.1 rfl (Nat.le_of_ble_eq_true rfl) dX9_mean_33 ⟨Nat.le_of_ble_eq_true rfl, Nat.le_of_ble_eq_true rfl⟩) hP hD hS hA [8, 10, 11, 14, 17] [0, 1, 2, 3, 4, 5, 6, 7, 9, 12, 13, 15, 16] rfl rfl rfl (by decide) (fun  w H locs hw hP hD hS => ?_)
          obtain ⟨wa_92, wb_93, f_94, f_95, rfl⟩ := hw
          have hP : va_P V.1 vwCl [(y 3, aI V 4 fy3), (y 9, aI V 900 fy9), (y 19, .inr (4, o4_rrrrrr (y 2) (y 20) (y 21) (y 22) (y 23) (y 24))), (y 20, aI V 2000 f_68), (y 21, aI V 6 f_69), (y 22, aI V 64 f_70), (y 0, .inr (9, o9_rirrrrrrrrrviii (y 1) py0_1 (y 2) (y 10) (y 19) (y 25) (y 26) (y 30) (y 31) (y 32) (Yw 0) o11 py0_12 py0_13 py0_14)), (y 2, .inr (1, o1_iiiiiirrrrrrriiiii py2_0 py2_1 py2_2 py2_3 py2_4 py2_5 (y 3) (y 4) (y 5) (y 6) (y 7) (y 8) (y 9) py2_13 py2_14 py2_15 py2_16 py2_17)), (Yw 1, aI V n f_77), (Yw 4, aI V L f_80), (Yw 5, aI V n f_81), (Yw 7, aI V n f_83), (Yw 8, aI V 4 f_84), (Yw 0, .inr (8, o8_iirrriirrrrrrriii v_71 (nI n) (Yw 1) (Yw 2) wa_92 v_72 v_73 (y 19) (Yw 4) (Yw 5) (Yw 6) (Yw 7) (Yw 8) wb_93 v_74 v_75 v_76)), (Yw 2, aI V n f_78), (wa_92, aI V n f_94), (Yw 6, aI V (n * 4) f_82), (wb_93, aI V n f_95)] H := hP
          have hD := cpD hP hD
          refine lv_iconst (v := 0) hx hb dX9_mean_36 (by decide) ?_
          refine lv_istore (lv' := [(4, .int 0), (3, .ref (Yw 0)), (0, .ref (y 0)), (1, .int a1), (2, .int a2)]) hx hb dX9_mean_37 hl (by decide) rfl (fun ls hl => ?_)
          refine lv_iconst (v := 0) hx hb dX9_mean_39 (by decide) ?_
          refine lv_istore (lv' := [(5, .int 0), (4, .int 0), (3, .ref (Yw 0)), (0, .ref (y 0)), (1, .int a1), (2, .int a2)]) hx hb dX9_mean_40 hl (by decide) rfl (fun ls hl => ?_)
          refine loopF (X := fun (n_98 : Nat) (H : Heap) (locs : List Loc) (ls : Array Slot) => ∃ (u_96 : Int32) (u_97 : Int32), (iv 0 2147483647 u_96) ∧ KN D9 f_68 ∧ n_98 = (2147483647 - (u_96 : Int32).toInt).toNat ∧ va_P V.1 vwCl [(y 3, aI V 4 fy3), (y 9, aI V 900 fy9), (y 19, .inr (4, o4_rrrrrr (y 2) (y 20) (y 21) (y 22) (y 23) (y 24))), (y 20, aI V 2000 f_68), (y 21, aI V 6 f_69), (y 22, aI V 64 f_70), (y 0, .inr (9, o9_rirrrrrrrrrviii (y 1) py0_1 (y 2) (y 10) (y 19) (y 25) (y 26) (y 30) (y 31) (y 32) (Yw 0) o11 py0_12 py0_13 py0_14)), (y 2, .inr (1, o1_iiiiiirrrrrrriiiii py2_0 py2_1 py2_2 py2_3 py2_4 py2_5 (y 3) (y 4) (y 5) (y 6) (y 7) (y 8) (y 9) py2_13 py2_14 py2_15 py2_16 py2_17)), (Yw 1, aI V n f_77), (Yw 4, aI V L f_80), (Yw 5, aI V n f_81), (Yw 7, aI V n f_83), (Yw 8, aI V 4 f_84), (Yw 0, .inr (8, o8_iirrriirrrrrrriii v_71 (nI n) (Yw 1) (Yw 2) wa_92 v_72 v_73 (y 19) (Yw 4) (Yw 5) (Yw 6) (Yw 7) (Yw 8) wb_93 v_74 v_75 v_76)), (Yw 2, aI V n f_78), (wa_92, aI V n f_94), (Yw 6, aI V (n * 4) f_82), (wb_93, aI V n f_95)] H ∧ va_D A [(y 3, aI V 4 fy3), (y 9, aI V 900 fy9), (y 19, .inr (4, o4_rrrrrr (y 2) (y 20) (y 21) (y 22) (y 23) (y 24))), (y 20, aI V 2000 f_68), (y 21, aI V 6 f_69), (y 22, aI V 64 f_70), (y 0, .inr (9, o9_rirrrrrrrrrviii (y 1) py0_1 (y 2) (y 10) (y 19) (y 25) (y 26) (y 30) (y 31) (y 32) (Yw 0) o11 py0_12 py0_13 py0_14)), (y 2, .inr (1, o1_iiiiiirrrrrrriiiii py2_0 py2_1 py2_2 py2_3 py2_4 py2_5 (y 3) (y 4) (y 5) (y 6) (y 7) (y 8) (y 9) py2_13 py2_14 py2_15 py2_16 py2_17)), (Yw 1, aI V n f_77), (Yw 4, aI V L f_80), (Yw 5, aI V n f_81), (Yw 7, aI V n f_83), (Yw 8, aI V 4 f_84), (Yw 0, .inr (8, o8_iirrriirrrrrrriii v_71 (nI n) (Yw 1) (Yw 2) wa_92 v_72 v_73 (y 19) (Yw 4) (Yw 5) (Yw 6) (Yw 7) (Yw 8) wb_93 v_74 v_75 v_76)), (Yw 2, aI V n f_78), (wa_92, aI V n f_94), (Yw 6, aI V (n * 4) f_82), (wb_93, aI V n f_95)] ∧ va_S A s.heap H locs ∧ lv_has ls 6 [(5, .int u_96), (4, .int u_97), (3, .ref (Yw 0)), (0, .ref (y 0)), (1, .int a1), (2, .int a2)]) (g := fun ls => F0 m 42 ls []) (fun n_98 H locs ls hX ihn_98 => ?_) _ ⟨0, 0, (iv_c (0 : Int32) (by decide)), kn_91, rfl, hP, hD, hS, lv_sub hl [0, 1, 2, 3, 4, 5] rfl⟩
          obtain ⟨u_96, u_97, bu_96, knn_98, en_98, hP, hD, hS, hl⟩ := hX
          refine lv_iload hx hb dX9_mean_42 (lv_at hl 0 rfl) ?_
          refine lv_aload_n hx hb dX9_mean_44 rfl (lv_at hl 2 rfl) ?_
          refine va_get (ci := 8) (v := .int v_72) (C := RX8) (T := TX8) (N := 17) hx hb hg inX8 hown hK hP 13 rfl rfl 5 (by decide) (hg _ q_4_78) (fun _ h9 => h9) rfl dX9_mean_45 ?_
          refine lv_icmp_ge (tgt := 90) hx hb dX9_mean_48 (by decide) (fun c_99 => ?_) (fun c_99 => ?_)
          · refine lv_iload hx hb dX9_mean_90 (lv_at hl 1 rfl) ?_
            refine lv_iload_n hx hb dX9_mean_92 rfl (lv_at hl 4 rfl) ?_
            refine lv_iload_n hx hb dX9_mean_93 rfl (lv_at hl 5 rfl) ?_
            refine jnI (wr := [(y 3, aI V 4 fy3), (y 9, aI V 900 fy9), (y 19, .inr (4, o4_rrrrrr (y 2) (y 20) (y 21) (y 22) (y 23) (y 24))), (y 20, aI V 2000 f_68), (y 21, aI V 6 f_69), (y 22, aI V 64 f_70), (y 0, .inr (9, o9_rirrrrrrrrrviii (y 1) py0_1 (y 2) (y 10) (y 19) (y 25) (y 26) (y 30) (y 31) (y 32) (Yw 0) o11 py0_12 py0_13 py0_14)), (y 2, .inr (1, o1_iiiiiirrrrrrriiiii py2_0 py2_1 py2_2 py2_3 py2_4 py2_5 (y 3) (y 4) (y 5) (y 6) (y 7) (y 8) (y 9) py2_13 py2_14 py2_15 py2_16 py2_17)), (Yw 1, aI V n f_77), (Yw 4, aI V L f_80), (Yw 5, aI V n f_81), (Yw 7, aI V n f_83), (Yw 8, aI V 4 f_84), (Yw 0, .inr (8, o8_iirrriirrrrrrriii v_71 (nI n) (Yw 1) (Yw 2) wa_92 v_72 v_73 (y 19) (Yw 4) (Yw 5) (Yw 6) (Yw 7) (Yw 8) wb_93 v_74 v_75 v_76)), (Yw 2, aI V n f_78), (wa_92, aI V n f_94), (Yw 6, aI V (n * 4) f_82), (wb_93, aI V n f_95)]) (rnS (rest := []) ⟨hx, hb, hml, hown, hg⟩ (k_X9_inLowestTerms_0 l V u_97 a1 a2) mt_X9_inLowestTerms q_5_163 ⟨Nat.le_of_ble_eq_true rfl, Nat.le_of_ble_eq_true rfl⟩ hK hP hD hS hA hE [] rfl rfl rfl hl.1 rfl (Nat.le_of_ble_eq_true rfl) dX9_mean_94 ⟨Nat.le_of_ble_eq_true rfl, Nat.le_of_ble_eq_true rfl⟩) hP hD hS hA [] [0, 1, 2, 3, 4, 5, 6, 7, 8, 9, 10, 11, 12, 13, 14, 15, 16, 17] rfl rfl rfl (by decide) (fun r_100 w H locs hw hP hD hS => ?_)
            subst hw
            have hP : va_P V.1 vwCl [(y 3, aI V 4 fy3), (y 9, aI V 900 fy9), (y 19, .inr (4, o4_rrrrrr (y 2) (y 20) (y 21) (y 22) (y 23) (y 24))), (y 20, aI V 2000 f_68), (y 21, aI V 6 f_69), (y 22, aI V 64 f_70), (y 0, .inr (9, o9_rirrrrrrrrrviii (y 1) py0_1 (y 2) (y 10) (y 19) (y 25) (y 26) (y 30) (y 31) (y 32) (Yw 0) o11 py0_12 py0_13 py0_14)), (y 2, .inr (1, o1_iiiiiirrrrrrriiiii py2_0 py2_1 py2_2 py2_3 py2_4 py2_5 (y 3) (y 4) (y 5) (y 6) (y 7) (y 8) (y 9) py2_13 py2_14 py2_15 py2_16 py2_17)), (Yw 1, aI V n f_77), (Yw 4, aI V L f_80), (Yw 5, aI V n f_81), (Yw 7, aI V n f_83), (Yw 8, aI V 4 f_84), (Yw 0, .inr (8, o8_iirrriirrrrrrriii v_71 (nI n) (Yw 1) (Yw 2) wa_92 v_72 v_73 (y 19) (Yw 4) (Yw 5) (Yw 6) (Yw 7) (Yw 8) wb_93 v_74 v_75 v_76)), (Yw 2, aI V n f_78), (wa_92, aI V n f_94), (Yw 6, aI V (n * 4) f_82), (wb_93, aI V n f_95)] H := hP
            have hD := cpD hP hD
            have hP := subP (ws' := [(y 0, .inr (9, o9_rirrrrrrrrrviii (y 1) py0_1 (y 2) (y 10) (y 19) (y 25) (y 26) (y 30) (y 31) (y 32) (Yw 0) o11 py0_12 py0_13 py0_14)), (y 2, .inr (1, o1_iiiiiirrrrrrriiiii py2_0 py2_1 py2_2 py2_3 py2_4 py2_5 (y 3) (y 4) (y 5) (y 6) (y 7) (y 8) (y 9) py2_13 py2_14 py2_15 py2_16 py2_17)), (y 3, aI V 4 fy3), (y 9, aI V 900 fy9), (y 19, .inr (4, o4_rrrrrr (y 2) (y 20) (y 21) (y 22) (y 23) (y 24))), (y 20, aI V 2000 f_68), (y 21, aI V 6 f_69), (y 22, aI V 64 f_70), (Yw 0, .inr (8, o8_iirrriirrrrrrriii v_71 (nI n) (Yw 1) (Yw 2) wa_92 v_72 v_73 (y 19) (Yw 4) (Yw 5) (Yw 6) (Yw 7) (Yw 8) wb_93 v_74 v_75 v_76)), (Yw 1, aI V n f_77), (Yw 2, aI V n f_78), (wa_92, aI V n f_94), (Yw 4, aI V L f_80), (Yw 5, aI V n f_81), (Yw 6, aI V (n * 4) f_82), (Yw 7, aI V n f_83), (Yw 8, aI V 4 f_84), (wb_93, aI V n f_95)]) hP [6, 7, 0, 1, 2, 3, 4, 5, 13, 8, 14, 15, 9, 10, 16, 11, 12, 17] rfl
            have hD := subD hP hD [6, 7, 0, 1, 2, 3, 4, 5, 13, 8, 14, 15, 9, 10, 16, 11, 12, 17] rfl rfl
            exact fiI hx hb hr hlk hK (subP (ws' := [(y 0, .inr (9, o9_rirrrrrrrrrviii (y 1) py0_1 (y 2) (y 10) (y 19) (y 25) (y 26) (y 30) (y 31) (y 32) (Yw 0) o11 py0_12 py0_13 py0_14)), (y 2, .inr (1, o1_iiiiiirrrrrrriiiii py2_0 py2_1 py2_2 py2_3 py2_4 py2_5 (y 3) (y 4) (y 5) (y 6) (y 7) (y 8) (y 9) py2_13 py2_14 py2_15 py2_16 py2_17)), (y 3, aI V 4 fy3), (y 9, aI V 900 fy9), (y 19, .inr (4, o4_rrrrrr (y 2) (y 20) (y 21) (y 22) (y 23) (y 24))), (y 20, aI V 2000 f_68), (y 21, aI V 6 f_69), (y 22, aI V 64 f_70), (Yw 0, .inr (8, o8_iirrriirrrrrrriii v_71 (nI n) (Yw 1) (Yw 2) wa_92 v_72 v_73 (y 19) (Yw 4) (Yw 5) (Yw 6) (Yw 7) (Yw 8) wb_93 v_74 v_75 v_76)), (Yw 1, aI V n f_77), (Yw 2, aI V n f_78), (wa_92, aI V n f_94), (Yw 4, aI V L f_80), (Yw 5, aI V n f_81), (Yw 6, aI V (n * 4) f_82), (Yw 7, aI V n f_83), (Yw 8, aI V 4 f_84), (wb_93, aI V n f_95)]) hP [0, 1, 2, 3, 4, 5, 6, 7, 8, 9, 10, 11, 12, 13, 14, 15, 16, 17] rfl) (hD.sub [0, 1, 2, 3, 4, 5, 6, 7, 8, 9, 10, 11, 12, 13, 14, 15, 16, 17] rfl rfl) hS dX9_mean_97 (Nat.le_of_ble_eq_true rfl) (Nat.le_of_ble_eq_true rfl) (⟨n, L, Yw, wa_92, wb_93, f_68, f_69, f_70, v_71, v_72, v_73, v_74, v_75, v_76, f_77, f_78, f_94, f_80, f_81, f_82, f_83, f_84, f_95, hn, hL, tf_68, bv_71, bv_72, bv_73, bv_74, bv_75, bv_76, tf_77, tf_80, tf_81, tf_82, tf_83, g_86, g_87, g_88, g_90, knn_98, rfl⟩)
          · have b_101 : iv 0 ((n : Int) - 1) u_96 := iv_l1 (Int32.not_le.mp c_99) bu_96 bv_72 (by first | decide | omega)
            have b_102 : iv 1 ((n : Int)) v_72 := iv_l2 (Int32.not_le.mp c_99) bu_96 bv_72 (by first | decide | omega)
            refine lv_aload_n hx hb dX9_mean_51 rfl (lv_at hl 2 rfl) ?_
            refine va_get (ci := 8) (v := .ref wa_92) (C := RX8) (T := TX8) (N := 17) hx hb hg inX8 hown hK hP 13 rfl rfl 4 (by decide) (hg _ q_4_75) (fun _ h9 => h9) rfl dX9_mean_52 ?_
            refine lv_iload hx hb dX9_mean_55 (lv_at hl 0 rfl) ?_
            refine va_iald hx hb hK hP 15 0 rfl rfl (iv_in b_101 (by first | decide | omega)) dX9_mean_57 ?_
            refine lv_topi (fun x_103 ex_103 => ?_)
            refine lv_if_eq (tgt := 84) hx hb dX9_mean_58 (by decide) (fun c_104 => ?_) (fun c_104 => ?_)
            · have b_105 : iv 0 0 x_103 := iv_q c_104 (iv_c (0 : Int32) (a := 0) (b := 0) (by decide))
              obtain ⟨x_106, ex_106⟩ : ∃ z9 : Int32, z9 = u_96 + 1 := ⟨_, rfl⟩
              have bx_106 : iv 1 ((n : Int)) x_106 := by rw [ex_106]; exact iv_add b_101 (iv_c (1 : Int32) (a := 1) (b := 1) (by first | decide | omega)) (by first | decide | omega)
              refine lv_iinc (v := x_106) (lv' := [(5, .int x_106), (4, .int u_97), (3, .ref (Yw 0)), (0, .ref (y 0)), (1, .int a1), (2, .int a2)]) hx hb dX9_mean_84 hl (k := 0) rfl (by rw [ex_106]; rfl) (by decide) rfl (fun ls hl => ?_)
              refine lv_goto (tgt := 42) hx hb dX9_mean_87 (by decide) ?_
              exact ihn_98 _ _ _ _ (by rw [en_98, ex_106]; exact mu_up b_101 (by first | decide | omega)) ⟨x_106, u_97, (iv_w bx_106 (by first | decide | omega)), knn_98, rfl, hP, hD, hS, lv_sub hl [0, 1, 2, 3, 4, 5] rfl⟩
            · refine lv_iload hx hb dX9_mean_61 (lv_at hl 1 rfl) ?_
              refine lv_aload_n hx hb dX9_mean_63 rfl (lv_at hl 2 rfl) ?_
              refine va_get (ci := 8) (v := .ref wa_92) (C := RX8) (T := TX8) (N := 17) hx hb hg inX8 hown hK hP 13 rfl rfl 4 (by decide) (hg _ q_4_75) (fun _ h9 => h9) rfl dX9_mean_64 ?_
              refine lv_iload hx hb dX9_mean_67 (lv_at hl 0 rfl) ?_
              refine va_iald hx hb hK hP 15 0 rfl rfl (iv_in b_101 (by first | decide | omega)) dX9_mean_69 ?_
              refine lv_topi (fun x_107 ex_107 => ?_)
              refine lv_aload_n hx hb dX9_mean_70 rfl (lv_at hl 2 rfl) ?_
              refine va_get (ci := 8) (v := .ref (Yw 1)) (C := RX8) (T := TX8) (N := 17) hx hb hg inX8 hown hK hP 13 rfl rfl 2 (by decide) (hg _ q_4_71) (fun _ h9 => h9) rfl dX9_mean_71 ?_
              refine lv_iload hx hb dX9_mean_74 (lv_at hl 0 rfl) ?_
              refine va_iald hx hb hK hP 8 0 rfl rfl (iv_in b_101 (by first | decide | omega)) dX9_mean_76 ?_
              refine lv_topi (fun x_108 ex_108 => ?_)
              have bx_108 : iv 0 ((L : Int) - 1) x_108 := by rw [ex_108]; exact tf_77 _
              refine jnI (wr := [(y 3, aI V 4 fy3), (y 9, aI V 900 fy9), (y 19, .inr (4, o4_rrrrrr (y 2) (y 20) (y 21) (y 22) (y 23) (y 24))), (y 20, aI V 2000 f_68), (y 21, aI V 6 f_69), (y 22, aI V 64 f_70), (y 0, .inr (9, o9_rirrrrrrrrrviii (y 1) py0_1 (y 2) (y 10) (y 19) (y 25) (y 26) (y 30) (y 31) (y 32) (Yw 0) o11 py0_12 py0_13 py0_14)), (y 2, .inr (1, o1_iiiiiirrrrrrriiiii py2_0 py2_1 py2_2 py2_3 py2_4 py2_5 (y 3) (y 4) (y 5) (y 6) (y 7) (y 8) (y 9) py2_13 py2_14 py2_15 py2_16 py2_17)), (Yw 1, aI V n f_77), (Yw 4, aI V L f_80), (Yw 5, aI V n f_81), (Yw 7, aI V n f_83), (Yw 8, aI V 4 f_84), (Yw 0, .inr (8, o8_iirrriirrrrrrriii v_71 (nI n) (Yw 1) (Yw 2) wa_92 v_72 v_73 (y 19) (Yw 4) (Yw 5) (Yw 6) (Yw 7) (Yw 8) wb_93 v_74 v_75 v_76)), (Yw 2, aI V n f_78), (wa_92, aI V n f_94), (Yw 6, aI V (n * 4) f_82), (wb_93, aI V n f_95)]) (rnS (rest := [.int x_107, .int u_97]) ⟨hx, hb, hml, hown, hg⟩ (k_X9_stacksTogether_0 l V x_108 (iv_w bx_108 (by first | decide | omega))) mt_X9_stacksTogether q_3_239 ⟨Nat.le_of_ble_eq_true rfl, Nat.le_of_ble_eq_true rfl⟩ hK hP hD hS hA hE [] rfl rfl rfl hl.1 rfl (Nat.le_of_ble_eq_true rfl) dX9_mean_77 ⟨Nat.le_of_ble_eq_true rfl, Nat.le_of_ble_eq_true rfl⟩) hP hD hS hA [] [0, 1, 2, 3, 4, 5, 6, 7, 8, 9, 10, 11, 12, 13, 14, 15, 16, 17] rfl rfl rfl (by decide) (fun r_109 w H locs hw hP hD hS => ?_)
              obtain ⟨er_109, et_110, rfl⟩ := hw
              have hP : va_P V.1 vwCl [(y 3, aI V 4 fy3), (y 9, aI V 900 fy9), (y 19, .inr (4, o4_rrrrrr (y 2) (y 20) (y 21) (y 22) (y 23) (y 24))), (y 20, aI V 2000 f_68), (y 21, aI V 6 f_69), (y 22, aI V 64 f_70), (y 0, .inr (9, o9_rirrrrrrrrrviii (y 1) py0_1 (y 2) (y 10) (y 19) (y 25) (y 26) (y 30) (y 31) (y 32) (Yw 0) o11 py0_12 py0_13 py0_14)), (y 2, .inr (1, o1_iiiiiirrrrrrriiiii py2_0 py2_1 py2_2 py2_3 py2_4 py2_5 (y 3) (y 4) (y 5) (y 6) (y 7) (y 8) (y 9) py2_13 py2_14 py2_15 py2_16 py2_17)), (Yw 1, aI V n f_77), (Yw 4, aI V L f_80), (Yw 5, aI V n f_81), (Yw 7, aI V n f_83), (Yw 8, aI V 4 f_84), (Yw 0, .inr (8, o8_iirrriirrrrrrriii v_71 (nI n) (Yw 1) (Yw 2) wa_92 v_72 v_73 (y 19) (Yw 4) (Yw 5) (Yw 6) (Yw 7) (Yw 8) wb_93 v_74 v_75 v_76)), (Yw 2, aI V n f_78), (wa_92, aI V n f_94), (Yw 6, aI V (n * 4) f_82), (wb_93, aI V n f_95)] H := hP
              have hD := cpD hP hD
              refine lv_imul hx hb dX9_mean_80 ?_
              refine lv_topi (fun x_111 ex_111 => ?_)
              refine lv_iadd hx hb dX9_mean_81 ?_
              refine lv_topi (fun x_112 ex_112 => ?_)
              refine lv_istore (lv' := [(4, .int x_112), (5, .int u_96), (3, .ref (Yw 0)), (0, .ref (y 0)), (1, .int a1), (2, .int a2)]) hx hb dX9_mean_82 hl (by decide) rfl (fun ls hl => ?_)
              obtain ⟨x_113, ex_113⟩ : ∃ z9 : Int32, z9 = u_96 + 1 := ⟨_, rfl⟩
              have bx_113 : iv 1 ((n : Int)) x_113 := by rw [ex_113]; exact iv_add b_101 (iv_c (1 : Int32) (a := 1) (b := 1) (by first | decide | omega)) (by first | decide | omega)
              refine lv_iinc (v := x_113) (lv' := [(5, .int x_113), (4, .int x_112), (3, .ref (Yw 0)), (0, .ref (y 0)), (1, .int a1), (2, .int a2)]) hx hb dX9_mean_84 hl (k := 1) rfl (by rw [ex_113]; rfl) (by decide) rfl (fun ls hl => ?_)
              refine lv_goto (tgt := 42) hx hb dX9_mean_87 (by decide) ?_
              exact ihn_98 _ _ _ _ (by rw [en_98, ex_113]; exact mu_up b_101 (by first | decide | omega)) ⟨x_113, x_112, (iv_w bx_113 (by first | decide | omega)), knn_98, rfl, hP, hD, hS, lv_sub hl [0, 1, 2, 3, 4, 5] rfl⟩
        · have b_114 : iv 8 2147483647 a1 := iv_l2 (Int32.not_le.mp c_63) (iv_c (7 : Int32) (a := 7) (b := 7) (by decide)) b_62 (by first | decide | omega)
          refine lv_bipush (v := (-3)) hx hb dX9_mean_22 (by decide) ?_
          have z_0 := Int32.lt_iff_toInt_lt.mp hq0
          have z_1 : ¬ ((a2 : Int32).toInt = (0 : Int32).toInt) := fun q9 => c_1 (Int32.toInt_inj.mp q9)
          have z_2 := congrArg Int32.toInt c_58
          have z_3 := Int32.le_iff_toInt_le.mp (Int32.not_lt.mp c_60)
          have z_4 := Int32.lt_iff_toInt_lt.mp (Int32.not_le.mp c_63)
          have k_0 : (0 : Int32).toInt = 0 := (by decide)
          have k_1 : (1 : Int32).toInt = 1 := (by decide)
          have k_7 : (7 : Int32).toInt = 7 := (by decide)
          exfalso
          have g_0 := hf3
          have g_1 := hf4
          have g_2 := hf5
          have g_3 := hf6
          omega
    · refine lv_bipush (v := (-2)) hx hb dX9_mean_9 (by decide) ?_
      have z_0 := Int32.lt_iff_toInt_lt.mp hq0
      have z_1 : ¬ ((a2 : Int32).toInt = (0 : Int32).toInt) := fun q9 => c_1 (Int32.toInt_inj.mp q9)
      have z_2 : ¬ ((a2 : Int32).toInt = (1 : Int32).toInt) := fun q9 => c_58 (Int32.toInt_inj.mp q9)
      have k_0 : (0 : Int32).toInt = 0 := (by decide)
      have k_1 : (1 : Int32).toInt = 1 := (by decide)
      exfalso
      have g_0 := hf3
      have g_1 := hf4
      have g_2 := hf5
      have g_3 := hf6
      omega
