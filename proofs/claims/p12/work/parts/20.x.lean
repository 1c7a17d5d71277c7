set_option maxHeartbeats 4000000 in
set_option maxRecDepth 100000 in
theorem k_X9_soonest_1 (l : Launch) (V : GV) (y : Nat → Nat) (a1 : Int32) (a2 : Int32) (py0_1 : Int32) (o10 : Value) (o11 : Value) (py0_12 : Int32) (py0_13 : Int32) (py0_14 : Int32) (py2_0 : Int32) (py2_1 : Int32) (py2_2 : Int32) (py2_3 : Int32) (py2_4 : Int32) (py2_5 : Int32) (py2_13 : Int32) (py2_14 : Int32) (py2_15 : Int32) (py2_16 : Int32) (py2_17 : Int32) (bpy0_1 : iv 0 900 py0_1) (bpy0_12 : iv 0 9999 py0_12) (bpy0_13 : iv 0 9 py0_13) (bpy2_1 : iv 0 4 py2_1) (bpy2_2 : iv 0 4 py2_2) (bpy2_3 : iv 0 8 py2_3) (bpy2_4 : iv 0 9999 py2_4) (bpy2_5 : iv 0 9 py2_5) (bpy2_13 : iv 0 900 py2_13) (bpy2_14 : iv 0 900 py2_14) (bpy2_15 : iv 0 900 py2_15) (bpy2_16 : iv 0 900 py2_16) (bpy2_17 : iv 0 900 py2_17) (hf0 : ¬ (0 ≤ (a1 : Int32).toInt ∧ (a1 : Int32).toInt < (py2_1 : Int32).toInt ∧ 0 ≤ (a2 : Int32).toInt ∧ (a2 : Int32).toInt ≤ 4)) : Ct l V yX9_soonest (.code yX9_soonest cX9_soonest 5 (some .int)) 2 [.ref (y 0), .int a1, .int a2] [(y 0, .inr (9, o9_rirrrrrrrrvviii (y 1) py0_1 (y 2) (y 10) (y 19) (y 25) (y 26) (y 30) (y 31) (y 32) o10 o11 py0_12 py0_13 py0_14)), (y 2, .inr (1, o1_iiiiiirrrrrrriiiii py2_0 py2_1 py2_2 py2_3 py2_4 py2_5 (y 3) (y 4) (y 5) (y 6) (y 7) (y 8) (y 9) py2_13 py2_14 py2_15 py2_16 py2_17))] 0 0 (QI V (fun (r : Int32) (w : va_W) => iv (-3) (-2) r ∧ w = [(y 0, .inr (9, o9_rirrrrrrrrvviii (y 1) py0_1 (y 2) (y 10) (y 19) (y 25) (y 26) (y 30) (y 31) (y 32) o10 o11 py0_12 py0_13 py0_14)), (y 2, .inr (1, o1_iiiiiirrrrrrriiiii py2_0 py2_1 py2_2 py2_3 py2_4 py2_5 (y 3) (y 4) (y 5) (y 6) (y 7) (y 8) (y 9) py2_13 py2_14 py2_15 py2_16 py2_17))])) := by
  refine Ct.of (by decide) (Nat.le_of_ble_eq_true rfl) (fun p e s m below meth c A ls hx hb hr hml hown hlk hnm hg hP hK hD hE hA hS hl => ?_)
  have hl : lv_has ls 5 [(0, .ref (y 0)), (1, .int a1), (2, .int a2)] := hl
  refine lv_aload_n hx hb dX9_soonest_0 rfl (lv_at hl 0 rfl) ?_
  refine lv_iload_n hx hb dX9_soonest_1 rfl (lv_at hl 1 rfl) ?_
  refine jnI (wr := []) (rnV (rest := []) ⟨hx, hb, hml, hown, hg⟩ (k_X9_isHill_0 l V y a1 py0_1 o10 o11 py0_12 py0_13 py0_14 py2_0 py2_1 py2_2 py2_3 py2_4 py2_5 py2_13 py2_14 py2_15 py2_16 py2_17 bpy0_1 bpy0_12 bpy0_13 bpy2_1 bpy2_2 bpy2_3 bpy2_4 bpy2_5 bpy2_13 bpy2_14 bpy2_15 bpy2_16 bpy2_17) mt_X9_isHill q_3_122 ⟨Nat.le_of_ble_eq_true rfl, Nat.le_of_ble_eq_true rfl⟩ hK hP hD hS hA hE [0, 1] rfl rfl 0 rfl rfl rfl rfl hl.1 rfl (Nat.le_of_ble_eq_true rfl) dX9_soonest_2 ⟨Nat.le_of_ble_eq_true rfl, Nat.le_of_ble_eq_true rfl⟩) hP hD hS hA [0, 1] [] rfl rfl rfl (by decide) (fun r_1 w H locs hw hP hD hS => ?_)
  rcases hw with ⟨c_2, rfl, et_3, rfl⟩ | ⟨c_4, c_5, rfl, et_6, rfl⟩ | ⟨c_7, c_8, rfl, et_9, rfl⟩
  · have hP : va_P V.1 vwCl [(y 0, .inr (9, o9_rirrrrrrrrvviii (y 1) py0_1 (y 2) (y 10) (y 19) (y 25) (y 26) (y 30) (y 31) (y 32) o10 o11 py0_12 py0_13 py0_14)), (y 2, .inr (1, o1_iiiiiirrrrrrriiiii py2_0 py2_1 py2_2 py2_3 py2_4 py2_5 (y 3) (y 4) (y 5) (y 6) (y 7) (y 8) (y 9) py2_13 py2_14 py2_15 py2_16 py2_17))] H := hP
    have hD := cpD hP hD
    have b_10 : iv (-2147483648) (-1) a1 := iv_l1 c_2 (iv_top a1) (iv_c (0 : Int32) (a := 0) (b := 0) (by decide)) (by decide)
    refine lv_if_ne (tgt := 11) hx hb dX9_soonest_5 (by decide) (fun c_12 => absurd c_12 (by decide)) (fun _ => ?_)
    refine lv_bipush (v := (-2)) hx hb dX9_soonest_8 (by decide) ?_
    exact fiI hx hb hr hlk hK hP hD hS dX9_soonest_10 (Nat.le_of_ble_eq_true rfl) (Nat.le_of_ble_eq_true rfl) (⟨(iv_c ((-2) : Int32) (by decide)), rfl⟩)
  · have hP : va_P V.1 vwCl [(y 0, .inr (9, o9_rirrrrrrrrvviii (y 1) py0_1 (y 2) (y 10) (y 19) (y 25) (y 26) (y 30) (y 31) (y 32) o10 o11 py0_12 py0_13 py0_14)), (y 2, .inr (1, o1_iiiiiirrrrrrriiiii py2_0 py2_1 py2_2 py2_3 py2_4 py2_5 (y 3) (y 4) (y 5) (y 6) (y 7) (y 8) (y 9) py2_13 py2_14 py2_15 py2_16 py2_17))] H := hP
    have hD := cpD hP hD
    have b_13 : iv 0 2147483647 a1 := iv_e2 (Int32.not_lt.mp c_4) (iv_c (0 : Int32) (a := 0) (b := 0) (by decide)) (iv_top a1) (by decide)
    refine lv_if_ne (tgt := 11) hx hb dX9_soonest_5 (by decide) (fun c_15 => absurd c_15 (by decide)) (fun _ => ?_)
    refine lv_bipush (v := (-2)) hx hb dX9_soonest_8 (by decide) ?_
    exact fiI hx hb hr hlk hK hP hD hS dX9_soonest_10 (Nat.le_of_ble_eq_true rfl) (Nat.le_of_ble_eq_true rfl) (⟨(iv_c ((-2) : Int32) (by decide)), rfl⟩)
  · have hP : va_P V.1 vwCl [(y 0, .inr (9, o9_rirrrrrrrrvviii (y 1) py0_1 (y 2) (y 10) (y 19) (y 25) (y 26) (y 30) (y 31) (y 32) o10 o11 py0_12 py0_13 py0_14)), (y 2, .inr (1, o1_iiiiiirrrrrrriiiii py2_0 py2_1 py2_2 py2_3 py2_4 py2_5 (y 3) (y 4) (y 5) (y 6) (y 7) (y 8) (y 9) py2_13 py2_14 py2_15 py2_16 py2_17))] H := hP
    have hD := cpD hP hD
    have b_16 : iv 0 2147483647 a1 := iv_e2 (Int32.not_lt.mp c_7) (iv_c (0 : Int32) (a := 0) (b := 0) (by decide)) (iv_top a1) (by decide)
    have b_17 : iv 0 3 a1 := iv_l1 (Int32.not_le.mp c_8) b_16 bpy2_1 (by decide)
    have b_18 : iv 1 4 py2_1 := iv_l2 (Int32.not_le.mp c_8) b_16 bpy2_1 (by decide)
    refine lv_if_ne (tgt := 11) hx hb dX9_soonest_5 (by decide) (fun _ => ?_) (fun c_20 => absurd c_20 (by decide))
    refine lv_iload_n hx hb dX9_soonest_11 rfl (lv_at hl 2 rfl) ?_
    refine jnI (wr := [(y 0, .inr (9, o9_rirrrrrrrrvviii (y 1) py0_1 (y 2) (y 10) (y 19) (y 25) (y 26) (y 30) (y 31) (y 32) o10 o11 py0_12 py0_13 py0_14)), (y 2, .inr (1, o1_iiiiiirrrrrrriiiii py2_0 py2_1 py2_2 py2_3 py2_4 py2_5 (y 3) (y 4) (y 5) (y 6) (y 7) (y 8) (y 9) py2_13 py2_14 py2_15 py2_16 py2_17))]) (rnS (rest := []) ⟨hx, hb, hml, hown, hg⟩ (k_X9_isHeight_0 l V a2) mt_X9_isHeight q_4_49 ⟨Nat.le_of_ble_eq_true rfl, Nat.le_of_ble_eq_true rfl⟩ hK hP hD hS hA hE [] rfl rfl rfl hl.1 rfl (Nat.le_of_ble_eq_true rfl) dX9_soonest_12 ⟨Nat.le_of_ble_eq_true rfl, Nat.le_of_ble_eq_true rfl⟩) hP hD hS hA [] [0, 1] rfl rfl rfl (by decide) (fun r_21 w H locs hw hP hD hS => ?_)
    rcases hw with ⟨c_22, rfl, rfl⟩ | ⟨c_23, c_24, rfl, rfl⟩ | ⟨c_25, c_26, rfl, rfl⟩
    · have hP : va_P V.1 vwCl [(y 0, .inr (9, o9_rirrrrrrrrvviii (y 1) py0_1 (y 2) (y 10) (y 19) (y 25) (y 26) (y 30) (y 31) (y 32) o10 o11 py0_12 py0_13 py0_14)), (y 2, .inr (1, o1_iiiiiirrrrrrriiiii py2_0 py2_1 py2_2 py2_3 py2_4 py2_5 (y 3) (y 4) (y 5) (y 6) (y 7) (y 8) (y 9) py2_13 py2_14 py2_15 py2_16 py2_17))] H := hP
      have hD := cpD hP hD
      have b_27 : iv (-2147483648) (-1) a2 := iv_l1 c_22 (iv_top a2) (iv_c (0 : Int32) (a := 0) (b := 0) (by decide)) (by decide)
      refine lv_if_ne (tgt := 21) hx hb dX9_soonest_15 (by decide) (fun c_29 => absurd c_29 (by decide)) (fun _ => ?_)
      refine lv_bipush (v := (-3)) hx hb dX9_soonest_18 (by decide) ?_
      exact fiI hx hb hr hlk hK hP hD hS dX9_soonest_20 (Nat.le_of_ble_eq_true rfl) (Nat.le_of_ble_eq_true rfl) (⟨(iv_c ((-3) : Int32) (by decide)), rfl⟩)
    · have hP : va_P V.1 vwCl [(y 0, .inr (9, o9_rirrrrrrrrvviii (y 1) py0_1 (y 2) (y 10) (y 19) (y 25) (y 26) (y 30) (y 31) (y 32) o10 o11 py0_12 py0_13 py0_14)), (y 2, .inr (1, o1_iiiiiirrrrrrriiiii py2_0 py2_1 py2_2 py2_3 py2_4 py2_5 (y 3) (y 4) (y 5) (y 6) (y 7) (y 8) (y 9) py2_13 py2_14 py2_15 py2_16 py2_17))] H := hP
      have hD := cpD hP hD
      have b_30 : iv 0 2147483647 a2 := iv_e2 (Int32.not_lt.mp c_23) (iv_c (0 : Int32) (a := 0) (b := 0) (by decide)) (iv_top a2) (by decide)
      have b_31 : iv 5 2147483647 a2 := iv_l2 c_24 (iv_c (4 : Int32) (a := 4) (b := 4) (by decide)) b_30 (by decide)
      refine lv_if_ne (tgt := 21) hx hb dX9_soonest_15 (by decide) (fun c_33 => absurd c_33 (by decide)) (fun _ => ?_)
      refine lv_bipush (v := (-3)) hx hb dX9_soonest_18 (by decide) ?_
      exact fiI hx hb hr hlk hK hP hD hS dX9_soonest_20 (Nat.le_of_ble_eq_true rfl) (Nat.le_of_ble_eq_true rfl) (⟨(iv_c ((-3) : Int32) (by decide)), rfl⟩)
    · have hP : va_P V.1 vwCl [(y 0, .inr (9, o9_rirrrrrrrrvviii (y 1) py0_1 (y 2) (y 10) (y 19) (y 25) (y 26) (y 30) (y 31) (y 32) o10 o11 py0_12 py0_13 py0_14)), (y 2, .inr (1, o1_iiiiiirrrrrrriiiii py2_0 py2_1 py2_2 py2_3 py2_4 py2_5 (y 3) (y 4) (y 5) (y 6) (y 7) (y 8) (y 9) py2_13 py2_14 py2_15 py2_16 py2_17))] H := hP
      have hD := cpD hP hD
      have b_34 : iv 0 2147483647 a2 := iv_e2 (Int32.not_lt.mp c_25) (iv_c (0 : Int32) (a := 0) (b := 0) (by decide)) (iv_top a2) (by decide)
      have b_35 : iv 0 4 a2 := iv_e1 (Int32.not_lt.mp c_26) b_34 (iv_c (4 : Int32) (a := 4) (b := 4) (by decide)) (by decide)
      refine lv_if_ne (tgt := 21) hx hb dX9_soonest_15 (by decide) (fun _ => ?_) (fun c_37 => absurd c_37 (by decide))
      refine lv_aload_n hx hb dX9_soonest_21 rfl (lv_at hl 0 rfl) ?_
      refine lv_iconst (v := 0) hx hb dX9_soonest_22 (by decide) ?_
      have z_0 := Int32.le_iff_toInt_le.mp (Int32.not_lt.mp c_7)
      have z_1 := Int32.lt_iff_toInt_lt.mp (Int32.not_le.mp c_8)
      have z_2 := Int32.le_iff_toInt_le.mp (Int32.not_lt.mp c_25)
      have z_3 := Int32.le_iff_toInt_le.mp (Int32.not_lt.mp c_26)
      have k_0 : (0 : Int32).toInt = 0 := (by decide)
      have k_4 : (4 : Int32).toInt = 4 := (by decide)
      exact absurd (⟨by omega, by omega, by omega, by omega⟩) hf0
theorem dX8_init_0 : decode cX8_init 0 = .ok (.aload_n 0, 1) := by decide +kernel
theorem q_4_61 : Cond.methodLink "BeaconDelay$Ways" 3 objectInit ∈ gw := gw_4 (i := 61) (by decide +kernel) rfl
theorem q_1_27 : Cond.instanceMethod objectInit ∈ gw := gw_1 (i := 27) (by decide +kernel) rfl
theorem q_1_28 : Cond.code objectInit object_method_1_code 1 none ∈ gw := gw_1 (i := 28) (rfl) rfl
theorem dX8_init_1 : decode cX8_init 1 = .ok (.invokespecial 3, 3) := by decide +kernel
theorem dX8_init_4 : decode cX8_init 4 = .ok (.aload_n 0, 1) := by decide +kernel
theorem dX8_init_5 : decode cX8_init 5 = .ok (.iconst 4, 1) := by decide +kernel
theorem q_1_125 : Cond.arrayClass FieldType.int ∈ gw := gw_1 (i := 125) (by decide +kernel) rfl
theorem dX8_init_6 : decode cX8_init 6 = .ok (.newarray .int, 2) := by decide +kernel
theorem dX8_init_8 : decode cX8_init 8 = .ok (.putfield 9, 3) := by decide +kernel
theorem dX8_init_11 : decode cX8_init 11 = .ok (.aload_n 0, 1) := by decide +kernel
theorem dX8_init_12 : decode cX8_init 12 = .ok (.aload_n 1, 1) := by decide +kernel
theorem dX8_init_13 : decode cX8_init 13 = .ok (.putfield 15, 3) := by decide +kernel
theorem dX8_init_16 : decode cX8_init 16 = .ok (.aload_n 0, 1) := by decide +kernel
theorem dX8_init_17 : decode cX8_init 17 = .ok (.iload_n 2, 1) := by decide +kernel
theorem q_4_65 : Cond.fieldLink "BeaconDelay$Ways" 19 "BeaconDelay$Ways" "mostHills" "I" ∈ gw := gw_4 (i := 65) (by decide +kernel) rfl
theorem dX8_init_18 : decode cX8_init 18 = .ok (.putfield 19, 3) := by decide +kernel
theorem dX8_init_21 : decode cX8_init 21 = .ok (.aload_n 0, 1) := by decide +kernel
theorem dX8_init_22 : decode cX8_init 22 = .ok (.getstatic 23, 3) := by decide +kernel
theorem dX8_init_25 : decode cX8_init 25 = .ok (.iload_n 2, 1) := by decide +kernel
theorem dX8_init_26 : decode cX8_init 26 = .ok (.iaload, 1) := by decide +kernel
theorem dX8_init_27 : decode cX8_init 27 = .ok (.putfield 26, 3) := by decide +kernel
theorem dX8_init_30 : decode cX8_init 30 = .ok (.aload_n 0, 1) := by decide +kernel
theorem dX8_init_31 : decode cX8_init 31 = .ok (.aload_n 0, 1) := by decide +kernel
theorem dX8_init_32 : decode cX8_init 32 = .ok (.getfield 26, 3) := by decide +kernel
theorem dX8_init_35 : decode cX8_init 35 = .ok (.newarray .int, 2) := by decide +kernel
theorem dX8_init_37 : decode cX8_init 37 = .ok (.putfield 29, 3) := by decide +kernel
theorem dX8_init_40 : decode cX8_init 40 = .ok (.aload_n 0, 1) := by decide +kernel
theorem dX8_init_41 : decode cX8_init 41 = .ok (.aload_n 0, 1) := by decide +kernel
theorem dX8_init_42 : decode cX8_init 42 = .ok (.getfield 26, 3) := by decide +kernel
theorem dX8_init_45 : decode cX8_init 45 = .ok (.newarray .int, 2) := by decide +kernel
theorem dX8_init_47 : decode cX8_init 47 = .ok (.putfield 32, 3) := by decide +kernel
theorem dX8_init_50 : decode cX8_init 50 = .ok (.aload_n 0, 1) := by decide +kernel
theorem dX8_init_51 : decode cX8_init 51 = .ok (.getstatic 35, 3) := by decide +kernel
theorem dX8_init_54 : decode cX8_init 54 = .ok (.iload_n 2, 1) := by decide +kernel
theorem dX8_init_55 : decode cX8_init 55 = .ok (.iaload, 1) := by decide +kernel
theorem dX8_init_56 : decode cX8_init 56 = .ok (.newarray .int, 2) := by decide +kernel
theorem dX8_init_58 : decode cX8_init 58 = .ok (.putfield 38, 3) := by decide +kernel
theorem dX8_init_61 : decode cX8_init 61 = .ok (.aload_n 0, 1) := by decide +kernel
theorem dX8_init_62 : decode cX8_init 62 = .ok (.aload_n 0, 1) := by decide +kernel
theorem dX8_init_63 : decode cX8_init 63 = .ok (.getfield 26, 3) := by decide +kernel
theorem dX8_init_66 : decode cX8_init 66 = .ok (.newarray .int, 2) := by decide +kernel
theorem dX8_init_68 : decode cX8_init 68 = .ok (.putfield 41, 3) := by decide +kernel
theorem dX8_init_71 : decode cX8_init 71 = .ok (.aload_n 0, 1) := by decide +kernel
theorem dX8_init_72 : decode cX8_init 72 = .ok (.aload_n 0, 1) := by decide +kernel
theorem dX8_init_73 : decode cX8_init 73 = .ok (.getfield 26, 3) := by decide +kernel
theorem dX8_init_76 : decode cX8_init 76 = .ok (.iconst 4, 1) := by decide +kernel
theorem dX8_init_77 : decode cX8_init 77 = .ok (.imul, 1) := by decide +kernel
theorem dX8_init_78 : decode cX8_init 78 = .ok (.newarray .int, 2) := by decide +kernel
theorem dX8_init_80 : decode cX8_init 80 = .ok (.putfield 44, 3) := by decide +kernel
theorem dX8_init_83 : decode cX8_init 83 = .ok (.aload_n 0, 1) := by decide +kernel
theorem dX8_init_84 : decode cX8_init 84 = .ok (.aload_n 0, 1) := by decide +kernel
theorem dX8_init_85 : decode cX8_init 85 = .ok (.getfield 26, 3) := by decide +kernel
theorem dX8_init_88 : decode cX8_init 88 = .ok (.newarray .int, 2) := by decide +kernel
theorem dX8_init_90 : decode cX8_init 90 = .ok (.putfield 47, 3) := by decide +kernel
def o8_iirrniirrrrrrniii (x0 : Int32) (x1 : Int32) (x2 : Nat) (x3 : Nat) (x5 : Int32) (x6 : Int32) (x7 : Nat) (x8 : Nat) (x9 : Nat) (x10 : Nat) (x11 : Nat) (x12 : Nat) (x14 : Int32) (x15 : Int32) (x16 : Int32) : List Value := [.int x0, .int x1, .ref x2, .ref x3, .null, .int x5, .int x6, .ref x7, .ref x8, .ref x9, .ref x10, .ref x11, .ref x12, .null, .int x14, .int x15, .int x16]
theorem dX8_init_93 : decode cX8_init 93 = .ok (.aload_n 0, 1) := by decide +kernel
theorem dX8_init_94 : decode cX8_init 94 = .ok (.aload_n 0, 1) := by decide +kernel
theorem dX8_init_95 : decode cX8_init 95 = .ok (.getfield 26, 3) := by decide +kernel
theorem dX8_init_98 : decode cX8_init 98 = .ok (.newarray .int, 2) := by decide +kernel
theorem dX8_init_100 : decode cX8_init 100 = .ok (.putfield 50, 3) := by decide +kernel
def o8_iirrriirrrrrrniii (x0 : Int32) (x1 : Int32) (x2 : Nat) (x3 : Nat) (x4 : Nat) (x5 : Int32) (x6 : Int32) (x7 : Nat) (x8 : Nat) (x9 : Nat) (x10 : Nat) (x11 : Nat) (x12 : Nat) (x14 : Int32) (x15 : Int32) (x16 : Int32) : List Value := [.int x0, .int x1, .ref x2, .ref x3, .ref x4, .int x5, .int x6, .ref x7, .ref x8, .ref x9, .ref x10, .ref x11, .ref x12, .null, .int x14, .int x15, .int x16]
theorem dX8_init_103 : decode cX8_init 103 = .ok (.aload_n 0, 1) := by decide +kernel
theorem dX8_init_104 : decode cX8_init 104 = .ok (.aload_n 0, 1) := by decide +kernel
theorem dX8_init_105 : decode cX8_init 105 = .ok (.getfield 26, 3) := by decide +kernel
theorem dX8_init_108 : decode cX8_init 108 = .ok (.newarray .int, 2) := by decide +kernel
theorem dX8_init_110 : decode cX8_init 110 = .ok (.putfield 53, 3) := by decide +kernel
theorem dX8_init_113 : decode cX8_init 113 = .ok (.return_, 1) := by decide +kernel
set_option maxHeartbeats 4000000 in
set_option maxRecDepth 100000 in
theorem k_X8_init_0 (l : Launch) (V : GV) (y : Nat → Nat) (a2 : Int32) (qh0 : Nat) (ba2 : iv 0 4 a2) : Ct l V yX8_init (.code yX8_init cX8_init 3 none) 1 [.ref qh0, .ref (y 19), .int a2] [(qh0, .inr (8, [.int 0, .int 0, .null, .null, .null, .int 0, .int 0, .null, .null, .null, .null, .null, .null, .null, .int 0, .int 0, .int 0]))] 9 46464 (QV V (fun (w : va_W) => ∃ (n : Nat) (L : Nat) (Yw : Nat → Nat) (wa : Nat) (wb : Nat) (ww0 : Int32) (ww5 : Int32) (ww6 : Int32) (ww14 : Int32) (ww15 : Int32) (ww16 : Int32) (wew1 : Nat → Int32) (wew2 : Nat → Int32) (wew3 : Nat → Int32) (wew4 : Nat → Int32) (wew5 : Nat → Int32) (wew6 : Nat → Int32) (wew7 : Nat → Int32) (wew8 : Nat → Int32) (wew9 : Nat → Int32), (1 ≤ n ∧ n ≤ 3646) ∧ (1 ≤ L ∧ L ≤ 10000) ∧ iv 0 4 ww0 ∧ iv 0 ((n : Int)) ww5 ∧ iv 0 4 ww6 ∧ iv 0 4 ww14 ∧ iv 0 9 ww15 ∧ iv 0 ((n : Int)) ww16 ∧ (∀ j, iv 0 ((L : Int) - 1) (wew1 j)) ∧ (∀ j, iv 0 ((n : Int)) (wew4 j)) ∧ (∀ j, iv 0 (4 * (n : Int) - 1) (wew5 j)) ∧ (∀ j, iv 0 ((n : Int) - 1) (wew6 j)) ∧ (∀ j, iv 0 ((n : Int) - 1) (wew7 j)) ∧ Yw 0 = qh0 ∧ (WA ww5 wew4 wew1) ∧ (WB ww16 ww6 ww5 wew6) ∧ (WC ww5 wew2) ∧ (ww0 = a2) ∧ w = [(Yw 0, .inr (8, o8_iirrriirrrrrrriii ww0 (nI n) (Yw 1) (Yw 2) wa ww5 ww6 (y 19) (Yw 4) (Yw 5) (Yw 6) (Yw 7) (Yw 8) wb ww14 ww15 ww16)), (Yw 1, aI V n wew1), (Yw 2, aI V n wew2), (wa, aI V n wew3), (Yw 4, aI V L wew4), (Yw 5, aI V n wew5), (Yw 6, aI V (n * 4) wew6), (Yw 7, aI V n wew7), (Yw 8, aI V 4 wew8), (wb, aI V n wew9)])) := by
  refine Ct.of (by decide) (Nat.le_of_ble_eq_true rfl) (fun p e s m below meth c A ls hx hb hr hml hown hlk hnm hg hP hK hD hE hA hS hl => ?_)
  have hl : lv_has ls 3 [(0, .ref qh0), (1, .ref (y 19)), (2, .int a2)] := hl
  refine lv_aload_n hx hb dX8_init_0 rfl (lv_at hl 0 rfl) ?_
  refine W.objInit hx hb hown (hg _ q_4_61) (hg _ q_1_27) (hg _ q_1_28) rfl (by rw [hml]; exact hl.1) rfl dX8_init_1 (Nat.le_of_ble_eq_true rfl) (Nat.le_of_ble_eq_true rfl) ?_
  refine W.eq (g2 := F0 m 4 ls []) rfl ?_
  refine lv_aload_n hx hb dX8_init_4 rfl (lv_at hl 0 rfl) ?_
  refine lv_iconst (v := 4) hx hb dX8_init_5 (by decide) ?_
  refine nwA (atype := .int) (ty := .int) (a0 := (4, .inl (fun _ => 0))) hx hb hg q_1_125 rfl hK hP hD hS hA 0 rfl (fun _ => rfl) (by decide) (by decide +kernel) (Nat.le_of_ble_eq_true rfl) (Nat.le_of_ble_eq_true rfl) (Nat.le_of_ble_eq_true rfl) dX8_init_6 (fun q_1 H hP hD hS => ?_)
  refine W.widen (k := 1) (n := 4) (Nat.le_of_ble_eq_true rfl) (Nat.le_of_ble_eq_true rfl) ?_
  have hP : va_P V.1 vwCl [(qh0, .inr (8, [.int 0, .int 0, .null, .null, .null, .int 0, .int 0, .null, .null, .null, .null, .null, .null, .null, .int 0, .int 0, .int 0])), (q_1, aI V 4 (fun _ => 0))] H := hP
  have hD := cpD hP hD
  refine va_putF (ci := 8) (v := .ref q_1) (ty := (.array .int)) (C := RX8) (T := TX8) (N := 17) hx hb hg inX8 tyX8 tyX8_ok nmX8 hown hK hP hD hS 0 rfl rfl 12 (by decide) (hg _ q_4_86) (fun _ h9 => h9) rfl hnm rfl (by decide +kernel) rfl rfl (Nat.le_of_ble_eq_true rfl) dX8_init_8 (fun H locs hP hD hS => ?_)
  have hP : va_P V.1 vwCl [(qh0, .inr (8, [.int 0, .int 0, .null, .null, .null, .int 0, .int 0, .null, .null, .null, .null, .null, .ref q_1, .null, .int 0, .int 0, .int 0])), (q_1, aI V 4 (fun _ => 0))] H := hP
  have hD := cpD hP hD
  refine lv_aload_n hx hb dX8_init_11 rfl (lv_at hl 0 rfl) ?_
  refine lv_aload_n hx hb dX8_init_12 rfl (lv_at hl 1 rfl) ?_
  refine va_putF (ci := 8) (v := .ref (y 19)) (ty := (.object "BeaconDelay$Laws")) (C := RX8) (T := TX8) (N := 17) hx hb hg inX8 tyX8 tyX8_ok nmX8 hown hK hP hD hS 0 rfl rfl 7 (by decide) (hg _ q_4_81) (fun _ h9 => h9) rfl hnm rfl (by decide +kernel) rfl rfl (Nat.le_of_ble_eq_true rfl) dX8_init_13 (fun H locs hP hD hS => ?_)
  have hP : va_P V.1 vwCl [(qh0, .inr (8, [.int 0, .int 0, .null, .null, .null, .int 0, .int 0, .ref (y 19), .null, .null, .null, .null, .ref q_1, .null, .int 0, .int 0, .int 0])), (q_1, aI V 4 (fun _ => 0))] H := hP
  have hD := cpD hP hD
  refine lv_aload_n hx hb dX8_init_16 rfl (lv_at hl 0 rfl) ?_
  refine lv_iload_n hx hb dX8_init_17 rfl (lv_at hl 2 rfl) ?_
  refine va_putF (ci := 8) (v := .int a2) (ty := .int) (C := RX8) (T := TX8) (N := 17) hx hb hg inX8 tyX8 tyX8_ok nmX8 hown hK hP hD hS 0 rfl rfl 0 (by decide) (hg _ q_4_65) (fun _ h9 => h9) rfl hnm rfl (by decide +kernel) rfl rfl (Nat.le_of_ble_eq_true rfl) dX8_init_18 (fun H locs hP hD hS => ?_)
  have hP : va_P V.1 vwCl [(qh0, .inr (8, [.int a2, .int 0, .null, .null, .null, .int 0, .int 0, .ref (y 19), .null, .null, .null, .null, .ref q_1, .null, .int 0, .int 0, .int 0])), (q_1, aI V 4 (fun _ => 0))] H := hP
  have hD := cpD hP hD
  refine lv_aload_n hx hb dX8_init_21 rfl (lv_at hl 0 rfl) ?_
  refine va_getsN (C := "BeaconDelay") (n := "MOST_MET") (d := "[I") hx hb hE.2.1.1 hS hown (va_Nw.use rfl (hE.2.2.2.2.1 _ (show ("BeaconDelay$Ways", 23, "MOST_MET", "[I") ∈ nF by decide))) (fun _ h9 => h9) dX8_init_22 ?_
  refine lv_iload_n hx hb dX8_init_25 rfl (lv_at hl 2 rfl) ?_
  refine va_ti (v := .int (mmt a2.toNatClampNeg)) hx hb hE.2.1.2 hS (iv_in ba2 (by first | decide | omega)) rfl dX8_init_26 ?_
  obtain ⟨n, hn, en⟩ := mmt_nat ba2 (by decide)
  refine tpi (y := nI n) en ?_
  refine va_putF (ci := 8) (v := .int (nI n)) (ty := .int) (C := RX8) (T := TX8) (N := 17) hx hb hg inX8 tyX8 tyX8_ok nmX8 hown hK hP hD hS 0 rfl rfl 1 (by decide) (hg _ q_4_67) (fun _ h9 => h9) rfl hnm rfl (by decide +kernel) rfl rfl (Nat.le_of_ble_eq_true rfl) dX8_init_27 (fun H locs hP hD hS => ?_)
  have hP : va_P V.1 vwCl [(qh0, .inr (8, [.int a2, .int (nI n), .null, .null, .null, .int 0, .int 0, .ref (y 19), .null, .null, .null, .null, .ref q_1, .null, .int 0, .int 0, .int 0])), (q_1, aI V 4 (fun _ => 0))] H := hP
  have hD := cpD hP hD
  refine lv_aload_n hx hb dX8_init_30 rfl (lv_at hl 0 rfl) ?_
  refine lv_aload_n hx hb dX8_init_31 rfl (lv_at hl 0 rfl) ?_
  refine va_get (ci := 8) (v := .int (nI n)) (C := RX8) (T := TX8) (N := 17) hx hb hg inX8 hown hK hP 0 rfl rfl 1 (by decide) (hg _ q_4_67) (fun _ h9 => h9) rfl dX8_init_32 ?_
  refine nwA (N' := n) (atype := .int) (ty := .int) (a0 := (n, .inl (fun _ => 0))) hx hb hg q_1_125 rfl hK hP hD hS hA 0 rfl (fun _ => rfl) (iv_n0lt (iv_nI (by omega)) (by omega)) (iv_clx (iv_nI (by omega)) (by omega)) (by show (n) * 4 ≤ 536870912; omega) (Nat.le_of_ble_eq_true rfl) (by show 4 + n ≤ 46464; omega) dX8_init_35 (fun q_2 H hP hD hS => ?_)
  refine W.widen (k := 2) (n := 3650) (Nat.le_of_ble_eq_true rfl) (by omega) ?_
  have hP : va_P V.1 vwCl [(qh0, .inr (8, [.int a2, .int (nI n), .null, .null, .null, .int 0, .int 0, .ref (y 19), .null, .null, .null, .null, .ref q_1, .null, .int 0, .int 0, .int 0])), (q_1, aI V 4 (fun _ => 0)), (q_2, aI V n (fun _ => 0))] H := hP
  have hD := cpD hP hD
  refine va_putF (ci := 8) (v := .ref q_2) (ty := (.array .int)) (C := RX8) (T := TX8) (N := 17) hx hb hg inX8 tyX8 tyX8_ok nmX8 hown hK hP hD hS 0 rfl rfl 2 (by decide) (hg _ q_4_69) (fun _ h9 => h9) rfl hnm rfl (by decide +kernel) rfl rfl (Nat.le_of_ble_eq_true rfl) dX8_init_37 (fun H locs hP hD hS => ?_)
  have hP : va_P V.1 vwCl [(qh0, .inr (8, [.int a2, .int (nI n), .ref q_2, .null, .null, .int 0, .int 0, .ref (y 19), .null, .null, .null, .null, .ref q_1, .null, .int 0, .int 0, .int 0])), (q_1, aI V 4 (fun _ => 0)), (q_2, aI V n (fun _ => 0))] H := hP
  have hD := cpD hP hD
  refine lv_aload_n hx hb dX8_init_40 rfl (lv_at hl 0 rfl) ?_
  refine lv_aload_n hx hb dX8_init_41 rfl (lv_at hl 0 rfl) ?_
  refine va_get (ci := 8) (v := .int (nI n)) (C := RX8) (T := TX8) (N := 17) hx hb hg inX8 hown hK hP 0 rfl rfl 1 (by decide) (hg _ q_4_67) (fun _ h9 => h9) rfl dX8_init_42 ?_
  refine nwA (N' := n) (atype := .int) (ty := .int) (a0 := (n, .inl (fun _ => 0))) hx hb hg q_1_125 rfl hK hP hD hS hA 0 rfl (fun _ => rfl) (iv_n0lt (iv_nI (by omega)) (by omega)) (iv_clx (iv_nI (by omega)) (by omega)) (by show (n) * 4 ≤ 536870912; omega) (Nat.le_of_ble_eq_true rfl) (by show 3650 + n ≤ 46464; omega) dX8_init_45 (fun q_3 H hP hD hS => ?_)
  refine W.widen (k := 3) (n := 7296) (Nat.le_of_ble_eq_true rfl) (by omega) ?_
  have hP : va_P V.1 vwCl [(qh0, .inr (8, [.int a2, .int (nI n), .ref q_2, .null, .null, .int 0, .int 0, .ref (y 19), .null, .null, .null, .null, .ref q_1, .null, .int 0, .int 0, .int 0])), (q_1, aI V 4 (fun _ => 0)), (q_2, aI V n (fun _ => 0)), (q_3, aI V n (fun _ => 0))] H := hP
  have hD := cpD hP hD
  refine va_putF (ci := 8) (v := .ref q_3) (ty := (.array .int)) (C := RX8) (T := TX8) (N := 17) hx hb hg inX8 tyX8 tyX8_ok nmX8 hown hK hP hD hS 0 rfl rfl 3 (by decide) (hg _ q_4_72) (fun _ h9 => h9) rfl hnm rfl (by decide +kernel) rfl rfl (Nat.le_of_ble_eq_true rfl) dX8_init_47 (fun H locs hP hD hS => ?_)
  have hP : va_P V.1 vwCl [(qh0, .inr (8, [.int a2, .int (nI n), .ref q_2, .ref q_3, .null, .int 0, .int 0, .ref (y 19), .null, .null, .null, .null, .ref q_1, .null, .int 0, .int 0, .int 0])), (q_1, aI V 4 (fun _ => 0)), (q_2, aI V n (fun _ => 0)), (q_3, aI V n (fun _ => 0))] H := hP
  have hD := cpD hP hD
  refine lv_aload_n hx hb dX8_init_50 rfl (lv_at hl 0 rfl) ?_
  refine va_getsN (C := "BeaconDelay") (n := "POWER") (d := "[I") hx hb hE.1.1 hS hown (va_Nw.use rfl (hE.2.2.2.2.1 _ (show ("BeaconDelay$Ways", 35, "POWER", "[I") ∈ nF by decide))) (fun _ h9 => h9) dX8_init_51 ?_
  refine lv_iload_n hx hb dX8_init_54 rfl (lv_at hl 2 rfl) ?_
  refine va_ti (v := .int (pw a2.toNatClampNeg)) hx hb hE.1.2 hS (iv_in ba2 (by first | decide | omega)) rfl dX8_init_55 ?_
  obtain ⟨L, hL, eL⟩ := pw_nat ba2 (by decide)
  refine tpi (y := nI L) eL ?_
  refine nwA (N' := L) (atype := .int) (ty := .int) (a0 := (L, .inl (fun _ => 0))) hx hb hg q_1_125 rfl hK hP hD hS hA 0 rfl (fun _ => rfl) (iv_n0lt (iv_nI (by omega)) (by omega)) (iv_clx (iv_nI (by omega)) (by omega)) (by show (L) * 4 ≤ 536870912; omega) (Nat.le_of_ble_eq_true rfl) (by show 7296 + L ≤ 46464; omega) dX8_init_56 (fun q_4 H hP hD hS => ?_)
  refine W.widen (k := 4) (n := 17296) (Nat.le_of_ble_eq_true rfl) (by omega) ?_
  have hP : va_P V.1 vwCl [(qh0, .inr (8, [.int a2, .int (nI n), .ref q_2, .ref q_3, .null, .int 0, .int 0, .ref (y 19), .null, .null, .null, .null, .ref q_1, .null, .int 0, .int 0, .int 0])), (q_1, aI V 4 (fun _ => 0)), (q_2, aI V n (fun _ => 0)), (q_3, aI V n (fun _ => 0)), (q_4, aI V L (fun _ => 0))] H := hP
  have hD := cpD hP hD
  refine va_putF (ci := 8) (v := .ref q_4) (ty := (.array .int)) (C := RX8) (T := TX8) (N := 17) hx hb hg inX8 tyX8 tyX8_ok nmX8 hown hK hP hD hS 0 rfl rfl 8 (by decide) (hg _ q_4_82) (fun _ h9 => h9) rfl hnm rfl (by decide +kernel) rfl rfl (Nat.le_of_ble_eq_true rfl) dX8_init_58 (fun H locs hP hD hS => ?_)
  have hP : va_P V.1 vwCl [(qh0, .inr (8, [.int a2, .int (nI n), .ref q_2, .ref q_3, .null, .int 0, .int 0, .ref (y 19), .ref q_4, .null, .null, .null, .ref q_1, .null, .int 0, .int 0, .int 0])), (q_1, aI V 4 (fun _ => 0)), (q_2, aI V n (fun _ => 0)), (q_3, aI V n (fun _ => 0)), (q_4, aI V L (fun _ => 0))] H := hP
  have hD := cpD hP hD
  refine lv_aload_n hx hb dX8_init_61 rfl (lv_at hl 0 rfl) ?_
  refine lv_aload_n hx hb dX8_init_62 rfl (lv_at hl 0 rfl) ?_
  refine va_get (ci := 8) (v := .int (nI n)) (C := RX8) (T := TX8) (N := 17) hx hb hg inX8 hown hK hP 0 rfl rfl 1 (by decide) (hg _ q_4_67) (fun _ h9 => h9) rfl dX8_init_63 ?_
  refine nwA (N' := n) (atype := .int) (ty := .int) (a0 := (n, .inl (fun _ => 0))) hx hb hg q_1_125 rfl hK hP hD hS hA 0 rfl (fun _ => rfl) (iv_n0lt (iv_nI (by omega)) (by omega)) (iv_clx (iv_nI (by omega)) (by omega)) (by show (n) * 4 ≤ 536870912; omega) (Nat.le_of_ble_eq_true rfl) (by show 17296 + n ≤ 46464; omega) dX8_init_66 (fun q_5 H hP hD hS => ?_)
  refine W.widen (k := 5) (n := 20942) (Nat.le_of_ble_eq_true rfl) (by omega) ?_
  have hP : va_P V.1 vwCl [(qh0, .inr (8, [.int a2, .int (nI n), .ref q_2, .ref q_3, .null, .int 0, .int 0, .ref (y 19), .ref q_4, .null, .null, .null, .ref q_1, .null, .int 0, .int 0, .int 0])), (q_1, aI V 4 (fun _ => 0)), (q_2, aI V n (fun _ => 0)), (q_3, aI V n (fun _ => 0)), (q_4, aI V L (fun _ => 0)), (q_5, aI V n (fun _ => 0))] H := hP
  have hD := cpD hP hD
  refine va_putF (ci := 8) (v := .ref q_5) (ty := (.array .int)) (C := RX8) (T := TX8) (N := 17) hx hb hg inX8 tyX8 tyX8_ok nmX8 hown hK hP hD hS 0 rfl rfl 9 (by decide) (hg _ q_4_83) (fun _ h9 => h9) rfl hnm rfl (by decide +kernel) rfl rfl (Nat.le_of_ble_eq_true rfl) dX8_init_68 (fun H locs hP hD hS => ?_)
  have hP : va_P V.1 vwCl [(qh0, .inr (8, [.int a2, .int (nI n), .ref q_2, .ref q_3, .null, .int 0, .int 0, .ref (y 19), .ref q_4, .ref q_5, .null, .null, .ref q_1, .null, .int 0, .int 0, .int 0])), (q_1, aI V 4 (fun _ => 0)), (q_2, aI V n (fun _ => 0)), (q_3, aI V n (fun _ => 0)), (q_4, aI V L (fun _ => 0)), (q_5, aI V n (fun _ => 0))] H := hP
  have hD := cpD hP hD
  refine lv_aload_n hx hb dX8_init_71 rfl (lv_at hl 0 rfl) ?_
  refine lv_aload_n hx hb dX8_init_72 rfl (lv_at hl 0 rfl) ?_
  refine va_get (ci := 8) (v := .int (nI n)) (C := RX8) (T := TX8) (N := 17) hx hb hg inX8 hown hK hP 0 rfl rfl 1 (by decide) (hg _ q_4_67) (fun _ h9 => h9) rfl dX8_init_73 ?_
  refine lv_iconst (v := 4) hx hb dX8_init_76 (by decide) ?_
  refine lv_imul hx hb dX8_init_77 ?_
  refine lv_topi (fun x_6 ex_6 => ?_)
  have bx_6 : iv (4 * (n : Int)) (4 * (n : Int)) x_6 := by rw [ex_6]; exact iv_mulc (iv_nI (by omega)) (iv_c (4 : Int32) (a := 4) (b := 4) (by decide)) (by first | decide | omega)
  refine nwA (N' := n * 4) (atype := .int) (ty := .int) (a0 := (n * 4, .inl (fun _ => 0))) hx hb hg q_1_125 rfl hK hP hD hS hA 0 rfl (fun _ => rfl) (iv_n0lt bx_6 (by omega)) (iv_clx bx_6 (by omega)) (by show (n * 4) * 4 ≤ 536870912; omega) (Nat.le_of_ble_eq_true rfl) (by show 20942 + n * 4 ≤ 46464; omega) dX8_init_78 (fun q_7 H hP hD hS => ?_)
  refine W.widen (k := 6) (n := 35526) (Nat.le_of_ble_eq_true rfl) (by omega) ?_
  have hP : va_P V.1 vwCl [(qh0, .inr (8, [.int a2, .int (nI n), .ref q_2, .ref q_3, .null, .int 0, .int 0, .ref (y 19), .ref q_4, .ref q_5, .null, .null, .ref q_1, .null, .int 0, .int 0, .int 0])), (q_1, aI V 4 (fun _ => 0)), (q_2, aI V n (fun _ => 0)), (q_3, aI V n (fun _ => 0)), (q_4, aI V L (fun _ => 0)), (q_5, aI V n (fun _ => 0)), (q_7, aI V (n * 4) (fun _ => 0))] H := hP
  have hD := cpD hP hD
  refine va_putF (ci := 8) (v := .ref q_7) (ty := (.array .int)) (C := RX8) (T := TX8) (N := 17) hx hb hg inX8 tyX8 tyX8_ok nmX8 hown hK hP hD hS 0 rfl rfl 10 (by decide) (hg _ q_4_84) (fun _ h9 => h9) rfl hnm rfl (by decide +kernel) rfl rfl (Nat.le_of_ble_eq_true rfl) dX8_init_80 (fun H locs hP hD hS => ?_)
  have hP : va_P V.1 vwCl [(qh0, .inr (8, [.int a2, .int (nI n), .ref q_2, .ref q_3, .null, .int 0, .int 0, .ref (y 19), .ref q_4, .ref q_5, .ref q_7, .null, .ref q_1, .null, .int 0, .int 0, .int 0])), (q_1, aI V 4 (fun _ => 0)), (q_2, aI V n (fun _ => 0)), (q_3, aI V n (fun _ => 0)), (q_4, aI V L (fun _ => 0)), (q_5, aI V n (fun _ => 0)), (q_7, aI V (n * 4) (fun _ => 0))] H := hP
  have hD := cpD hP hD
  refine lv_aload_n hx hb dX8_init_83 rfl (lv_at hl 0 rfl) ?_
  refine lv_aload_n hx hb dX8_init_84 rfl (lv_at hl 0 rfl) ?_
  refine va_get (ci := 8) (v := .int (nI n)) (C := RX8) (T := TX8) (N := 17) hx hb hg inX8 hown hK hP 0 rfl rfl 1 (by decide) (hg _ q_4_67) (fun _ h9 => h9) rfl dX8_init_85 ?_
  refine nwA (N' := n) (atype := .int) (ty := .int) (a0 := (n, .inl (fun _ => 0))) hx hb hg q_1_125 rfl hK hP hD hS hA 0 rfl (fun _ => rfl) (iv_n0lt (iv_nI (by omega)) (by omega)) (iv_clx (iv_nI (by omega)) (by omega)) (by show (n) * 4 ≤ 536870912; omega) (Nat.le_of_ble_eq_true rfl) (by show 35526 + n ≤ 46464; omega) dX8_init_88 (fun q_8 H hP hD hS => ?_)
  refine W.widen (k := 7) (n := 39172) (Nat.le_of_ble_eq_true rfl) (by omega) ?_
  have hP : va_P V.1 vwCl [(qh0, .inr (8, [.int a2, .int (nI n), .ref q_2, .ref q_3, .null, .int 0, .int 0, .ref (y 19), .ref q_4, .ref q_5, .ref q_7, .null, .ref q_1, .null, .int 0, .int 0, .int 0])), (q_1, aI V 4 (fun _ => 0)), (q_2, aI V n (fun _ => 0)), (q_3, aI V n (fun _ => 0)), (q_4, aI V L (fun _ => 0)), (q_5, aI V n (fun _ => 0)), (q_7, aI V (n * 4) (fun _ => 0)), (q_8, aI V n (fun _ => 0))] H := hP
  have hD := cpD hP hD
  refine va_putF (ci := 8) (v := .ref q_8) (ty := (.array .int)) (C := RX8) (T := TX8) (N := 17) hx hb hg inX8 tyX8 tyX8_ok nmX8 hown hK hP hD hS 0 rfl rfl 11 (by decide) (hg _ q_4_85) (fun _ h9 => h9) rfl hnm rfl (by decide +kernel) rfl rfl (Nat.le_of_ble_eq_true rfl) dX8_init_90 (fun H locs hP hD hS => ?_)
  have hP : va_P V.1 vwCl [(qh0, .inr (8, o8_iirrniirrrrrrniii a2 (nI n) q_2 q_3 0 0 (y 19) q_4 q_5 q_7 q_8 q_1 0 0 0)), (q_1, aI V 4 (fun _ => 0)), (q_2, aI V n (fun _ => 0)), (q_3, aI V n (fun _ => 0)), (q_4, aI V L (fun _ => 0)), (q_5, aI V n (fun _ => 0)), (q_7, aI V (n * 4) (fun _ => 0)), (q_8, aI V n (fun _ => 0))] H := hP
  have hD := cpD hP hD
  refine lv_aload_n hx hb dX8_init_93 rfl (lv_at hl 0 rfl) ?_
  refine lv_aload_n hx hb dX8_init_94 rfl (lv_at hl 0 rfl) ?_
  refine va_get (ci := 8) (v := .int (nI n)) (C := RX8) (T := TX8) (N := 17) hx hb hg inX8 hown hK hP 0 rfl rfl 1 (by decide) (hg _ q_4_67) (fun _ h9 => h9) rfl dX8_init_95 ?_
  refine nwA (N' := n) (atype := .int) (ty := .int) (a0 := (n, .inl (fun _ => 0))) hx hb hg q_1_125 rfl hK hP hD hS hA 0 rfl (fun _ => rfl) (iv_n0lt (iv_nI (by omega)) (by omega)) (iv_clx (iv_nI (by omega)) (by omega)) (by show (n) * 4 ≤ 536870912; omega) (Nat.le_of_ble_eq_true rfl) (by show 39172 + n ≤ 46464; omega) dX8_init_98 (fun q_9 H hP hD hS => ?_)
  refine W.widen (k := 8) (n := 42818) (Nat.le_of_ble_eq_true rfl) (by omega) ?_
  have hP : va_P V.1 vwCl [(qh0, .inr (8, o8_iirrniirrrrrrniii a2 (nI n) q_2 q_3 0 0 (y 19) q_4 q_5 q_7 q_8 q_1 0 0 0)), (q_1, aI V 4 (fun _ => 0)), (q_2, aI V n (fun _ => 0)), (q_3, aI V n (fun _ => 0)), (q_4, aI V L (fun _ => 0)), (q_5, aI V n (fun _ => 0)), (q_7, aI V (n * 4) (fun _ => 0)), (q_8, aI V n (fun _ => 0)), (q_9, aI V n (fun _ => 0))] H := hP
  have hD := cpD hP hD
  refine va_put (ci := 8) (v := .ref q_9) (ty := (.array .int)) (C := RX8) (T := TX8) (N := 17) hx hb hg inX8 tyX8 tyX8_ok nmX8 hown hK hP hD hS 0 rfl rfl 4 (by decide) (hg _ q_4_74) (fun _ h9 => h9) rfl (by decide +kernel) rfl rfl (Nat.le_of_ble_eq_true rfl) dX8_init_100 (fun H locs hP hD hS => ?_)
  have hP : va_P V.1 vwCl [(qh0, .inr (8, o8_iirrriirrrrrrniii a2 (nI n) q_2 q_3 q_9 0 0 (y 19) q_4 q_5 q_7 q_8 q_1 0 0 0)), (q_1, aI V 4 (fun _ => 0)), (q_2, aI V n (fun _ => 0)), (q_3, aI V n (fun _ => 0)), (q_4, aI V L (fun _ => 0)), (q_5, aI V n (fun _ => 0)), (q_7, aI V (n * 4) (fun _ => 0)), (q_8, aI V n (fun _ => 0)), (q_9, aI V n (fun _ => 0))] H := hP
  have hD := cpD hP hD
  refine lv_aload_n hx hb dX8_init_103 rfl (lv_at hl 0 rfl) ?_
  refine lv_aload_n hx hb dX8_init_104 rfl (lv_at hl 0 rfl) ?_
  refine va_get (ci := 8) (v := .int (nI n)) (C := RX8) (T := TX8) (N := 17) hx hb hg inX8 hown hK hP 0 rfl rfl 1 (by decide) (hg _ q_4_67) (fun _ h9 => h9) rfl dX8_init_105 ?_
  refine nwA (N' := n) (atype := .int) (ty := .int) (a0 := (n, .inl (fun _ => 0))) hx hb hg q_1_125 rfl hK hP hD hS hA 0 rfl (fun _ => rfl) (iv_n0lt (iv_nI (by omega)) (by omega)) (iv_clx (iv_nI (by omega)) (by omega)) (by show (n) * 4 ≤ 536870912; omega) (Nat.le_of_ble_eq_true rfl) (by show 42818 + n ≤ 46464; omega) dX8_init_108 (fun q_10 H hP hD hS => ?_)
  refine W.widen (k := 9) (n := 46464) (Nat.le_of_ble_eq_true rfl) (by omega) ?_
  have hP : va_P V.1 vwCl [(qh0, .inr (8, o8_iirrriirrrrrrniii a2 (nI n) q_2 q_3 q_9 0 0 (y 19) q_4 q_5 q_7 q_8 q_1 0 0 0)), (q_1, aI V 4 (fun _ => 0)), (q_2, aI V n (fun _ => 0)), (q_3, aI V n (fun _ => 0)), (q_4, aI V L (fun _ => 0)), (q_5, aI V n (fun _ => 0)), (q_7, aI V (n * 4) (fun _ => 0)), (q_8, aI V n (fun _ => 0)), (q_9, aI V n (fun _ => 0)), (q_10, aI V n (fun _ => 0))] H := hP
  have hD := cpD hP hD
  refine va_put (ci := 8) (v := .ref q_10) (ty := (.array .int)) (C := RX8) (T := TX8) (N := 17) hx hb hg inX8 tyX8 tyX8_ok nmX8 hown hK hP hD hS 0 rfl rfl 13 (by decide) (hg _ q_4_87) (fun _ h9 => h9) rfl (by decide +kernel) rfl rfl (Nat.le_of_ble_eq_true rfl) dX8_init_110 (fun H locs hP hD hS => ?_)
  have hP : va_P V.1 vwCl [(qh0, .inr (8, o8_iirrriirrrrrrriii a2 (nI n) q_2 q_3 q_9 0 0 (y 19) q_4 q_5 q_7 q_8 q_1 q_10 0 0 0)), (q_1, aI V 4 (fun _ => 0)), (q_2, aI V n (fun _ => 0)), (q_3, aI V n (fun _ => 0)), (q_4, aI V L (fun _ => 0)), (q_5, aI V n (fun _ => 0)), (q_7, aI V (n * 4) (fun _ => 0)), (q_8, aI V n (fun _ => 0)), (q_9, aI V n (fun _ => 0)), (q_10, aI V n (fun _ => 0))] H := hP
  have hD := cpD hP hD
  exact fiV hx hb hr hlk hK (subP (ws' := [(qh0, .inr (8, o8_iirrriirrrrrrriii a2 (nI n) q_2 q_3 q_9 0 0 (y 19) q_4 q_5 q_7 q_8 q_1 q_10 0 0 0)), (q_2, aI V n (fun _ => 0)), (q_3, aI V n (fun _ => 0)), (q_9, aI V n (fun _ => 0)), (q_4, aI V L (fun _ => 0)), (q_5, aI V n (fun _ => 0)), (q_7, aI V (n * 4) (fun _ => 0)), (q_8, aI V n (fun _ => 0)), (q_1, aI V 4 (fun _ => 0)), (q_10, aI V n (fun _ => 0))]) hP [0, 2, 3, 8, 4, 5, 6, 7, 1, 9] rfl) (hD.sub [0, 2, 3, 8, 4, 5, 6, 7, 1, 9] rfl rfl) hS dX8_init_113 (Nat.le_of_ble_eq_true rfl) (Nat.le_of_ble_eq_true rfl) (⟨n, L, (fun k9 => [qh0, q_2, q_3, 0, q_4, q_5, q_7, q_8, q_1, 0].getD k9 0), q_9, q_10, a2, 0, 0, 0, 0, 0, (fun _ => 0), (fun _ => 0), (fun _ => 0), (fun _ => 0), (fun _ => 0), (fun _ => 0), (fun _ => 0), (fun _ => 0), (fun _ => 0), hn, hL, ba2, (iv_w (iv_c (0 : Int32) (a := 0) (b := 0) (by decide)) (by first | decide | omega)), (iv_c (0 : Int32) (by decide)), (iv_c (0 : Int32) (by decide)), (iv_c (0 : Int32) (by decide)), (iv_w (iv_c (0 : Int32) (a := 0) (b := 0) (by decide)) (by first | decide | omega)), (fun _ => iv_w (iv_c (0 : Int32) (a := 0) (b := 0) (by decide)) (by first | decide | omega)), (fun _ => iv_w (iv_c (0 : Int32) (a := 0) (b := 0) (by decide)) (by first | decide | omega)), (fun _ => iv_w (iv_c (0 : Int32) (a := 0) (b := 0) (by decide)) (by first | decide | omega)), (fun _ => iv_w (iv_c (0 : Int32) (a := 0) (b := 0) (by decide)) (by first | decide | omega)), (fun _ => iv_w (iv_c (0 : Int32) (a := 0) (b := 0) (by decide)) (by first | decide | omega)), rfl, (WA_0 (by decide)), (WB_0 (by decide)), (WC_0 (by decide)), rfl, rfl⟩)
theorem dX9_waysFromNow_24 : decode cX9_waysFromNow 24 = .ok (.aload_n 0, 1) := by decide +kernel
theorem q_4_56 : Cond.classLink "BeaconDelay" 111 "BeaconDelay$Ways" ∈ gw := gw_4 (i := 56) (by decide +kernel) rfl
theorem q_4_57 : Cond.instantiable "BeaconDelay$Ways" 17 ∈ gw := gw_4 (i := 57) (by decide +kernel) rfl
theorem dX9_waysFromNow_25 : decode cX9_waysFromNow 25 = .ok (.new 111, 3) := by decide +kernel
theorem dX9_waysFromNow_28 : decode cX9_waysFromNow 28 = .ok (.dup, 1) := by decide +kernel
theorem dX9_waysFromNow_29 : decode cX9_waysFromNow 29 = .ok (.aload_n 0, 1) := by decide +kernel
theorem dX9_waysFromNow_30 : decode cX9_waysFromNow 30 = .ok (.getfield 34, 3) := by decide +kernel
theorem dX9_waysFromNow_33 : decode cX9_waysFromNow 33 = .ok (.aload_n 0, 1) := by decide +kernel
theorem dX9_waysFromNow_34 : decode cX9_waysFromNow 34 = .ok (.getfield 16, 3) := by decide +kernel
theorem dX9_waysFromNow_37 : decode cX9_waysFromNow 37 = .ok (.getfield 159, 3) := by decide +kernel
theorem q_4_60 : Cond.code yX8_init prog_10_method_1_code 3 none ∈ gw := gw_4 (i := 60) (rfl) rfl
theorem q_4_59 : Cond.instanceMethod yX8_init ∈ gw := gw_4 (i := 59) (by decide +kernel) rfl
theorem mt_X8_init : MtI yX8_init cX8_init 3 none 2 := ⟨⟨q_4_60, q_1_18, by decide +kernel, by decide +kernel, by decide +kernel⟩, rfl, q_4_59⟩
theorem q_4_58 : Cond.methodLink "BeaconDelay" 243 yX8_init ∈ gw := gw_4 (i := 58) (by decide +kernel) rfl
theorem dX9_waysFromNow_40 : decode cX9_waysFromNow 40 = .ok (.invokespecial 243, 3) := by decide +kernel
theorem dX9_waysFromNow_43 : decode cX9_waysFromNow 43 = .ok (.putfield 106, 3) := by decide +kernel
set_option maxHeartbeats 4000000 in
set_option maxRecDepth 100000 in
theorem k_X9_waysFromNow_1 (l : Launch) (V : GV) (y : Nat → Nat) (D9 : Nat → Int32) (a1 : Int32) (fy3 : Nat → Int32) (fy9 : Nat → Int32) (fy20 : Nat → Int32) (fy21 : Nat → Int32) (fy22 : Nat → Int32) (py0_1 : Int32) (o11 : Value) (py0_12 : Int32) (py0_13 : Int32) (py0_14 : Int32) (py2_0 : Int32) (py2_1 : Int32) (py2_2 : Int32) (py2_3 : Int32) (py2_4 : Int32) (py2_5 : Int32) (py2_13 : Int32) (py2_14 : Int32) (py2_15 : Int32) (py2_16 : Int32) (py2_17 : Int32) (tfy20 : ∀ j, iv 0 10 (fy20 j)) (bpy0_1 : iv 0 900 py0_1) (bpy0_12 : iv 0 9999 py0_12) (bpy0_13 : iv 0 9 py0_13) (bpy2_1 : iv 0 4 py2_1) (bpy2_2 : iv 0 4 py2_2) (bpy2_3 : iv 0 8 py2_3) (bpy2_4 : iv 0 9999 py2_4) (bpy2_5 : iv 0 9 py2_5) (bpy2_13 : iv 0 900 py2_13) (bpy2_14 : iv 0 900 py2_14) (bpy2_15 : iv 0 900 py2_15) (bpy2_16 : iv 0 900 py2_16) (bpy2_17 : iv 0 900 py2_17) (hL9 : LW D9 fy3 fy9 py2_14 py2_15 py2_16 py2_17) (hK9 : KN D9 fy20) : Ct l V yX9_waysFromNow (.code yX9_waysFromNow cX9_waysFromNow 2 (some (.object "BeaconDelay$Ways"))) 7 [.ref (y 0), .int a1] [(y 3, aI V 4 fy3), (y 9, aI V 900 fy9), (y 19, .inr (4, o4_rrrrrr (y 2) (y 20) (y 21) (y 22) (y 23) (y 24))), (y 20, aI V 2000 fy20), (y 21, aI V 6 fy21), (y 22, aI V 64 fy22), (y 0, .inr (9, o9_rirrrrrrrrnviii (y 1) py0_1 (y 2) (y 10) (y 19) (y 25) (y 26) (y 30) (y 31) (y 32) o11 py0_12 py0_13 py0_14)), (y 2, .inr (1, o1_iiiiiirrrrrrriiiii py2_0 py2_1 py2_2 py2_3 py2_4 py2_5 (y 3) (y 4) (y 5) (y 6) (y 7) (y 8) (y 9) py2_13 py2_14 py2_15 py2_16 py2_17))] 10 46481 (QR V (fun (r : Nat) (w : va_W) => ∃ (n : Nat) (L : Nat) (Yw : Nat → Nat) (wa : Nat) (wb : Nat) (g0 : Nat → Int32) (g1 : Nat → Int32) (g2 : Nat → Int32) (ww0 : Int32) (ww5 : Int32) (ww6 : Int32) (ww14 : Int32) (ww15 : Int32) (ww16 : Int32) (wew1 : Nat → Int32) (wew2 : Nat → Int32) (wew3 : Nat → Int32) (wew4 : Nat → Int32) (wew5 : Nat → Int32) (wew6 : Nat → Int32) (wew7 : Nat → Int32) (wew8 : Nat → Int32) (wew9 : Nat → Int32), (1 ≤ n ∧ n ≤ 3646) ∧ (1 ≤ L ∧ L ≤ 10000) ∧ (∀ j, iv 0 10 (g0 j)) ∧ iv 0 4 ww0 ∧ iv 0 ((n : Int)) ww5 ∧ iv 0 4 ww6 ∧ iv 0 4 ww14 ∧ iv 0 9 ww15 ∧ iv 0 ((n : Int)) ww16 ∧ (∀ j, iv 0 ((L : Int) - 1) (wew1 j)) ∧ (∀ j, iv 0 ((n : Int)) (wew4 j)) ∧ (∀ j, iv 0 (4 * (n : Int) - 1) (wew5 j)) ∧ (∀ j, iv 0 ((n : Int) - 1) (wew6 j)) ∧ (∀ j, iv 0 ((n : Int) - 1) (wew7 j)) ∧ Yw 0 = r ∧ (WA ww5 wew4 wew1) ∧ (WB ww16 ww6 ww5 wew6) ∧ (WC ww5 wew2) ∧ (4000 ≤ (a1 : Int32).toInt → (ww5 : Int32).toInt ≤ (ww16 : Int32).toInt) ∧ (ww0 = py2_1) ∧ KN D9 g0 ∧ w = [(y 3, aI V 4 fy3), (y 9, aI V 900 fy9), (y 19, .inr (4, o4_rrrrrr (y 2) (y 20) (y 21) (y 22) (y 23) (y 24))), (y 20, aI V 2000 g0), (y 21, aI V 6 g1), (y 22, aI V 64 g2), (y 0, .inr (9, o9_rirrrrrrrrrviii (y 1) py0_1 (y 2) (y 10) (y 19) (y 25) (y 26) (y 30) (y 31) (y 32) (Yw 0) o11 py0_12 py0_13 py0_14)), (y 2, .inr (1, o1_iiiiiirrrrrrriiiii py2_0 py2_1 py2_2 py2_3 py2_4 py2_5 (y 3) (y 4) (y 5) (y 6) (y 7) (y 8) (y 9) py2_13 py2_14 py2_15 py2_16 py2_17)), (Yw 0, .inr (8, o8_iirrriirrrrrrriii ww0 (nI n) (Yw 1) (Yw 2) wa ww5 ww6 (y 19) (Yw 4) (Yw 5) (Yw 6) (Yw 7) (Yw 8) wb ww14 ww15 ww16)), (Yw 1, aI V n wew1), (Yw 2, aI V n wew2), (wa, aI V n wew3), (Yw 4, aI V L wew4), (Yw 5, aI V n wew5), (Yw 6, aI V (n * 4) wew6), (Yw 7, aI V n wew7), (Yw 8, aI V 4 wew8), (wb, aI V n wew9)])) := by
  refine Ct.of (by decide) (Nat.le_of_ble_eq_true rfl) (fun p e s m below meth c A ls hx hb hr hml hown hlk hnm hg hP hK hD hE hA hS hl => ?_)
  have hl : lv_has ls 2 [(0, .ref (y 0)), (1, .int a1)] := hl
  refine lv_aload_n hx hb dX9_waysFromNow_0 rfl (lv_at hl 0 rfl) ?_
  refine va_get (ci := 9) (v := .null) (C := RX9) (T := TX9) (N := 15) hx hb hg inX9 hown hK hP 6 rfl rfl 10 (by decide) (hg _ q_2_46) (fun _ h9 => h9) rfl dX9_waysFromNow_1 ?_
  refine lv_ifnullN (tgt := 24) hx hb dX9_waysFromNow_4 (by decide) ?_
  refine lv_aload_n hx hb dX9_waysFromNow_24 rfl (lv_at hl 0 rfl) ?_
  refine va_new (ci := 8) (fs := [.int 0, .int 0, .null, .null, .null, .int 0, .int 0, .null, .null, .null, .null, .null, .null, .null, .int 0, .int 0, .int 0]) (C := RX8) (T := TX8) (N := 17) hx hb hg inX8 tyX8 tyX8_ok hown (hg _ q_4_56) (hg _ q_4_57) (hg _ q_1_18) hK hP hD hS hA rfl dfX8 (Nat.le_of_ble_eq_true rfl) (Nat.le_of_ble_eq_true rfl) dX9_waysFromNow_25 (fun q_1 H hP hD hS => ?_)
  refine W.widen (k := 1) (n := 17) (Nat.le_of_ble_eq_true rfl) (Nat.le_of_ble_eq_true rfl) ?_
  have hP : va_P V.1 vwCl [(y 3, aI V 4 fy3), (y 9, aI V 900 fy9), (y 19, .inr (4, o4_rrrrrr (y 2) (y 20) (y 21) (y 22) (y 23) (y 24))), (y 20, aI V 2000 fy20), (y 21, aI V 6 fy21), (y 22, aI V 64 fy22), (y 0, .inr (9, o9_rirrrrrrrrnviii (y 1) py0_1 (y 2) (y 10) (y 19) (y 25) (y 26) (y 30) (y 31) (y 32) o11 py0_12 py0_13 py0_14)), (y 2, .inr (1, o1_iiiiiirrrrrrriiiii py2_0 py2_1 py2_2 py2_3 py2_4 py2_5 (y 3) (y 4) (y 5) (y 6) (y 7) (y 8) (y 9) py2_13 py2_14 py2_15 py2_16 py2_17)), (q_1, .inr (8, [.int 0, .int 0, .null, .null, .null, .int 0, .int 0, .null, .null, .null, .null, .null, .null, .null, .int 0, .int 0, .int 0]))] H := hP
  have hD := cpD hP hD
  refine lv_dup hx hb dX9_waysFromNow_28 rfl ?_
  refine lv_aload_n hx hb dX9_waysFromNow_29 rfl (lv_at hl 0 rfl) ?_
  refine va_get (ci := 9) (v := .ref (y 19)) (C := RX9) (T := TX9) (N := 15) hx hb hg inX9 hown hK hP 6 rfl rfl 4 (by decide) (hg _ q_2_40) (fun _ h9 => h9) rfl dX9_waysFromNow_30 ?_
  refine lv_aload_n hx hb dX9_waysFromNow_33 rfl (lv_at hl 0 rfl) ?_
  refine va_get (ci := 9) (v := .ref (y 2)) (C := RX9) (T := TX9) (N := 15) hx hb hg inX9 hown hK hP 6 rfl rfl 2 (by decide) (hg _ q_2_38) (fun _ h9 => h9) rfl dX9_waysFromNow_34 ?_
  refine va_get (ci := 1) (v := .int py2_1) (C := RX1) (T := TX1) (N := 18) hx hb hg inX1 hown hK hP 7 rfl rfl 1 (by decide) (hg _ q_1_41) (fun _ h9 => h9) rfl dX9_waysFromNow_37 ?_
  refine jnV (wr := [(y 3, aI V 4 fy3), (y 9, aI V 900 fy9), (y 19, .inr (4, o4_rrrrrr (y 2) (y 20) (y 21) (y 22) (y 23) (y 24))), (y 20, aI V 2000 fy20), (y 21, aI V 6 fy21), (y 22, aI V 64 fy22), (y 0, .inr (9, o9_rirrrrrrrrnviii (y 1) py0_1 (y 2) (y 10) (y 19) (y 25) (y 26) (y 30) (y 31) (y 32) o11 py0_12 py0_13 py0_14)), (y 2, .inr (1, o1_iiiiiirrrrrrriiiii py2_0 py2_1 py2_2 py2_3 py2_4 py2_5 (y 3) (y 4) (y 5) (y 6) (y 7) (y 8) (y 9) py2_13 py2_14 py2_15 py2_16 py2_17))]) (rnI (rest := [.ref q_1, .ref (y 0)]) ⟨hx, hb, hml, hown, hg⟩ (k_X8_init_0 l V y py2_1 q_1 bpy2_1) mt_X8_init q_4_58 ⟨Nat.le_of_ble_eq_true rfl, Nat.le_of_ble_eq_true rfl⟩ hK hP hD hS hA hE [8] rfl rfl rfl hl.1 rfl (Nat.le_of_ble_eq_true rfl) dX9_waysFromNow_40 ⟨Nat.le_of_ble_eq_true rfl, Nat.le_of_ble_eq_true rfl⟩) hP hD hS hA [8] [0, 1, 2, 3, 4, 5, 6, 7] rfl rfl rfl (by decide) (fun  w H locs hw hP hD hS => ?_)
  refine W.widen (k := 10) (n := 46481) (Nat.le_of_ble_eq_true rfl) (Nat.le_of_ble_eq_true rfl) ?_
  obtain ⟨n, L, Yw, wa_2, wb_3, v_4, v_5, v_6, v_7, v_8, v_9, f_10, f_11, f_12, f_13, f_14, f_15, f_16, f_17, f_18, hn, hL, bv_4, bv_5, bv_6, bv_7, bv_8, bv_9, tf_10, tf_13, tf_14, tf_15, tf_16, eW, g_19, g_20, g_21, g_22, rfl⟩ := hw
  have hP : va_P V.1 vwCl [(y 3, aI V 4 fy3), (y 9, aI V 900 fy9), (y 19, .inr (4, o4_rrrrrr (y 2) (y 20) (y 21) (y 22) (y 23) (y 24))), (y 20, aI V 2000 fy20), (y 21, aI V 6 fy21), (y 22, aI V 64 fy22), (y 0, .inr (9, o9_rirrrrrrrrnviii (y 1) py0_1 (y 2) (y 10) (y 19) (y 25) (y 26) (y 30) (y 31) (y 32) o11 py0_12 py0_13 py0_14)), (y 2, .inr (1, o1_iiiiiirrrrrrriiiii py2_0 py2_1 py2_2 py2_3 py2_4 py2_5 (y 3) (y 4) (y 5) (y 6) (y 7) (y 8) (y 9) py2_13 py2_14 py2_15 py2_16 py2_17)), (Yw 0, .inr (8, o8_iirrriirrrrrrriii v_4 (nI n) (Yw 1) (Yw 2) wa_2 v_5 v_6 (y 19) (Yw 4) (Yw 5) (Yw 6) (Yw 7) (Yw 8) wb_3 v_7 v_8 v_9)), (Yw 1, aI V n f_10), (Yw 2, aI V n f_11), (wa_2, aI V n f_12), (Yw 4, aI V L f_13), (Yw 5, aI V n f_14), (Yw 6, aI V (n * 4) f_15), (Yw 7, aI V n f_16), (Yw 8, aI V 4 f_17), (wb_3, aI V n f_18)] H := hP
  have hD := cpD hP hD
  rw [← eW]
  refine va_put (ci := 9) (v := .ref (Yw 0)) (ty := (.object "BeaconDelay$Ways")) (C := RX9) (T := TX9) (N := 15) hx hb hg inX9 tyX9 tyX9_ok nmX9 hown hK hP hD hS 6 rfl rfl 10 (by decide) (hg _ q_2_46) (fun _ h9 => h9) rfl (by decide +kernel) rfl rfl (Nat.le_of_ble_eq_true rfl) dX9_waysFromNow_43 (fun H locs hP hD hS => ?_)
  have hP : va_P V.1 vwCl [(y 3, aI V 4 fy3), (y 9, aI V 900 fy9), (y 19, .inr (4, o4_rrrrrr (y 2) (y 20) (y 21) (y 22) (y 23) (y 24))), (y 20, aI V 2000 fy20), (y 21, aI V 6 fy21), (y 22, aI V 64 fy22), (y 0, .inr (9, o9_rirrrrrrrrrviii (y 1) py0_1 (y 2) (y 10) (y 19) (y 25) (y 26) (y 30) (y 31) (y 32) (Yw 0) o11 py0_12 py0_13 py0_14)), (y 2, .inr (1, o1_iiiiiirrrrrrriiiii py2_0 py2_1 py2_2 py2_3 py2_4 py2_5 (y 3) (y 4) (y 5) (y 6) (y 7) (y 8) (y 9) py2_13 py2_14 py2_15 py2_16 py2_17)), (Yw 0, .inr (8, o8_iirrriirrrrrrriii v_4 (nI n) (Yw 1) (Yw 2) wa_2 v_5 v_6 (y 19) (Yw 4) (Yw 5) (Yw 6) (Yw 7) (Yw 8) wb_3 v_7 v_8 v_9)), (Yw 1, aI V n f_10), (Yw 2, aI V n f_11), (wa_2, aI V n f_12), (Yw 4, aI V L f_13), (Yw 5, aI V n f_14), (Yw 6, aI V (n * 4) f_15), (Yw 7, aI V n f_16), (Yw 8, aI V 4 f_17), (wb_3, aI V n f_18)] H := hP
  have hD := cpD hP hD
  refine lv_aload_n hx hb dX9_waysFromNow_46 rfl (lv_at hl 0 rfl) ?_
  refine va_get (ci := 9) (v := .ref (Yw 0)) (C := RX9) (T := TX9) (N := 15) hx hb hg inX9 hown hK hP 6 rfl rfl 10 (by decide) (hg _ q_2_46) (fun _ h9 => h9) rfl dX9_waysFromNow_47 ?_
  refine lv_aload_n hx hb dX9_waysFromNow_50 rfl (lv_at hl 0 rfl) ?_
  refine va_get (ci := 9) (v := .ref (y 2)) (C := RX9) (T := TX9) (N := 15) hx hb hg inX9 hown hK hP 6 rfl rfl 2 (by decide) (hg _ q_2_38) (fun _ h9 => h9) rfl dX9_waysFromNow_51 ?_
  refine va_get (ci := 1) (v := .int py2_1) (C := RX1) (T := TX1) (N := 18) hx hb hg inX1 hown hK hP 7 rfl rfl 1 (by decide) (hg _ q_1_41) (fun _ h9 => h9) rfl dX9_waysFromNow_54 ?_
  refine lv_aload_n hx hb dX9_waysFromNow_57 rfl (lv_at hl 0 rfl) ?_
  refine va_get (ci := 9) (v := .int py0_12) (C := RX9) (T := TX9) (N := 15) hx hb hg inX9 hown hK hP 6 rfl rfl 12 (by decide) (hg _ q_2_48) (fun _ h9 => h9) rfl dX9_waysFromNow_58 ?_
  refine lv_aload_n hx hb dX9_waysFromNow_61 rfl (lv_at hl 0 rfl) ?_
  refine va_get (ci := 9) (v := .int py0_13) (C := RX9) (T := TX9) (N := 15) hx hb hg inX9 hown hK hP 6 rfl rfl 13 (by decide) (hg _ q_2_49) (fun _ h9 => h9) rfl dX9_waysFromNow_62 ?_
  refine jnV (wr := [(y 3, aI V 4 fy3), (y 9, aI V 900 fy9), (y 19, .inr (4, o4_rrrrrr (y 2) (y 20) (y 21) (y 22) (y 23) (y 24))), (y 20, aI V 2000 fy20), (y 21, aI V 6 fy21), (y 22, aI V 64 fy22), (y 0, .inr (9, o9_rirrrrrrrrrviii (y 1) py0_1 (y 2) (y 10) (y 19) (y 25) (y 26) (y 30) (y 31) (y 32) (Yw 0) o11 py0_12 py0_13 py0_14)), (y 2, .inr (1, o1_iiiiiirrrrrrriiiii py2_0 py2_1 py2_2 py2_3 py2_4 py2_5 (y 3) (y 4) (y 5) (y 6) (y 7) (y 8) (y 9) py2_13 py2_14 py2_15 py2_16 py2_17)), (wa_2, aI V n f_12), (Yw 7, aI V n f_16), (Yw 8, aI V 4 f_17), (wb_3, aI V n f_18)]) (rnV (rest := []) ⟨hx, hb, hml, hown, hg⟩ (k_X8_begin_0 l V n L Yw y py2_1 py0_12 py0_13 v_4 wa_2 v_5 v_6 wb_3 v_7 v_8 v_9 f_10 f_11 f_13 f_14 f_15 hn hL bpy2_1 bpy0_12 bpy0_13 bv_4 bv_5 bv_6 bv_7 bv_8 bv_9 tf_10 tf_13 tf_14 tf_15 g_19 g_20 g_21) mt_X8_begin q_4_126 ⟨Nat.le_of_ble_eq_true rfl, Nat.le_of_ble_eq_true rfl⟩ hK hP hD hS hA hE [8, 9, 10, 12, 13, 14] rfl rfl 8 rfl rfl rfl rfl hl.1 rfl (Nat.le_of_ble_eq_true rfl) dX9_waysFromNow_65 ⟨Nat.le_of_ble_eq_true rfl, Nat.le_of_ble_eq_true rfl⟩) hP hD hS hA [8, 9, 10, 12, 13, 14] [0, 1, 2, 3, 4, 5, 6, 7, 11, 15, 16, 17] rfl rfl rfl (by decide) (fun  w H locs hw hP hD hS => ?_)
  obtain ⟨v_23, v_24, v_25, v_26, v_27, f_28, f_29, f_30, f_31, bv_23, bv_24, bv_25, bv_26, bv_27, tf_28, tf_30, tf_31, g_32, g_33, g_34, rfl⟩ := hw
  have hP : va_P V.1 vwCl [(y 3, aI V 4 fy3), (y 9, aI V 900 fy9), (y 19, .inr (4, o4_rrrrrr (y 2) (y 20) (y 21) (y 22) (y 23) (y 24))), (y 20, aI V 2000 fy20), (y 21, aI V 6 fy21), (y 22, aI V 64 fy22), (y 0, .inr (9, o9_rirrrrrrrrrviii (y 1) py0_1 (y 2) (y 10) (y 19) (y 25) (y 26) (y 30) (y 31) (y 32) (Yw 0) o11 py0_12 py0_13 py0_14)), (y 2, .inr (1, o1_iiiiiirrrrrrriiiii py2_0 py2_1 py2_2 py2_3 py2_4 py2_5 (y 3) (y 4) (y 5) (y 6) (y 7) (y 8) (y 9) py2_13 py2_14 py2_15 py2_16 py2_17)), (wa_2, aI V n f_12), (Yw 7, aI V n f_16), (Yw 8, aI V 4 f_17), (wb_3, aI V n f_18), (Yw 0, .inr (8, o8_iirrriirrrrrrriii v_4 (nI n) (Yw 1) (Yw 2) wa_2 v_23 v_24 (y 19) (Yw 4) (Yw 5) (Yw 6) (Yw 7) (Yw 8) wb_3 v_25 v_26 v_27)), (Yw 1, aI V n f_28), (Yw 2, aI V n f_29), (Yw 4, aI V L f_30), (Yw 5, aI V n f_31), (Yw 6, aI V (n * 4) f_15)] H := hP
  have hD := cpD hP hD
  refine lv_aload_n hx hb dX9_waysFromNow_68 rfl (lv_at hl 0 rfl) ?_
  refine va_get (ci := 9) (v := .ref (Yw 0)) (C := RX9) (T := TX9) (N := 15) hx hb hg inX9 hown hK hP 6 rfl rfl 10 (by decide) (hg _ q_2_46) (fun _ h9 => h9) rfl dX9_waysFromNow_69 ?_
  refine lv_iload_n hx hb dX9_waysFromNow_72 rfl (lv_at hl 1 rfl) ?_
  refine jnV (wr := [(y 0, .inr (9, o9_rirrrrrrrrrviii (y 1) py0_1 (y 2) (y 10) (y 19) (y 25) (y 26) (y 30) (y 31) (y 32) (Yw 0) o11 py0_12 py0_13 py0_14)), (wa_2, aI V n f_12), (Yw 7, aI V n f_16), (wb_3, aI V n f_18)]) (rnV (rest := []) ⟨hx, hb, hml, hown, hg⟩ (k_X8_reachTo_0 l V n L Yw y D9 a1 py2_0 py2_1 py2_2 py2_3 py2_4 py2_5 py2_13 py2_14 py2_15 py2_16 py2_17 fy3 fy9 fy20 fy21 fy22 v_4 wa_2 v_23 v_24 wb_3 v_25 v_26 v_27 f_28 f_29 f_30 f_31 f_15 f_17 hn hL bpy2_1 bpy2_2 bpy2_3 bpy2_4 bpy2_5 bpy2_13 bpy2_14 bpy2_15 bpy2_16 bpy2_17 tfy20 bv_4 bv_23 bv_24 bv_25 bv_26 bv_27 tf_28 tf_30 tf_31 tf_15 g_32 g_33 g_34 hL9 hK9) mt_X8_reachTo q_4_136 ⟨Nat.le_of_ble_eq_true rfl, Nat.le_of_ble_eq_true rfl⟩ hK hP hD hS hA hE [7, 0, 1, 2, 3, 4, 5, 12, 13, 14, 15, 16, 17, 10] rfl rfl 12 rfl rfl rfl rfl hl.1 rfl (Nat.le_of_ble_eq_true rfl) dX9_waysFromNow_73 ⟨Nat.le_of_ble_eq_true rfl, Nat.le_of_ble_eq_true rfl⟩) hP hD hS hA [7, 0, 1, 2, 3, 4, 5, 12, 13, 14, 15, 16, 17, 10] [6, 8, 9, 11] rfl rfl rfl (by decide) (fun  w H locs hw hP hD hS => ?_)
  obtain ⟨f_35, f_36, f_37, v_38, v_39, f_40, f_41, f_42, f_43, f_44, f_45, tf_35, bv_38, bv_39, tf_40, tf_42, tf_43, tf_44, g_46, g_47, g_48, g_49, kn_50, rfl⟩ := hw
  have hP : va_P V.1 vwCl [(y 0, .inr (9, o9_rirrrrrrrrrviii (y 1) py0_1 (y 2) (y 10) (y 19) (y 25) (y 26) (y 30) (y 31) (y 32) (Yw 0) o11 py0_12 py0_13 py0_14)), (wa_2, aI V n f_12), (Yw 7, aI V n f_16), (wb_3, aI V n f_18), (y 2, .inr (1, o1_iiiiiirrrrrrriiiii py2_0 py2_1 py2_2 py2_3 py2_4 py2_5 (y 3) (y 4) (y 5) (y 6) (y 7) (y 8) (y 9) py2_13 py2_14 py2_15 py2_16 py2_17)), (y 3, aI V 4 fy3), (y 9, aI V 900 fy9), (y 19, .inr (4, o4_rrrrrr (y 2) (y 20) (y 21) (y 22) (y 23) (y 24))), (y 20, aI V 2000 f_35), (y 21, aI V 6 f_36), (y 22, aI V 64 f_37), (Yw 0, .inr (8, o8_iirrriirrrrrrriii v_4 (nI n) (Yw 1) (Yw 2) wa_2 v_38 v_24 (y 19) (Yw 4) (Yw 5) (Yw 6) (Yw 7) (Yw 8) wb_3 v_25 v_26 v_39)), (Yw 1, aI V n f_40), (Yw 2, aI V n f_41), (Yw 4, aI V L f_42), (Yw 5, aI V n f_43), (Yw 6, aI V (n * 4) f_44), (Yw 8, aI V 4 f_45)] H := hP
  have hD := cpD hP hD
  refine lv_aload_n hx hb dX9_waysFromNow_76 rfl (lv_at hl 0 rfl) ?_
  refine va_get (ci := 9) (v := .ref (Yw 0)) (C := RX9) (T := TX9) (N := 15) hx hb hg inX9 hown hK hP 0 rfl rfl 10 (by decide) (hg _ q_2_46) (fun _ h9 => h9) rfl dX9_waysFromNow_77 ?_
  have hP := subP (ws' := [(y 3, aI V 4 fy3), (y 9, aI V 900 fy9), (y 19, .inr (4, o4_rrrrrr (y 2) (y 20) (y 21) (y 22) (y 23) (y 24))), (y 20, aI V 2000 f_35), (y 21, aI V 6 f_36), (y 22, aI V 64 f_37), (y 0, .inr (9, o9_rirrrrrrrrrviii (y 1) py0_1 (y 2) (y 10) (y 19) (y 25) (y 26) (y 30) (y 31) (y 32) (Yw 0) o11 py0_12 py0_13 py0_14)), (y 2, .inr (1, o1_iiiiiirrrrrrriiiii py2_0 py2_1 py2_2 py2_3 py2_4 py2_5 (y 3) (y 4) (y 5) (y 6) (y 7) (y 8) (y 9) py2_13 py2_14 py2_15 py2_16 py2_17)), (wa_2, aI V n f_12), (Yw 7, aI V n f_16), (wb_3, aI V n f_18), (Yw 0, .inr (8, o8_iirrriirrrrrrriii v_4 (nI n) (Yw 1) (Yw 2) wa_2 v_38 v_24 (y 19) (Yw 4) (Yw 5) (Yw 6) (Yw 7) (Yw 8) wb_3 v_25 v_26 v_39)), (Yw 1, aI V n f_40), (Yw 2, aI V n f_41), (Yw 4, aI V L f_42), (Yw 5, aI V n f_43), (Yw 6, aI V (n * 4) f_44), (Yw 8, aI V 4 f_45)]) hP [5, 6, 7, 8, 9, 10, 0, 4, 1, 2, 3, 11, 12, 13, 14, 15, 16, 17] rfl
  have hD := subD hP hD [5, 6, 7, 8, 9, 10, 0, 4, 1, 2, 3, 11, 12, 13, 14, 15, 16, 17] rfl rfl
  exact fiR (Or.inl ⟨_, rfl⟩) hx hb hr hlk hK (subP (ws' := [(y 3, aI V 4 fy3), (y 9, aI V 900 fy9), (y 19, .inr (4, o4_rrrrrr (y 2) (y 20) (y 21) (y 22) (y 23) (y 24))), (y 20, aI V 2000 f_35), (y 21, aI V 6 f_36), (y 22, aI V 64 f_37), (y 0, .inr (9, o9_rirrrrrrrrrviii (y 1) py0_1 (y 2) (y 10) (y 19) (y 25) (y 26) (y 30) (y 31) (y 32) (Yw 0) o11 py0_12 py0_13 py0_14)), (y 2, .inr (1, o1_iiiiiirrrrrrriiiii py2_0 py2_1 py2_2 py2_3 py2_4 py2_5 (y 3) (y 4) (y 5) (y 6) (y 7) (y 8) (y 9) py2_13 py2_14 py2_15 py2_16 py2_17)), (Yw 0, .inr (8, o8_iirrriirrrrrrriii v_4 (nI n) (Yw 1) (Yw 2) wa_2 v_38 v_24 (y 19) (Yw 4) (Yw 5) (Yw 6) (Yw 7) (Yw 8) wb_3 v_25 v_26 v_39)), (Yw 1, aI V n f_40), (Yw 2, aI V n f_41), (wa_2, aI V n f_12), (Yw 4, aI V L f_42), (Yw 5, aI V n f_43), (Yw 6, aI V (n * 4) f_44), (Yw 7, aI V n f_16), (Yw 8, aI V 4 f_45), (wb_3, aI V n f_18)]) hP [0, 1, 2, 3, 4, 5, 6, 7, 11, 12, 13, 8, 14, 15, 16, 9, 17, 10] rfl) (hD.sub [0, 1, 2, 3, 4, 5, 6, 7, 11, 12, 13, 8, 14, 15, 16, 9, 17, 10] rfl rfl) hS dX9_waysFromNow_80 (Nat.le_of_ble_eq_true rfl) (Nat.le_of_ble_eq_true rfl) (⟨n, L, Yw, wa_2, wb_3, f_35, f_36, f_37, v_4, v_38, v_24, v_25, v_26, v_39, f_40, f_41, f_12, f_42, f_43, f_44, f_16, f_45, f_18, hn, hL, tf_35, bv_4, bv_38, bv_24, bv_25, bv_26, bv_39, tf_40, tf_42, tf_43, tf_44, tf_16, rfl, g_46, g_47, g_48, g_49, g_22, kn_50, rfl⟩)
set_option maxHeartbeats 4000000 in
set_option maxRecDepth 100000 in
theorem k_X9_soonest_2 (l : Launch) (V : GV) (y : Nat → Nat) (D9 : Nat → Int32) (a1 : Int32) (a2 : Int32) (py0_1 : Int32) (o11 : Value) (py0_12 : Int32) (py0_13 : Int32) (py0_14 : Int32) (py2_0 : Int32) (py2_1 : Int32) (py2_2 : Int32) (py2_3 : Int32) (py2_4 : Int32) (py2_5 : Int32) (py2_13 : Int32) (py2_14 : Int32) (py2_15 : Int32) (py2_16 : Int32) (py2_17 : Int32) (fy3 : Nat → Int32) (fy9 : Nat → Int32) (fy20 : Nat → Int32) (fy21 : Nat → Int32) (fy22 : Nat → Int32) (bpy0_1 : iv 0 900 py0_1) (bpy0_12 : iv 0 9999 py0_12) (bpy0_13 : iv 0 9 py0_13) (bpy2_1 : iv 0 4 py2_1) (bpy2_2 : iv 0 4 py2_2) (bpy2_3 : iv 0 8 py2_3) (bpy2_4 : iv 0 9999 py2_4) (bpy2_5 : iv 0 9 py2_5) (bpy2_13 : iv 0 900 py2_13) (bpy2_14 : iv 0 900 py2_14) (bpy2_15 : iv 0 900 py2_15) (bpy2_16 : iv 0 900 py2_16) (bpy2_17 : iv 0 900 py2_17) (tfy20 : ∀ j, iv 0 10 (fy20 j)) (hf0 : 0 ≤ (a1 : Int32).toInt) (hf1 : (a1 : Int32).toInt < (py2_1 : Int32).toInt) (hf2 : 0 ≤ (a2 : Int32).toInt) (hf3 : (a2 : Int32).toInt ≤ 4) (hL9 : LW D9 fy3 fy9 py2_14 py2_15 py2_16 py2_17) (hK9 : KN D9 fy20) : Ct l V yX9_soonest (.code yX9_soonest cX9_soonest 5 (some .int)) 8 [.ref (y 0), .int a1, .int a2] [(y 0, .inr (9, o9_rirrrrrrrrnviii (y 1) py0_1 (y 2) (y 10) (y 19) (y 25) (y 26) (y 30) (y 31) (y 32) o11 py0_12 py0_13 py0_14)), (y 2, .inr (1, o1_iiiiiirrrrrrriiiii py2_0 py2_1 py2_2 py2_3 py2_4 py2_5 (y 3) (y 4) (y 5) (y 6) (y 7) (y 8) (y 9) py2_13 py2_14 py2_15 py2_16 py2_17)), (y 3, aI V 4 fy3), (y 9, aI V 900 fy9), (y 19, .inr (4, o4_rrrrrr (y 2) (y 20) (y 21) (y 22) (y 23) (y 24))), (y 20, aI V 2000 fy20), (y 21, aI V 6 fy21), (y 22, aI V 64 fy22)] 10 46481 (QI V (fun (r : Int32) (w : va_W) => ∃ (n : Nat) (L : Nat) (Yw : Nat → Nat) (wa : Nat) (wb : Nat) (g0 : Nat → Int32) (g1 : Nat → Int32) (g2 : Nat → Int32) (ww0 : Int32) (ww5 : Int32) (ww6 : Int32) (ww14 : Int32) (ww15 : Int32) (ww16 : Int32) (wew1 : Nat → Int32) (wew2 : Nat → Int32) (wew3 : Nat → Int32) (wew4 : Nat → Int32) (wew5 : Nat → Int32) (wew6 : Nat → Int32) (wew7 : Nat → Int32) (wew8 : Nat → Int32) (wew9 : Nat → Int32), (1 ≤ n ∧ n ≤ 3646) ∧ (1 ≤ L ∧ L ≤ 10000) ∧ (∀ j, iv 0 10 (g0 j)) ∧ iv 0 4 ww0 ∧ iv 0 ((n : Int)) ww5 ∧ iv 0 4 ww6 ∧ iv 0 4 ww14 ∧ iv 0 9 ww15 ∧ iv 0 ((n : Int)) ww16 ∧ (∀ j, iv 0 ((L : Int) - 1) (wew1 j)) ∧ (∀ j, iv 0 ((n : Int)) (wew4 j)) ∧ (∀ j, iv 0 (4 * (n : Int) - 1) (wew5 j)) ∧ (∀ j, iv 0 ((n : Int) - 1) (wew6 j)) ∧ (∀ j, iv 0 ((n : Int) - 1) (wew7 j)) ∧ (WA ww5 wew4 wew1) ∧ (WB ww16 ww6 ww5 wew6) ∧ (WC ww5 wew2) ∧ (ww0 = py2_1) ∧ KN D9 g0 ∧ w = [(y 0, .inr (9, o9_rirrrrrrrrrviii (y 1) py0_1 (y 2) (y 10) (y 19) (y 25) (y 26) (y 30) (y 31) (y 32) (Yw 0) o11 py0_12 py0_13 py0_14)), (y 2, .inr (1, o1_iiiiiirrrrrrriiiii py2_0 py2_1 py2_2 py2_3 py2_4 py2_5 (y 3) (y 4) (y 5) (y 6) (y 7) (y 8) (y 9) py2_13 py2_14 py2_15 py2_16 py2_17)), (y 3, aI V 4 fy3), (y 9, aI V 900 fy9), (y 19, .inr (4, o4_rrrrrr (y 2) (y 20) (y 21) (y 22) (y 23) (y 24))), (y 20, aI V 2000 g0), (y 21, aI V 6 g1), (y 22, aI V 64 g2), (Yw 0, .inr (8, o8_iirrriirrrrrrriii ww0 (nI n) (Yw 1) (Yw 2) wa ww5 ww6 (y 19) (Yw 4) (Yw 5) (Yw 6) (Yw 7) (Yw 8) wb ww14 ww15 ww16)), (Yw 1, aI V n wew1), (Yw 2, aI V n wew2), (wa, aI V n wew3), (Yw 4, aI V L wew4), (Yw 5, aI V n wew5), (Yw 6, aI V (n * 4) wew6), (Yw 7, aI V n wew7), (Yw 8, aI V 4 wew8), (wb, aI V n wew9)])) := by
  refine Ct.of (by decide) (Nat.le_of_ble_eq_true rfl) (fun p e s m below meth c A ls hx hb hr hml hown hlk hnm hg hP hK hD hE hA hS hl => ?_)
  have hl : lv_has ls 5 [(0, .ref (y 0)), (1, .int a1), (2, .int a2)] := hl
  refine lv_aload_n hx hb dX9_soonest_0 rfl (lv_at hl 0 rfl) ?_
  refine lv_iload_n hx hb dX9_soonest_1 rfl (lv_at hl 1 rfl) ?_
  refine jnI (wr := [(y 3, aI V 4 fy3), (y 9, aI V 900 fy9), (y 19, .inr (4, o4_rrrrrr (y 2) (y 20) (y 21) (y 22) (y 23) (y 24))), (y 20, aI V 2000 fy20), (y 21, aI V 6 fy21), (y 22, aI V 64 fy22)]) (rnV (rest := []) ⟨hx, hb, hml, hown, hg⟩ (k_X9_isHill_0 l V y a1 py0_1 (.null) o11 py0_12 py0_13 py0_14 py2_0 py2_1 py2_2 py2_3 py2_4 py2_5 py2_13 py2_14 py2_15 py2_16 py2_17 bpy0_1 bpy0_12 bpy0_13 bpy2_1 bpy2_2 bpy2_3 bpy2_4 bpy2_5 bpy2_13 bpy2_14 bpy2_15 bpy2_16 bpy2_17) mt_X9_isHill q_3_122 ⟨Nat.le_of_ble_eq_true rfl, Nat.le_of_ble_eq_true rfl⟩ hK hP hD hS hA hE [0, 1] rfl rfl 0 rfl rfl rfl rfl hl.1 rfl (Nat.le_of_ble_eq_true rfl) dX9_soonest_2 ⟨Nat.le_of_ble_eq_true rfl, Nat.le_of_ble_eq_true rfl⟩) hP hD hS hA [0, 1] [2, 3, 4, 5, 6, 7] rfl rfl rfl (by decide) (fun r_1 w H locs hw hP hD hS => ?_)
  rcases hw with ⟨c_2, rfl, et_3, rfl⟩ | ⟨c_4, c_5, rfl, et_6, rfl⟩ | ⟨c_7, c_8, rfl, et_9, rfl⟩
  · have hP : va_P V.1 vwCl [(y 3, aI V 4 fy3), (y 9, aI V 900 fy9), (y 19, .inr (4, o4_rrrrrr (y 2) (y 20) (y 21) (y 22) (y 23) (y 24))), (y 20, aI V 2000 fy20), (y 21, aI V 6 fy21), (y 22, aI V 64 fy22), (y 0, .inr (9, o9_rirrrrrrrrnviii (y 1) py0_1 (y 2) (y 10) (y 19) (y 25) (y 26) (y 30) (y 31) (y 32) o11 py0_12 py0_13 py0_14)), (y 2, .inr (1, o1_iiiiiirrrrrrriiiii py2_0 py2_1 py2_2 py2_3 py2_4 py2_5 (y 3) (y 4) (y 5) (y 6) (y 7) (y 8) (y 9) py2_13 py2_14 py2_15 py2_16 py2_17))] H := hP
    have hD := cpD hP hD
    have b_10 : iv (-2147483648) (-1) a1 := iv_l1 c_2 (iv_top a1) (iv_c (0 : Int32) (a := 0) (b := 0) (by decide)) (by first | decide | omega)
    refine lv_if_ne (tgt := 11) hx hb dX9_soonest_5 (by decide) (fun c_12 => absurd c_12 (by decide)) (fun _ => ?_)
    refine lv_bipush (v := (-2)) hx hb dX9_soonest_8 (by decide) ?_
    have z_0 := Int32.lt_iff_toInt_lt.mp c_2
    have k_0 : (0 : Int32).toInt = 0 := (by decide)
    exfalso
    have g_0 := hf0
    have g_1 := hf1
    have g_2 := hf2
    have g_3 := hf3
    omega
  · have hP : va_P V.1 vwCl [(y 3, aI V 4 fy3), (y 9, aI V 900 fy9), (y 19, .inr (4, o4_rrrrrr (y 2) (y 20) (y 21) (y 22) (y 23) (y 24))), (y 20, aI V 2000 fy20), (y 21, aI V 6 fy21), (y 22, aI V 64 fy22), (y 0, .inr (9, o9_rirrrrrrrrnviii (y 1) py0_1 (y 2) (y 10) (y 19) (y 25) (y 26) (y 30) (y 31) (y 32) o11 py0_12 py0_13 py0_14)), (y 2, .inr (1, o1_iiiiiirrrrrrriiiii py2_0 py2_1 py2_2 py2_3 py2_4 py2_5 (y 3) (y 4) (y 5) (y 6) (y 7) (y 8) (y 9) py2_13 py2_14 py2_15 py2_16 py2_17))] H := hP
    have hD := cpD hP hD
    have b_13 : iv 0 2147483647 a1 := iv_e2 (Int32.not_lt.mp c_4) (iv_c (0 : Int32) (a := 0) (b := 0) (by decide)) (iv_top a1) (by first | decide | omega)
    refine lv_if_ne (tgt := 11) hx hb dX9_soonest_5 (by decide) (fun c_15 => absurd c_15 (by decide)) (fun _ => ?_)
    refine lv_bipush (v := (-2)) hx hb dX9_soonest_8 (by decide) ?_
    have z_0 := Int32.le_iff_toInt_le.mp (Int32.not_lt.mp c_4)
    have z_1 := Int32.le_iff_toInt_le.mp c_5
    have k_0 : (0 : Int32).toInt = 0 := (by decide)
    exfalso
    have g_0 := hf0
    have g_1 := hf1
    have g_2 := hf2
    have g_3 := hf3
    omega
  · have hP : va_P V.1 vwCl [(y 3, aI V 4 fy3), (y 9, aI V 900 fy9), (y 19, .inr (4, o4_rrrrrr (y 2) (y 20) (y 21) (y 22) (y 23) (y 24))), (y 20, aI V 2000 fy20), (y 21, aI V 6 fy21), (y 22, aI V 64 fy22), (y 0, .inr (9, o9_rirrrrrrrrnviii (y 1) py0_1 (y 2) (y 10) (y 19) (y 25) (y 26) (y 30) (y 31) (y 32) o11 py0_12 py0_13 py0_14)), (y 2, .inr (1, o1_iiiiiirrrrrrriiiii py2_0 py2_1 py2_2 py2_3 py2_4 py2_5 (y 3) (y 4) (y 5) (y 6) (y 7) (y 8) (y 9) py2_13 py2_14 py2_15 py2_16 py2_17))] H := hP
    have hD := cpD hP hD
    have b_16 : iv 0 2147483647 a1 := iv_e2 (Int32.not_lt.mp c_7) (iv_c (0 : Int32) (a := 0) (b := 0) (by decide)) (iv_top a1) (by first | decide | omega)
    have b_17 : iv 0 3 a1 := iv_l1 (Int32.not_le.mp c_8) b_16 bpy2_1 (by first | decide | omega)
    have b_18 : iv 1 4 py2_1 := iv_l2 (Int32.not_le.mp c_8) b_16 bpy2_1 (by first | decide | omega)
    refine lv_if_ne (tgt := 11) hx hb dX9_soonest_5 (by decide) (fun _ => ?_) (fun c_20 => absurd c_20 (by decide))
    refine lv_iload_n hx hb dX9_soonest_11 rfl (lv_at hl 2 rfl) ?_
    refine jnI (wr := [(y 3, aI V 4 fy3), (y 9, aI V 900 fy9), (y 19, .inr (4, o4_rrrrrr (y 2) (y 20) (y 21) (y 22) (y 23) (y 24))), (y 20, aI V 2000 fy20), (y 21, aI V 6 fy21), (y 22, aI V 64 fy22), (y 0, .inr (9, o9_rirrrrrrrrnviii (y 1) py0_1 (y 2) (y 10) (y 19) (y 25) (y 26) (y 30) (y 31) (y 32) o11 py0_12 py0_13 py0_14)), (y 2, .inr (1, o1_iiiiiirrrrrrriiiii py2_0 py2_1 py2_2 py2_3 py2_4 py2_5 (y 3) (y 4) (y 5) (y 6) (y 7) (y 8) (y 9) py2_13 py2_14 py2_15 py2_16 py2_17))]) (rnS (rest := []) ⟨hx, hb, hml, hown, hg⟩ (k_X9_isHeight_0 l V a2) mt_X9_isHeight q_4_49 ⟨Nat.le_of_ble_eq_true rfl, Nat.le_of_ble_eq_true rfl⟩ hK hP hD hS hA hE [] rfl rfl rfl hl.1 rfl (Nat.le_of_ble_eq_true rfl) dX9_soonest_12 ⟨Nat.le_of_ble_eq_true rfl, Nat.le_of_ble_eq_true rfl⟩) hP hD hS hA [] [0, 1, 2, 3, 4, 5, 6, 7] rfl rfl rfl (by decide) (fun r_21 w H locs hw hP hD hS => ?_)
    rcases hw with ⟨c_22, rfl, rfl⟩ | ⟨c_23, c_24, rfl, rfl⟩ | ⟨c_25, c_26, rfl, rfl⟩
    · have hP : va_P V.1 vwCl [(y 3, aI V 4 fy3), (y 9, aI V 900 fy9), (y 19, .inr (4, o4_rrrrrr (y 2) (y 20) (y 21) (y 22) (y 23) (y 24))), (y 20, aI V 2000 fy20), (y 21, aI V 6 fy21), (y 22, aI V 64 fy22), (y 0, .inr (9, o9_rirrrrrrrrnviii (y 1) py0_1 (y 2) (y 10) (y 19) (y 25) (y 26) (y 30) (y 31) (y 32) o11 py0_12 py0_13 py0_14)), (y 2, .inr (1, o1_iiiiiirrrrrrriiiii py2_0 py2_1 py2_2 py2_3 py2_4 py2_5 (y 3) (y 4) (y 5) (y 6) (y 7) (y 8) (y 9) py2_13 py2_14 py2_15 py2_16 py2_17))] H := hP
      have hD := cpD hP hD
      have b_27 : iv (-2147483648) (-1) a2 := iv_l1 c_22 (iv_top a2) (iv_c (0 : Int32) (a := 0) (b := 0) (by decide)) (by first | decide | omega)
      refine lv_if_ne (tgt := 21) hx hb dX9_soonest_15 (by decide) (fun c_29 => absurd c_29 (by decide)) (fun _ => ?_)
      refine lv_bipush (v := (-3)) hx hb dX9_soonest_18 (by decide) ?_
      have z_0 := Int32.le_iff_toInt_le.mp (Int32.not_lt.mp c_7)
      have z_1 := Int32.lt_iff_toInt_lt.mp (Int32.not_le.mp c_8)
      have z_2 := Int32.lt_iff_toInt_lt.mp c_22
      have k_0 : (0 : Int32).toInt = 0 := (by decide)
      exfalso
      have g_0 := hf0
      have g_1 := hf1
      have g_2 := hf2
      have g_3 := hf3
      omega
    · have hP : va_P V.1 vwCl [(y 3, aI V 4 fy3), (y 9, aI V 900 fy9), (y 19, .inr (4, o4_rrrrrr (y 2) (y 20) (y 21) (y 22) (y 23) (y 24))), (y 20, aI V 2000 fy20), (y 21, aI V 6 fy21), (y 22, aI V 64 fy22), (y 0, .inr (9, o9_rirrrrrrrrnviii (y 1) py0_1 (y 2) (y 10) (y 19) (y 25) (y 26) (y 30) (y 31) (y 32) o11 py0_12 py0_13 py0_14)), (y 2, .inr (1, o1_iiiiiirrrrrrriiiii py2_0 py2_1 py2_2 py2_3 py2_4 py2_5 (y 3) (y 4) (y 5) (y 6) (y 7) (y 8) (y 9) py2_13 py2_14 py2_15 py2_16 py2_17))] H := hP
      have hD := cpD hP hD
      have b_30 : iv 0 2147483647 a2 := iv_e2 (Int32.not_lt.mp c_23) (iv_c (0 : Int32) (a := 0) (b := 0) (by decide)) (iv_top a2) (by first | decide | omega)
      have b_31 : iv 5 2147483647 a2 := iv_l2 c_24 (iv_c (4 : Int32) (a := 4) (b := 4) (by decide)) b_30 (by first | decide | omega)
      refine lv_if_ne (tgt := 21) hx hb dX9_soonest_15 (by decide) (fun c_33 => absurd c_33 (by decide)) (fun _ => ?_)
      refine lv_bipush (v := (-3)) hx hb dX9_soonest_18 (by decide) ?_
      have z_0 := Int32.le_iff_toInt_le.mp (Int32.not_lt.mp c_7)
      have z_1 := Int32.lt_iff_toInt_lt.mp (Int32.not_le.mp c_8)
      have z_2 := Int32.le_iff_toInt_le.mp (Int32.not_lt.mp c_23)
      have z_3 := Int32.lt_iff_toInt_lt.mp c_24
      have k_0 : (0 : Int32).toInt = 0 := (by decide)
      have k_4 : (4 : Int32).toInt = 4 := (by decide)
      exfalso
      have g_0 := hf0
      have g_1 := hf1
      have g_2 := hf2
      have g_3 := hf3
      omega
    · have hP : va_P V.1 vwCl [(y 3, aI V 4 fy3), (y 9, aI V 900 fy9), (y 19, .inr (4, o4_rrrrrr (y 2) (y 20) (y 21) (y 22) (y 23) (y 24))), (y 20, aI V 2000 fy20), (y 21, aI V 6 fy21), (y 22, aI V 64 fy22), (y 0, .inr (9, o9_rirrrrrrrrnviii (y 1) py0_1 (y 2) (y 10) (y 19) (y 25) (y 26) (y 30) (y 31) (y 32) o11 py0_12 py0_13 py0_14)), (y 2, .inr (1, o1_iiiiiirrrrrrriiiii py2_0 py2_1 py2_2 py2_3 py2_4 py2_5 (y 3) (y 4) (y 5) (y 6) (y 7) (y 8) (y 9) py2_13 py2_14 py2_15 py2_16 py2_17))] H := hP
      have hD := cpD hP hD
      have b_34 : iv 0 2147483647 a2 := iv_e2 (Int32.not_lt.mp c_25) (iv_c (0 : Int32) (a := 0) (b := 0) (by decide)) (iv_top a2) (by first | decide | omega)
      have b_35 : iv 0 4 a2 := iv_e1 (Int32.not_lt.mp c_26) b_34 (iv_c (4 : Int32) (a := 4) (b := 4) (by decide)) (by first | decide | omega)
      refine lv_if_ne (tgt := 21) hx hb dX9_soonest_15 (by decide) (fun _ => ?_) (fun c_37 => absurd c_37 (by decide))
      refine lv_aload_n hx hb dX9_soonest_21 rfl (lv_at hl 0 rfl) ?_
      refine lv_iconst (v := 0) hx hb dX9_soonest_22 (by decide) ?_
      refine jnR (wr := []) (rnV (rest := []) ⟨hx, hb, hml, hown, hg⟩ (k_X9_waysFromNow_1 l V y D9 0 fy3 fy9 fy20 fy21 fy22 py0_1 o11 py0_12 py0_13 py0_14 py2_0 py2_1 py2_2 py2_3 py2_4 py2_5 py2_13 py2_14 py2_15 py2_16 py2_17 tfy20 bpy0_1 bpy0_12 bpy0_13 (iv_w b_18 (by first | decide | omega)) bpy2_2 bpy2_3 bpy2_4 bpy2_5 bpy2_13 bpy2_14 bpy2_15 bpy2_16 bpy2_17 hL9 hK9) mt_X9_waysFromNow q_4_52 ⟨Nat.le_of_ble_eq_true rfl, Nat.le_of_ble_eq_true rfl⟩ hK hP hD hS hA hE [0, 1, 2, 3, 4, 5, 6, 7] rfl rfl 6 rfl rfl rfl rfl hl.1 rfl (Nat.le_of_ble_eq_true rfl) dX9_soonest_23 ⟨Nat.le_of_ble_eq_true rfl, Nat.le_of_ble_eq_true rfl⟩) hP hD hS hA [0, 1, 2, 3, 4, 5, 6, 7] [] rfl rfl rfl (by decide) (fun r_38 w H locs hw hP hD hS => ?_)
      refine W.widen (k := 10) (n := 46481) (Nat.le_of_ble_eq_true rfl) (Nat.le_of_ble_eq_true rfl) ?_
      obtain ⟨n, L, Yw, wa_39, wb_40, f_41, f_42, f_43, v_44, v_45, v_46, v_47, v_48, v_49, f_50, f_51, f_52, f_53, f_54, f_55, f_56, f_57, f_58, hn, hL, tf_41, bv_44, bv_45, bv_46, bv_47, bv_48, bv_49, tf_50, tf_53, tf_54, tf_55, tf_56, eW, g_59, g_60, g_61, g_62, g_63, kn_64, rfl⟩ := hw
      have hP : va_P V.1 vwCl [(y 3, aI V 4 fy3), (y 9, aI V 900 fy9), (y 19, .inr (4, o4_rrrrrr (y 2) (y 20) (y 21) (y 22) (y 23) (y 24))), (y 20, aI V 2000 f_41), (y 21, aI V 6 f_42), (y 22, aI V 64 f_43), (y 0, .inr (9, o9_rirrrrrrrrrviii (y 1) py0_1 (y 2) (y 10) (y 19) (y 25) (y 26) (y 30) (y 31) (y 32) (Yw 0) o11 py0_12 py0_13 py0_14)), (y 2, .inr (1, o1_iiiiiirrrrrrriiiii py2_0 py2_1 py2_2 py2_3 py2_4 py2_5 (y 3) (y 4) (y 5) (y 6) (y 7) (y 8) (y 9) py2_13 py2_14 py2_15 py2_16 py2_17)), (Yw 0, .inr (8, o8_iirrriirrrrrrriii v_44 (nI n) (Yw 1) (Yw 2) wa_39 v_45 v_46 (y 19) (Yw 4) (Yw 5) (Yw 6) (Yw 7) (Yw 8) wb_40 v_47 v_48 v_49)), (Yw 1, aI V n f_50), (Yw 2, aI V n f_51), (wa_39, aI V n f_52), (Yw 4, aI V L f_53), (Yw 5, aI V n f_54), (Yw 6, aI V (n * 4) f_55), (Yw 7, aI V n f_56), (Yw 8, aI V 4 f_57), (wb_40, aI V n f_58)] H := hP
      have hD := cpD hP hD
      rw [← eW]
      refine lv_astore_n (lv' := [(3, .ref (Yw 0)), (0, .ref (y 0)), (1, .int a1), (2, .int a2)]) hx hb dX9_soonest_26 rfl hl (by decide) rfl (fun ls hl => ?_)
      refine lv_aload_n hx hb dX9_soonest_27 rfl (lv_at hl 0 rfl) ?_
      refine lv_iload_n hx hb dX9_soonest_28 rfl (lv_at hl 2 rfl) ?_
      refine lv_iload_n hx hb dX9_soonest_29 rfl (lv_at hl 3 rfl) ?_
      refine jnI (wr := [(y 0, .inr (9, o9_rirrrrrrrrrviii (y 1) py0_1 (y 2) (y 10) (y 19) (y 25) (y 26) (y 30) (y 31) (y 32) (Yw 0) o11 py0_12 py0_13 py0_14)), (wa_39, aI V n f_52), (Yw 7, aI V n f_56), (wb_40, aI V n f_58)]) (rnV (rest := []) ⟨hx, hb, hml, hown, hg⟩ (k_X8_firstWith_0 l V n L Yw y D9 a1 a2 py2_0 py2_1 py2_2 py2_3 py2_4 py2_5 py2_13 py2_14 py2_15 py2_16 py2_17 fy3 fy9 f_41 f_42 f_43 v_44 wa_39 v_45 v_46 wb_40 v_47 v_48 v_49 f_50 f_51 f_53 f_54 f_55 f_57 hn hL b_17 (iv_w b_18 (by first | decide | omega)) bpy2_2 bpy2_3 bpy2_4 bpy2_5 bpy2_13 bpy2_14 bpy2_15 bpy2_16 bpy2_17 tf_41 bv_44 bv_45 bv_46 bv_47 bv_48 bv_49 tf_50 tf_53 tf_54 tf_55 g_59 g_60 g_61 hL9 kn_64) mt_X8_firstWith q_4_145 ⟨Nat.le_of_ble_eq_true rfl, Nat.le_of_ble_eq_true rfl⟩ hK hP hD hS hA hE [7, 0, 1, 2, 3, 4, 5, 8, 9, 10, 12, 13, 14, 16] rfl rfl 8 rfl rfl rfl rfl hl.1 rfl (Nat.le_of_ble_eq_true rfl) dX9_soonest_30 ⟨Nat.le_of_ble_eq_true rfl, Nat.le_of_ble_eq_true rfl⟩) hP hD hS hA [7, 0, 1, 2, 3, 4, 5, 8, 9, 10, 12, 13, 14, 16] [6, 11, 15, 17] rfl rfl rfl (by decide) (fun r_65 w H locs hw hP hD hS => ?_)
      obtain ⟨f_66, f_67, f_68, v_69, v_70, f_71, f_72, f_73, f_74, f_75, f_76, tf_66, bv_69, bv_70, tf_71, tf_73, tf_74, tf_75, br_65, g_77, g_78, g_79, kn_80, rfl⟩ := hw
      have hP : va_P V.1 vwCl [(y 0, .inr (9, o9_rirrrrrrrrrviii (y 1) py0_1 (y 2) (y 10) (y 19) (y 25) (y 26) (y 30) (y 31) (y 32) (Yw 0) o11 py0_12 py0_13 py0_14)), (wa_39, aI V n f_52), (Yw 7, aI V n f_56), (wb_40, aI V n f_58), (y 2, .inr (1, o1_iiiiiirrrrrrriiiii py2_0 py2_1 py2_2 py2_3 py2_4 py2_5 (y 3) (y 4) (y 5) (y 6) (y 7) (y 8) (y 9) py2_13 py2_14 py2_15 py2_16 py2_17)), (y 3, aI V 4 fy3), (y 9, aI V 900 fy9), (y 19, .inr (4, o4_rrrrrr (y 2) (y 20) (y 21) (y 22) (y 23) (y 24))), (y 20, aI V 2000 f_66), (y 21, aI V 6 f_67), (y 22, aI V 64 f_68), (Yw 0, .inr (8, o8_iirrriirrrrrrriii v_44 (nI n) (Yw 1) (Yw 2) wa_39 v_69 v_46 (y 19) (Yw 4) (Yw 5) (Yw 6) (Yw 7) (Yw 8) wb_40 v_47 v_48 v_70)), (Yw 1, aI V n f_71), (Yw 2, aI V n f_72), (Yw 4, aI V L f_73), (Yw 5, aI V n f_74), (Yw 6, aI V (n * 4) f_75), (Yw 8, aI V 4 f_76)] H := hP
      have hD := cpD hP hD
      refine lv_istore (lv' := [(4, .int r_65), (3, .ref (Yw 0)), (0, .ref (y 0)), (1, .int a1), (2, .int a2)]) hx hb dX9_soonest_33 hl (by decide) rfl (fun ls hl => ?_)
      refine lv_iload hx hb dX9_soonest_35 (lv_at hl 0 rfl) ?_
      refine lv_if_ge (tgt := 44) hx hb dX9_soonest_37 (by decide) (fun c_81 => ?_) (fun c_81 => ?_)
      · have b_82 : iv 0 ((n : Int) - 1) r_65 := iv_e2 c_81 (iv_c (0 : Int32) (a := 0) (b := 0) (by decide)) br_65 (by first | decide | omega)
        refine lv_aload_n hx hb dX9_soonest_44 rfl (lv_at hl 1 rfl) ?_
        refine va_get (ci := 8) (v := .ref (Yw 2)) (C := RX8) (T := TX8) (N := 17) hx hb hg inX8 hown hK hP 11 rfl rfl 3 (by decide) (hg _ q_4_73) (fun _ h9 => h9) rfl dX9_soonest_45 ?_
        refine lv_iload hx hb dX9_soonest_48 (lv_at hl 0 rfl) ?_
        refine va_iald hx hb hK hP 13 0 rfl rfl (iv_in b_82 (by first | decide | omega)) dX9_soonest_50 ?_
        refine lv_topi (fun x_83 ex_83 => ?_)
        have hP := subP (ws' := [(y 0, .inr (9, o9_rirrrrrrrrrviii (y 1) py0_1 (y 2) (y 10) (y 19) (y 25) (y 26) (y 30) (y 31) (y 32) (Yw 0) o11 py0_12 py0_13 py0_14)), (y 2, .inr (1, o1_iiiiiirrrrrrriiiii py2_0 py2_1 py2_2 py2_3 py2_4 py2_5 (y 3) (y 4) (y 5) (y 6) (y 7) (y 8) (y 9) py2_13 py2_14 py2_15 py2_16 py2_17)), (y 3, aI V 4 fy3), (y 9, aI V 900 fy9), (y 19, .inr (4, o4_rrrrrr (y 2) (y 20) (y 21) (y 22) (y 23) (y 24))), (y 20, aI V 2000 f_66), (y 21, aI V 6 f_67), (y 22, aI V 64 f_68), (wa_39, aI V n f_52), (Yw 7, aI V n f_56), (wb_40, aI V n f_58), (Yw 0, .inr (8, o8_iirrriirrrrrrriii v_44 (nI n) (Yw 1) (Yw 2) wa_39 v_69 v_46 (y 19) (Yw 4) (Yw 5) (Yw 6) (Yw 7) (Yw 8) wb_40 v_47 v_48 v_70)), (Yw 1, aI V n f_71), (Yw 2, aI V n f_72), (Yw 4, aI V L f_73), (Yw 5, aI V n f_74), (Yw 6, aI V (n * 4) f_75), (Yw 8, aI V 4 f_76)]) hP [0, 4, 5, 6, 7, 8, 9, 10, 1, 2, 3, 11, 12, 13, 14, 15, 16, 17] rfl
        have hD := subD hP hD [0, 4, 5, 6, 7, 8, 9, 10, 1, 2, 3, 11, 12, 13, 14, 15, 16, 17] rfl rfl
        exact fiI hx hb hr hlk hK (subP (ws' := [(y 0, .inr (9, o9_rirrrrrrrrrviii (y 1) py0_1 (y 2) (y 10) (y 19) (y 25) (y 26) (y 30) (y 31) (y 32) (Yw 0) o11 py0_12 py0_13 py0_14)), (y 2, .inr (1, o1_iiiiiirrrrrrriiiii py2_0 py2_1 py2_2 py2_3 py2_4 py2_5 (y 3) (y 4) (y 5) (y 6) (y 7) (y 8) (y 9) py2_13 py2_14 py2_15 py2_16 py2_17)), (y 3, aI V 4 fy3), (y 9, aI V 900 fy9), (y 19, .inr (4, o4_rrrrrr (y 2) (y 20) (y 21) (y 22) (y 23) (y 24))), (y 20, aI V 2000 f_66), (y 21, aI V 6 f_67), (y 22, aI V 64 f_68), (Yw 0, .inr (8, o8_iirrriirrrrrrriii v_44 (nI n) (Yw 1) (Yw 2) wa_39 v_69 v_46 (y 19) (Yw 4) (Yw 5) (Yw 6) (Yw 7) (Yw 8) wb_40 v_47 v_48 v_70)), (Yw 1, aI V n f_71), (Yw 2, aI V n f_72), (wa_39, aI V n f_52), (Yw 4, aI V L f_73), (Yw 5, aI V n f_74), (Yw 6, aI V (n * 4) f_75), (Yw 7, aI V n f_56), (Yw 8, aI V 4 f_76), (wb_40, aI V n f_58)]) hP [0, 1, 2, 3, 4, 5, 6, 7, 11, 12, 13, 8, 14, 15, 16, 9, 17, 10] rfl) (hD.sub [0, 1, 2, 3, 4, 5, 6, 7, 11, 12, 13, 8, 14, 15, 16, 9, 17, 10] rfl rfl) hS dX9_soonest_51 (Nat.le_of_ble_eq_true rfl) (Nat.le_of_ble_eq_true rfl) (⟨n, L, Yw, wa_39, wb_40, f_66, f_67, f_68, v_44, v_69, v_46, v_47, v_48, v_70, f_71, f_72, f_52, f_73, f_74, f_75, f_56, f_76, f_58, hn, hL, tf_66, bv_44, bv_69, bv_46, bv_47, bv_48, bv_70, tf_71, tf_73, tf_74, tf_75, tf_56, g_77, g_78, g_79, g_63, kn_80, rfl⟩)
      · have b_84 : iv (-1) (-1) r_65 := iv_l1 (Int32.not_le.mp c_81) br_65 (iv_c (0 : Int32) (a := 0) (b := 0) (by decide)) (by first | decide | omega)
        refine lv_iconst (v := (-1)) hx hb dX9_soonest_40 (by decide) ?_
        refine lv_goto (tgt := 51) hx hb dX9_soonest_41 (by decide) ?_
        have hP := subP (ws' := [(y 0, .inr (9, o9_rirrrrrrrrrviii (y 1) py0_1 (y 2) (y 10) (y 19) (y 25) (y 26) (y 30) (y 31) (y 32) (Yw 0) o11 py0_12 py0_13 py0_14)), (y 2, .inr (1, o1_iiiiiirrrrrrriiiii py2_0 py2_1 py2_2 py2_3 py2_4 py2_5 (y 3) (y 4) (y 5) (y 6) (y 7) (y 8) (y 9) py2_13 py2_14 py2_15 py2_16 py2_17)), (y 3, aI V 4 fy3), (y 9, aI V 900 fy9), (y 19, .inr (4, o4_rrrrrr (y 2) (y 20) (y 21) (y 22) (y 23) (y 24))), (y 20, aI V 2000 f_66), (y 21, aI V 6 f_67), (y 22, aI V 64 f_68), (wa_39, aI V n f_52), (Yw 7, aI V n f_56), (wb_40, aI V n f_58), (Yw 0, .inr (8, o8_iirrriirrrrrrriii v_44 (nI n) (Yw 1) (Yw 2) wa_39 v_69 v_46 (y 19) (Yw 4) (Yw 5) (Yw 6) (Yw 7) (Yw 8) wb_40 v_47 v_48 v_70)), (Yw 1, aI V n f_71), (Yw 2, aI V n f_72), (Yw 4, aI V L f_73), (Yw 5, aI V n f_74), (Yw 6, aI V (n * 4) f_75), (Yw 8, aI V 4 f_76)]) hP [0, 4, 5, 6, 7, 8, 9, 10, 1, 2, 3, 11, 12, 13, 14, 15, 16, 17] rfl
        have hD := subD hP hD [0, 4, 5, 6, 7, 8, 9, 10, 1, 2, 3, 11, 12, 13, 14, 15, 16, 17] rfl rfl
        exact fiI hx hb hr hlk hK (subP (ws' := [(y 0, .inr (9, o9_rirrrrrrrrrviii (y 1) py0_1 (y 2) (y 10) (y 19) (y 25) (y 26) (y 30) (y 31) (y 32) (Yw 0) o11 py0_12 py0_13 py0_14)), (y 2, .inr (1, o1_iiiiiirrrrrrriiiii py2_0 py2_1 py2_2 py2_3 py2_4 py2_5 (y 3) (y 4) (y 5) (y 6) (y 7) (y 8) (y 9) py2_13 py2_14 py2_15 py2_16 py2_17)), (y 3, aI V 4 fy3), (y 9, aI V 900 fy9), (y 19, .inr (4, o4_rrrrrr (y 2) (y 20) (y 21) (y 22) (y 23) (y 24))), (y 20, aI V 2000 f_66), (y 21, aI V 6 f_67), (y 22, aI V 64 f_68), (Yw 0, .inr (8, o8_iirrriirrrrrrriii v_44 (nI n) (Yw 1) (Yw 2) wa_39 v_69 v_46 (y 19) (Yw 4) (Yw 5) (Yw 6) (Yw 7) (Yw 8) wb_40 v_47 v_48 v_70)), (Yw 1, aI V n f_71), (Yw 2, aI V n f_72), (wa_39, aI V n f_52), (Yw 4, aI V L f_73), (Yw 5, aI V n f_74), (Yw 6, aI V (n * 4) f_75), (Yw 7, aI V n f_56), (Yw 8, aI V 4 f_76), (wb_40, aI V n f_58)]) hP [0, 1, 2, 3, 4, 5, 6, 7, 11, 12, 13, 8, 14, 15, 16, 9, 17, 10] rfl) (hD.sub [0, 1, 2, 3, 4, 5, 6, 7, 11, 12, 13, 8, 14, 15, 16, 9, 17, 10] rfl rfl) hS dX9_soonest_51 (Nat.le_of_ble_eq_true rfl) (Nat.le_of_ble_eq_true rfl) (⟨n, L, Yw, wa_39, wb_40, f_66, f_67, f_68, v_44, v_69, v_46, v_47, v_48, v_70, f_71, f_72, f_52, f_73, f_74, f_75, f_56, f_76, f_58, hn, hL, tf_66, bv_44, bv_69, bv_46, bv_47, bv_48, bv_70, tf_71, tf_73, tf_74, tf_75, tf_56, g_77, g_78, g_79, g_63, kn_80, rfl⟩)
set_option maxHeartbeats 4000000 in
set_option maxRecDepth 100000 in
theorem k_X9_waysFromNow_2 (l : Launch) (V : GV) (n : Nat) (L : Nat) (Yw : Nat → Nat) (y : Nat → Nat) (D9 : Nat → Int32) (a1 : Int32) (fy3 : Nat → Int32) (fy9 : Nat → Int32) (fy20 : Nat → Int32) (fy21 : Nat → Int32) (fy22 : Nat → Int32) (pYw0_0 : Int32) (wa : Nat) (pYw0_5 : Int32) (pYw0_6 : Int32) (wb : Nat) (pYw0_14 : Int32) (pYw0_15 : Int32) (pYw0_16 : Int32) (fYw1 : Nat → Int32) (fYw2 : Nat → Int32) (fwa : Nat → Int32) (fYw4 : Nat → Int32) (fYw5 : Nat → Int32) (fYw6 : Nat → Int32) (fYw7 : Nat → Int32) (fYw8 : Nat → Int32) (fwb : Nat → Int32) (py0_1 : Int32) (o11 : Value) (py0_12 : Int32) (py0_13 : Int32) (py0_14 : Int32) (py2_0 : Int32) (py2_1 : Int32) (py2_2 : Int32) (py2_3 : Int32) (py2_4 : Int32) (py2_5 : Int32) (py2_13 : Int32) (py2_14 : Int32) (py2_15 : Int32) (py2_16 : Int32) (py2_17 : Int32) (hn : 1 ≤ n ∧ n ≤ 3646) (hL : 1 ≤ L ∧ L ≤ 10000) (hq0 : pYw0_0 < py2_1) (tfy20 : ∀ j, iv 0 10 (fy20 j)) (bpYw0_0 : iv 0 4 pYw0_0) (bpYw0_5 : iv 0 ((n : Int)) pYw0_5) (bpYw0_6 : iv 0 4 pYw0_6) (bpYw0_14 : iv 0 4 pYw0_14) (bpYw0_15 : iv 0 9 pYw0_15) (bpYw0_16 : iv 0 ((n : Int)) pYw0_16) (tfYw1 : ∀ j, iv 0 ((L : Int) - 1) (fYw1 j)) (tfYw4 : ∀ j, iv 0 ((n : Int)) (fYw4 j)) (tfYw5 : ∀ j, iv 0 (4 * (n : Int) - 1) (fYw5 j)) (tfYw6 : ∀ j, iv 0 ((n : Int) - 1) (fYw6 j)) (tfYw7 : ∀ j, iv 0 ((n : Int) - 1) (fYw7 j)) (bpy0_1 : iv 0 900 py0_1) (bpy0_12 : iv 0 9999 py0_12) (bpy0_13 : iv 0 9 py0_13) (bpy2_1 : iv 0 4 py2_1) (bpy2_2 : iv 0 4 py2_2) (bpy2_3 : iv 0 8 py2_3) (bpy2_4 : iv 0 9999 py2_4) (bpy2_5 : iv 0 9 py2_5) (bpy2_13 : iv 0 900 py2_13) (bpy2_14 : iv 0 900 py2_14) (bpy2_15 : iv 0 900 py2_15) (bpy2_16 : iv 0 900 py2_16) (bpy2_17 : iv 0 900 py2_17) (hf0 : WA pYw0_5 fYw4 fYw1) (hf1 : WB pYw0_16 pYw0_6 pYw0_5 fYw6) (hf2 : WC pYw0_5 fYw2) (hL9 : LW D9 fy3 fy9 py2_14 py2_15 py2_16 py2_17) (hK9 : KN D9 fy20) : Ct l V yX9_waysFromNow (.code yX9_waysFromNow cX9_waysFromNow 2 (some (.object "BeaconDelay$Ways"))) 7 [.ref (y 0), .int a1] [(y 3, aI V 4 fy3), (y 9, aI V 900 fy9), (y 19, .inr (4, o4_rrrrrr (y 2) (y 20) (y 21) (y 22) (y 23) (y 24))), (y 20, aI V 2000 fy20), (y 21, aI V 6 fy21), (y 22, aI V 64 fy22), (Yw 0, .inr (8, o8_iirrriirrrrrrriii pYw0_0 (nI n) (Yw 1) (Yw 2) wa pYw0_5 pYw0_6 (y 19) (Yw 4) (Yw 5) (Yw 6) (Yw 7) (Yw 8) wb pYw0_14 pYw0_15 pYw0_16)), (Yw 1, aI V n fYw1), (Yw 2, aI V n fYw2), (wa, aI V n fwa), (Yw 4, aI V L fYw4), (Yw 5, aI V n fYw5), (Yw 6, aI V (n * 4) fYw6), (Yw 7, aI V n fYw7), (Yw 8, aI V 4 fYw8), (wb, aI V n fwb), (y 0, .inr (9, o9_rirrrrrrrrrviii (y 1) py0_1 (y 2) (y 10) (y 19) (y 25) (y 26) (y 30) (y 31) (y 32) (Yw 0) o11 py0_12 py0_13 py0_14)), (y 2, .inr (1, o1_iiiiiirrrrrrriiiii py2_0 py2_1 py2_2 py2_3 py2_4 py2_5 (y 3) (y 4) (y 5) (y 6) (y 7) (y 8) (y 9) py2_13 py2_14 py2_15 py2_16 py2_17))] 10 46481 (QR V (fun (r : Nat) (w : va_W) => ∃ (n : Nat) (L : Nat) (Yw : Nat → Nat) (wa : Nat) (wb : Nat) (g0 : Nat → Int32) (g1 : Nat → Int32) (g2 : Nat → Int32) (ww0 : Int32) (ww5 : Int32) (ww6 : Int32) (ww14 : Int32) (ww15 : Int32) (ww16 : Int32) (wew1 : Nat → Int32) (wew2 : Nat → Int32) (wew3 : Nat → Int32) (wew4 : Nat → Int32) (wew5 : Nat → Int32) (wew6 : Nat → Int32) (wew7 : Nat → Int32) (wew8 : Nat → Int32) (wew9 : Nat → Int32), (1 ≤ n ∧ n ≤ 3646) ∧ (1 ≤ L ∧ L ≤ 10000) ∧ (∀ j, iv 0 10 (g0 j)) ∧ iv 0 4 ww0 ∧ iv 0 ((n : Int)) ww5 ∧ iv 0 4 ww6 ∧ iv 0 4 ww14 ∧ iv 0 9 ww15 ∧ iv 0 ((n : Int)) ww16 ∧ (∀ j, iv 0 ((L : Int) - 1) (wew1 j)) ∧ (∀ j, iv 0 ((n : Int)) (wew4 j)) ∧ (∀ j, iv 0 (4 * (n : Int) - 1) (wew5 j)) ∧ (∀ j, iv 0 ((n : Int) - 1) (wew6 j)) ∧ (∀ j, iv 0 ((n : Int) - 1) (wew7 j)) ∧ Yw 0 = r ∧ (WA ww5 wew4 wew1) ∧ (WB ww16 ww6 ww5 wew6) ∧ (WC ww5 wew2) ∧ (4000 ≤ (a1 : Int32).toInt → (ww5 : Int32).toInt ≤ (ww16 : Int32).toInt) ∧ (ww0 = py2_1) ∧ KN D9 g0 ∧ w = [(y 3, aI V 4 fy3), (y 9, aI V 900 fy9), (y 19, .inr (4, o4_rrrrrr (y 2) (y 20) (y 21) (y 22) (y 23) (y 24))), (y 20, aI V 2000 g0), (y 21, aI V 6 g1), (y 22, aI V 64 g2), (y 0, .inr (9, o9_rirrrrrrrrrviii (y 1) py0_1 (y 2) (y 10) (y 19) (y 25) (y 26) (y 30) (y 31) (y 32) (Yw 0) o11 py0_12 py0_13 py0_14)), (y 2, .inr (1, o1_iiiiiirrrrrrriiiii py2_0 py2_1 py2_2 py2_3 py2_4 py2_5 (y 3) (y 4) (y 5) (y 6) (y 7) (y 8) (y 9) py2_13 py2_14 py2_15 py2_16 py2_17)), (Yw 0, .inr (8, o8_iirrriirrrrrrriii ww0 (nI n) (Yw 1) (Yw 2) wa ww5 ww6 (y 19) (Yw 4) (Yw 5) (Yw 6) (Yw 7) (Yw 8) wb ww14 ww15 ww16)), (Yw 1, aI V n wew1), (Yw 2, aI V n wew2), (wa, aI V n wew3), (Yw 4, aI V L wew4), (Yw 5, aI V n wew5), (Yw 6, aI V (n * 4) wew6), (Yw 7, aI V n wew7), (Yw 8, aI V 4 wew8), (wb, aI V n wew9)])) := by
  refine Ct.of (by decide) (Nat.le_of_ble_eq_true rfl) (fun p e s m below meth c A ls hx hb hr hml hown hlk hnm hg hP hK hD hE hA hS hl => ?_)
  have hl : lv_has ls 2 [(0, .ref (y 0)), (1, .int a1)] := hl
  refine lv_aload_n hx hb dX9_waysFromNow_0 rfl (lv_at hl 0 rfl) ?_
  refine va_get (ci := 9) (v := .ref (Yw 0)) (C := RX9) (T := TX9) (N := 15) hx hb hg inX9 hown hK hP 16 rfl rfl 10 (by decide) (hg _ q_2_46) (fun _ h9 => h9) rfl dX9_waysFromNow_1 ?_
  refine lv_ifnull hx hb dX9_waysFromNow_4 ?_
  refine lv_aload_n hx hb dX9_waysFromNow_7 rfl (lv_at hl 0 rfl) ?_
  refine va_get (ci := 9) (v := .ref (Yw 0)) (C := RX9) (T := TX9) (N := 15) hx hb hg inX9 hown hK hP 16 rfl rfl 10 (by decide) (hg _ q_2_46) (fun _ h9 => h9) rfl dX9_waysFromNow_8 ?_
  refine va_get (ci := 8) (v := .int pYw0_0) (C := RX8) (T := TX8) (N := 17) hx hb hg inX8 hown hK hP 6 rfl rfl 0 (by decide) (hg _ q_4_66) (fun _ h9 => h9) rfl dX9_waysFromNow_11 ?_
  refine lv_aload_n hx hb dX9_waysFromNow_14 rfl (lv_at hl 0 rfl) ?_
  refine va_get (ci := 9) (v := .ref (y 2)) (C := RX9) (T := TX9) (N := 15) hx hb hg inX9 hown hK hP 16 rfl rfl 2 (by decide) (hg _ q_2_38) (fun _ h9 => h9) rfl dX9_waysFromNow_15 ?_
  refine va_get (ci := 1) (v := .int py2_1) (C := RX1) (T := TX1) (N := 18) hx hb hg inX1 hown hK hP 17 rfl rfl 1 (by decide) (hg _ q_1_41) (fun _ h9 => h9) rfl dX9_waysFromNow_18 ?_
  refine lv_icmp_ge (tgt := 46) hx hb dX9_waysFromNow_21 (by decide) (fun c_2 => absurd c_2 (Int32.not_le.mpr hq0)) (fun _ => ?_)
  refine lv_aload_n hx hb dX9_waysFromNow_24 rfl (lv_at hl 0 rfl) ?_
  refine va_new (ci := 8) (fs := [.int 0, .int 0, .null, .null, .null, .int 0, .int 0, .null, .null, .null, .null, .null, .null, .null, .int 0, .int 0, .int 0]) (C := RX8) (T := TX8) (N := 17) hx hb hg inX8 tyX8 tyX8_ok hown (hg _ q_4_56) (hg _ q_4_57) (hg _ q_1_18) hK hP hD hS hA rfl dfX8 (Nat.le_of_ble_eq_true rfl) (Nat.le_of_ble_eq_true rfl) dX9_waysFromNow_25 (fun q_3 H hP hD hS => ?_)
  refine W.widen (k := 1) (n := 17) (Nat.le_of_ble_eq_true rfl) (Nat.le_of_ble_eq_true rfl) ?_
  have hP : va_P V.1 vwCl [(y 3, aI V 4 fy3), (y 9, aI V 900 fy9), (y 19, .inr (4, o4_rrrrrr (y 2) (y 20) (y 21) (y 22) (y 23) (y 24))), (y 20, aI V 2000 fy20), (y 21, aI V 6 fy21), (y 22, aI V 64 fy22), (Yw 0, .inr (8, o8_iirrriirrrrrrriii pYw0_0 (nI n) (Yw 1) (Yw 2) wa pYw0_5 pYw0_6 (y 19) (Yw 4) (Yw 5) (Yw 6) (Yw 7) (Yw 8) wb pYw0_14 pYw0_15 pYw0_16)), (Yw 1, aI V n fYw1), (Yw 2, aI V n fYw2), (wa, aI V n fwa), (Yw 4, aI V L fYw4), (Yw 5, aI V n fYw5), (Yw 6, aI V (n * 4) fYw6), (Yw 7, aI V n fYw7), (Yw 8, aI V 4 fYw8), (wb, aI V n fwb), (y 0, .inr (9, o9_rirrrrrrrrrviii (y 1) py0_1 (y 2) (y 10) (y 19) (y 25) (y 26) (y 30) (y 31) (y 32) (Yw 0) o11 py0_12 py0_13 py0_14)), (y 2, .inr (1, o1_iiiiiirrrrrrriiiii py2_0 py2_1 py2_2 py2_3 py2_4 py2_5 (y 3) (y 4) (y 5) (y 6) (y 7) (y 8) (y 9) py2_13 py2_14 py2_15 py2_16 py2_17)), (q_3, .inr (8, [.int 0, .int 0, .null, .null, .null, .int 0, .int 0, .null, .null, .null, .null, .null, .null, .null, .int 0, .int 0, .int 0]))] H := hP
  have hD := cpD hP hD
  refine lv_dup hx hb dX9_waysFromNow_28 rfl ?_
  refine lv_aload_n hx hb dX9_waysFromNow_29 rfl (lv_at hl 0 rfl) ?_
  refine va_get (ci := 9) (v := .ref (y 19)) (C := RX9) (T := TX9) (N := 15) hx hb hg inX9 hown hK hP 16 rfl rfl 4 (by decide) (hg _ q_2_40) (fun _ h9 => h9) rfl dX9_waysFromNow_30 ?_
  refine lv_aload_n hx hb dX9_waysFromNow_33 rfl (lv_at hl 0 rfl) ?_
  refine va_get (ci := 9) (v := .ref (y 2)) (C := RX9) (T := TX9) (N := 15) hx hb hg inX9 hown hK hP 16 rfl rfl 2 (by decide) (hg _ q_2_38) (fun _ h9 => h9) rfl dX9_waysFromNow_34 ?_
  refine va_get (ci := 1) (v := .int py2_1) (C := RX1) (T := TX1) (N := 18) hx hb hg inX1 hown hK hP 17 rfl rfl 1 (by decide) (hg _ q_1_41) (fun _ h9 => h9) rfl dX9_waysFromNow_37 ?_
  have hP := subP (ws' := [(y 3, aI V 4 fy3), (y 9, aI V 900 fy9), (y 19, .inr (4, o4_rrrrrr (y 2) (y 20) (y 21) (y 22) (y 23) (y 24))), (y 20, aI V 2000 fy20), (y 21, aI V 6 fy21), (y 22, aI V 64 fy22), (y 0, .inr (9, o9_rirrrrrrrrrviii (y 1) py0_1 (y 2) (y 10) (y 19) (y 25) (y 26) (y 30) (y 31) (y 32) (Yw 0) o11 py0_12 py0_13 py0_14)), (y 2, .inr (1, o1_iiiiiirrrrrrriiiii py2_0 py2_1 py2_2 py2_3 py2_4 py2_5 (y 3) (y 4) (y 5) (y 6) (y 7) (y 8) (y 9) py2_13 py2_14 py2_15 py2_16 py2_17)), (q_3, .inr (8, [.int 0, .int 0, .null, .null, .null, .int 0, .int 0, .null, .null, .null, .null, .null, .null, .null, .int 0, .int 0, .int 0]))]) hP [0, 1, 2, 3, 4, 5, 16, 17, 18] rfl
  have hD := subD hP hD [0, 1, 2, 3, 4, 5, 16, 17, 18] rfl rfl
  obtain ⟨oldw, eoldw⟩ : ∃ a9 : Nat, a9 = Yw 0 := ⟨_, rfl⟩
  rw [← eoldw] at hP hD
  have hP : va_P V.1 vwCl [(y 3, aI V 4 fy3), (y 9, aI V 900 fy9), (y 19, .inr (4, o4_rrrrrr (y 2) (y 20) (y 21) (y 22) (y 23) (y 24))), (y 20, aI V 2000 fy20), (y 21, aI V 6 fy21), (y 22, aI V 64 fy22), (y 0, .inr (9, o9_rirrrrrrrrrviii (y 1) py0_1 (y 2) (y 10) (y 19) (y 25) (y 26) (y 30) (y 31) (y 32) oldw o11 py0_12 py0_13 py0_14)), (y 2, .inr (1, o1_iiiiiirrrrrrriiiii py2_0 py2_1 py2_2 py2_3 py2_4 py2_5 (y 3) (y 4) (y 5) (y 6) (y 7) (y 8) (y 9) py2_13 py2_14 py2_15 py2_16 py2_17)), (q_3, .inr (8, [.int 0, .int 0, .null, .null, .null, .int 0, .int 0, .null, .null, .null, .null, .null, .null, .null, .int 0, .int 0, .int 0]))] H := hP
  have hD := cpD hP hD
  refine jnV (wr := [(y 3, aI V 4 fy3), (y 9, aI V 900 fy9), (y 19, .inr (4, o4_rrrrrr (y 2) (y 20) (y 21) (y 22) (y 23) (y 24))), (y 20, aI V 2000 fy20), (y 21, aI V 6 fy21), (y 22, aI V 64 fy22), (y 0, .inr (9, o9_rirrrrrrrrrviii (y 1) py0_1 (y 2) (y 10) (y 19) (y 25) (y 26) (y 30) (y 31) (y 32) oldw o11 py0_12 py0_13 py0_14)), (y 2, .inr (1, o1_iiiiiirrrrrrriiiii py2_0 py2_1 py2_2 py2_3 py2_4 py2_5 (y 3) (y 4) (y 5) (y 6) (y 7) (y 8) (y 9) py2_13 py2_14 py2_15 py2_16 py2_17))]) (rnI (rest := [.ref q_3, .ref (y 0)]) ⟨hx, hb, hml, hown, hg⟩ (k_X8_init_0 l V y py2_1 q_3 bpy2_1) mt_X8_init q_4_58 ⟨Nat.le_of_ble_eq_true rfl, Nat.le_of_ble_eq_true rfl⟩ hK hP hD hS hA hE [8] rfl rfl rfl hl.1 rfl (Nat.le_of_ble_eq_true rfl) dX9_waysFromNow_40 ⟨Nat.le_of_ble_eq_true rfl, Nat.le_of_ble_eq_true rfl⟩) hP hD hS hA [8] [0, 1, 2, 3, 4, 5, 6, 7] rfl rfl rfl (by decide) (fun  w H locs hw hP hD hS => ?_)
  refine W.widen (k := 10) (n := 46481) (Nat.le_of_ble_eq_true rfl) (Nat.le_of_ble_eq_true rfl) ?_
  obtain ⟨n, L, Yw, wa_4, wb_5, v_6, v_7, v_8, v_9, v_10, v_11, f_12, f_13, f_14, f_15, f_16, f_17, f_18, f_19, f_20, hn, hL, bv_6, bv_7, bv_8, bv_9, bv_10, bv_11, tf_12, tf_15, tf_16, tf_17, tf_18, eW, g_21, g_22, g_23, g_24, rfl⟩ := hw
  have hP : va_P V.1 vwCl [(y 3, aI V 4 fy3), (y 9, aI V 900 fy9), (y 19, .inr (4, o4_rrrrrr (y 2) (y 20) (y 21) (y 22) (y 23) (y 24))), (y 20, aI V 2000 fy20), (y 21, aI V 6 fy21), (y 22, aI V 64 fy22), (y 0, .inr (9, o9_rirrrrrrrrrviii (y 1) py0_1 (y 2) (y 10) (y 19) (y 25) (y 26) (y 30) (y 31) (y 32) oldw o11 py0_12 py0_13 py0_14)), (y 2, .inr (1, o1_iiiiiirrrrrrriiiii py2_0 py2_1 py2_2 py2_3 py2_4 py2_5 (y 3) (y 4) (y 5) (y 6) (y 7) (y 8) (y 9) py2_13 py2_14 py2_15 py2_16 py2_17)), (Yw 0, .inr (8, o8_iirrriirrrrrrriii v_6 (nI n) (Yw 1) (Yw 2) wa_4 v_7 v_8 (y 19) (Yw 4) (Yw 5) (Yw 6) (Yw 7) (Yw 8) wb_5 v_9 v_10 v_11)), (Yw 1, aI V n f_12), (Yw 2, aI V n f_13), (wa_4, aI V n f_14), (Yw 4, aI V L f_15), (Yw 5, aI V n f_16), (Yw 6, aI V (n * 4) f_17), (Yw 7, aI V n f_18), (Yw 8, aI V 4 f_19), (wb_5, aI V n f_20)] H := hP
  have hD := cpD hP hD
  rw [← eW]
  refine va_put (ci := 9) (v := .ref (Yw 0)) (ty := (.object "BeaconDelay$Ways")) (C := RX9) (T := TX9) (N := 15) hx hb hg inX9 tyX9 tyX9_ok nmX9 hown hK hP hD hS 6 rfl rfl 10 (by decide) (hg _ q_2_46) (fun _ h9 => h9) rfl (by decide +kernel) rfl rfl (Nat.le_of_ble_eq_true rfl) dX9_waysFromNow_43 (fun H locs hP hD hS => ?_)
  have hP : va_P V.1 vwCl [(y 3, aI V 4 fy3), (y 9, aI V 900 fy9), (y 19, .inr (4, o4_rrrrrr (y 2) (y 20) (y 21) (y 22) (y 23) (y 24))), (y 20, aI V 2000 fy20), (y 21, aI V 6 fy21), (y 22, aI V 64 fy22), (y 0, .inr (9, o9_rirrrrrrrrrviii (y 1) py0_1 (y 2) (y 10) (y 19) (y 25) (y 26) (y 30) (y 31) (y 32) (Yw 0) o11 py0_12 py0_13 py0_14)), (y 2, .inr (1, o1_iiiiiirrrrrrriiiii py2_0 py2_1 py2_2 py2_3 py2_4 py2_5 (y 3) (y 4) (y 5) (y 6) (y 7) (y 8) (y 9) py2_13 py2_14 py2_15 py2_16 py2_17)), (Yw 0, .inr (8, o8_iirrriirrrrrrriii v_6 (nI n) (Yw 1) (Yw 2) wa_4 v_7 v_8 (y 19) (Yw 4) (Yw 5) (Yw 6) (Yw 7) (Yw 8) wb_5 v_9 v_10 v_11)), (Yw 1, aI V n f_12), (Yw 2, aI V n f_13), (wa_4, aI V n f_14), (Yw 4, aI V L f_15), (Yw 5, aI V n f_16), (Yw 6, aI V (n * 4) f_17), (Yw 7, aI V n f_18), (Yw 8, aI V 4 f_19), (wb_5, aI V n f_20)] H := hP
  have hD := cpD hP hD
  refine lv_aload_n hx hb dX9_waysFromNow_46 rfl (lv_at hl 0 rfl) ?_
  refine va_get (ci := 9) (v := .ref (Yw 0)) (C := RX9) (T := TX9) (N := 15) hx hb hg inX9 hown hK hP 6 rfl rfl 10 (by decide) (hg _ q_2_46) (fun _ h9 => h9) rfl dX9_waysFromNow_47 ?_
  refine lv_aload_n hx hb dX9_waysFromNow_50 rfl (lv_at hl 0 rfl) ?_
  refine va_get (ci := 9) (v := .ref (y 2)) (C := RX9) (T := TX9) (N := 15) hx hb hg inX9 hown hK hP 6 rfl rfl 2 (by decide) (hg _ q_2_38) (fun _ h9 => h9) rfl dX9_waysFromNow_51 ?_
  refine va_get (ci := 1) (v := .int py2_1) (C := RX1) (T := TX1) (N := 18) hx hb hg inX1 hown hK hP 7 rfl rfl 1 (by decide) (hg _ q_1_41) (fun _ h9 => h9) rfl dX9_waysFromNow_54 ?_
  refine lv_aload_n hx hb dX9_waysFromNow_57 rfl (lv_at hl 0 rfl) ?_
  refine va_get (ci := 9) (v := .int py0_12) (C := RX9) (T := TX9) (N := 15) hx hb hg inX9 hown hK hP 6 rfl rfl 12 (by decide) (hg _ q_2_48) (fun _ h9 => h9) rfl dX9_waysFromNow_58 ?_
  refine lv_aload_n hx hb dX9_waysFromNow_61 rfl (lv_at hl 0 rfl) ?_
  refine va_get (ci := 9) (v := .int py0_13) (C := RX9) (T := TX9) (N := 15) hx hb hg inX9 hown hK hP 6 rfl rfl 13 (by decide) (hg _ q_2_49) (fun _ h9 => h9) rfl dX9_waysFromNow_62 ?_
  refine jnV (wr := [(y 3, aI V 4 fy3), (y 9, aI V 900 fy9), (y 19, .inr (4, o4_rrrrrr (y 2) (y 20) (y 21) (y 22) (y 23) (y 24))), (y 20, aI V 2000 fy20), (y 21, aI V 6 fy21), (y 22, aI V 64 fy22), (y 0, .inr (9, o9_rirrrrrrrrrviii (y 1) py0_1 (y 2) (y 10) (y 19) (y 25) (y 26) (y 30) (y 31) (y 32) (Yw 0) o11 py0_12 py0_13 py0_14)), (y 2, .inr (1, o1_iiiiiirrrrrrriiiii py2_0 py2_1 py2_2 py2_3 py2_4 py2_5 (y 3) (y 4) (y 5) (y 6) (y 7) (y 8) (y 9) py2_13 py2_14 py2_15 py2_16 py2_17)), (wa_4, aI V n f_14), (Yw 7, aI V n f_18), (Yw 8, aI V 4 f_19), (wb_5, aI V n f_20)]) (rnV (rest := []) ⟨hx, hb, hml, hown, hg⟩ (k_X8_begin_0 l V n L Yw y py2_1 py0_12 py0_13 v_6 wa_4 v_7 v_8 wb_5 v_9 v_10 v_11 f_12 f_13 f_15 f_16 f_17 hn hL bpy2_1 bpy0_12 bpy0_13 bv_6 bv_7 bv_8 bv_9 bv_10 bv_11 tf_12 tf_15 tf_16 tf_17 g_21 g_22 g_23) mt_X8_begin q_4_126 ⟨Nat.le_of_ble_eq_true rfl, Nat.le_of_ble_eq_true rfl⟩ hK hP hD hS hA hE [8, 9, 10, 12, 13, 14] rfl rfl 8 rfl rfl rfl rfl hl.1 rfl (Nat.le_of_ble_eq_true rfl) dX9_waysFromNow_65 ⟨Nat.le_of_ble_eq_true rfl, Nat.le_of_ble_eq_true rfl⟩) hP hD hS hA [8, 9, 10, 12, 13, 14] [0, 1, 2, 3, 4, 5, 6, 7, 11, 15, 16, 17] rfl rfl rfl (by decide) (fun  w H locs hw hP hD hS => ?_)
  obtain ⟨v_25, v_26, v_27, v_28, v_29, f_30, f_31, f_32, f_33, bv_25, bv_26, bv_27, bv_28, bv_29, tf_30, tf_32, tf_33, g_34, g_35, g_36, rfl⟩ := hw
  have hP : va_P V.1 vwCl [(y 3, aI V 4 fy3), (y 9, aI V 900 fy9), (y 19, .inr (4, o4_rrrrrr (y 2) (y 20) (y 21) (y 22) (y 23) (y 24))), (y 20, aI V 2000 fy20), (y 21, aI V 6 fy21), (y 22, aI V 64 fy22), (y 0, .inr (9, o9_rirrrrrrrrrviii (y 1) py0_1 (y 2) (y 10) (y 19) (y 25) (y 26) (y 30) (y 31) (y 32) (Yw 0) o11 py0_12 py0_13 py0_14)), (y 2, .inr (1, o1_iiiiiirrrrrrriiiii py2_0 py2_1 py2_2 py2_3 py2_4 py2_5 (y 3) (y 4) (y 5) (y 6) (y 7) (y 8) (y 9) py2_13 py2_14 py2_15 py2_16 py2_17)), (wa_4, aI V n f_14), (Yw 7, aI V n f_18), (Yw 8, aI V 4 f_19), (wb_5, aI V n f_20), (Yw 0, .inr (8, o8_iirrriirrrrrrriii v_6 (nI n) (Yw 1) (Yw 2) wa_4 v_25 v_26 (y 19) (Yw 4) (Yw 5) (Yw 6) (Yw 7) (Yw 8) wb_5 v_27 v_28 v_29)), (Yw 1, aI V n f_30), (Yw 2, aI V n f_31), (Yw 4, aI V L f_32), (Yw 5, aI V n f_33), (Yw 6, aI V (n * 4) f_17)] H := hP
  have hD := cpD hP hD
  refine lv_aload_n hx hb dX9_waysFromNow_68 rfl (lv_at hl 0 rfl) ?_
  refine va_get (ci := 9) (v := .ref (Yw 0)) (C := RX9) (T := TX9) (N := 15) hx hb hg inX9 hown hK hP 6 rfl rfl 10 (by decide) (hg _ q_2_46) (fun _ h9 => h9) rfl dX9_waysFromNow_69 ?_
  refine lv_iload_n hx hb dX9_waysFromNow_72 rfl (lv_at hl 1 rfl) ?_
  refine jnV (wr := [(y 0, .inr (9, o9_rirrrrrrrrrviii (y 1) py0_1 (y 2) (y 10) (y 19) (y 25) (y 26) (y 30) (y 31) (y 32) (Yw 0) o11 py0_12 py0_13 py0_14)), (wa_4, aI V n f_14), (Yw 7, aI V n f_18), (wb_5, aI V n f_20)]) (rnV (rest := []) ⟨hx, hb, hml, hown, hg⟩ (k_X8_reachTo_0 l V n L Yw y D9 a1 py2_0 py2_1 py2_2 py2_3 py2_4 py2_5 py2_13 py2_14 py2_15 py2_16 py2_17 fy3 fy9 fy20 fy21 fy22 v_6 wa_4 v_25 v_26 wb_5 v_27 v_28 v_29 f_30 f_31 f_32 f_33 f_17 f_19 hn hL bpy2_1 bpy2_2 bpy2_3 bpy2_4 bpy2_5 bpy2_13 bpy2_14 bpy2_15 bpy2_16 bpy2_17 tfy20 bv_6 bv_25 bv_26 bv_27 bv_28 bv_29 tf_30 tf_32 tf_33 tf_17 g_34 g_35 g_36 hL9 hK9) mt_X8_reachTo q_4_136 ⟨Nat.le_of_ble_eq_true rfl, Nat.le_of_ble_eq_true rfl⟩ hK hP hD hS hA hE [7, 0, 1, 2, 3, 4, 5, 12, 13, 14, 15, 16, 17, 10] rfl rfl 12 rfl rfl rfl rfl hl.1 rfl (Nat.le_of_ble_eq_true rfl) dX9_waysFromNow_73 ⟨Nat.le_of_ble_eq_true rfl, Nat.le_of_ble_eq_true rfl⟩) hP hD hS hA [7, 0, 1, 2, 3, 4, 5, 12, 13, 14, 15, 16, 17, 10] [6, 8, 9, 11] rfl rfl rfl (by decide) (fun  w H locs hw hP hD hS => ?_)
  obtain ⟨f_37, f_38, f_39, v_40, v_41, f_42, f_43, f_44, f_45, f_46, f_47, tf_37, bv_40, bv_41, tf_42, tf_44, tf_45, tf_46, g_48, g_49, g_50, g_51, kn_52, rfl⟩ := hw
  have hP : va_P V.1 vwCl [(y 0, .inr (9, o9_rirrrrrrrrrviii (y 1) py0_1 (y 2) (y 10) (y 19) (y 25) (y 26) (y 30) (y 31) (y 32) (Yw 0) o11 py0_12 py0_13 py0_14)), (wa_4, aI V n f_14), (Yw 7, aI V n f_18), (wb_5, aI V n f_20), (y 2, .inr (1, o1_iiiiiirrrrrrriiiii py2_0 py2_1 py2_2 py2_3 py2_4 py2_5 (y 3) (y 4) (y 5) (y 6) (y 7) (y 8) (y 9) py2_13 py2_14 py2_15 py2_16 py2_17)), (y 3, aI V 4 fy3), (y 9, aI V 900 fy9), (y 19, .inr (4, o4_rrrrrr (y 2) (y 20) (y 21) (y 22) (y 23) (y 24))), (y 20, aI V 2000 f_37), (y 21, aI V 6 f_38), (y 22, aI V 64 f_39), (Yw 0, .inr (8, o8_iirrriirrrrrrriii v_6 (nI n) (Yw 1) (Yw 2) wa_4 v_40 v_26 (y 19) (Yw 4) (Yw 5) (Yw 6) (Yw 7) (Yw 8) wb_5 v_27 v_28 v_41)), (Yw 1, aI V n f_42), (Yw 2, aI V n f_43), (Yw 4, aI V L f_44), (Yw 5, aI V n f_45), (Yw 6, aI V (n * 4) f_46), (Yw 8, aI V 4 f_47)] H := hP
  have hD := cpD hP hD
  refine lv_aload_n hx hb dX9_waysFromNow_76 rfl (lv_at hl 0 rfl) ?_
  refine va_get (ci := 9) (v := .ref (Yw 0)) (C := RX9) (T := TX9) (N := 15) hx hb hg inX9 hown hK hP 0 rfl rfl 10 (by decide) (hg _ q_2_46) (fun _ h9 => h9) rfl dX9_waysFromNow_77 ?_
  have hP := subP (ws' := [(y 3, aI V 4 fy3), (y 9, aI V 900 fy9), (y 19, .inr (4, o4_rrrrrr (y 2) (y 20) (y 21) (y 22) (y 23) (y 24))), (y 20, aI V 2000 f_37), (y 21, aI V 6 f_38), (y 22, aI V 64 f_39), (Yw 0, .inr (8, o8_iirrriirrrrrrriii v_6 (nI n) (Yw 1) (Yw 2) wa_4 v_40 v_26 (y 19) (Yw 4) (Yw 5) (Yw 6) (Yw 7) (Yw 8) wb_5 v_27 v_28 v_41)), (Yw 1, aI V n f_42), (Yw 2, aI V n f_43), (wa_4, aI V n f_14), (Yw 4, aI V L f_44), (Yw 5, aI V n f_45), (Yw 6, aI V (n * 4) f_46), (Yw 7, aI V n f_18), (Yw 8, aI V 4 f_47), (wb_5, aI V n f_20), (y 0, .inr (9, o9_rirrrrrrrrrviii (y 1) py0_1 (y 2) (y 10) (y 19) (y 25) (y 26) (y 30) (y 31) (y 32) (Yw 0) o11 py0_12 py0_13 py0_14)), (y 2, .inr (1, o1_iiiiiirrrrrrriiiii py2_0 py2_1 py2_2 py2_3 py2_4 py2_5 (y 3) (y 4) (y 5) (y 6) (y 7) (y 8) (y 9) py2_13 py2_14 py2_15 py2_16 py2_17))]) hP [5, 6, 7, 8, 9, 10, 11, 12, 13, 1, 14, 15, 16, 2, 17, 3, 0, 4] rfl
  have hD := subD hP hD [5, 6, 7, 8, 9, 10, 11, 12, 13, 1, 14, 15, 16, 2, 17, 3, 0, 4] rfl rfl
  exact fiR (Or.inl ⟨_, rfl⟩) hx hb hr hlk hK (subP (ws' := [(y 3, aI V 4 fy3), (y 9, aI V 900 fy9), (y 19, .inr (4, o4_rrrrrr (y 2) (y 20) (y 21) (y 22) (y 23) (y 24))), (y 20, aI V 2000 f_37), (y 21, aI V 6 f_38), (y 22, aI V 64 f_39), (y 0, .inr (9, o9_rirrrrrrrrrviii (y 1) py0_1 (y 2) (y 10) (y 19) (y 25) (y 26) (y 30) (y 31) (y 32) (Yw 0) o11 py0_12 py0_13 py0_14)), (y 2, .inr (1, o1_iiiiiirrrrrrriiiii py2_0 py2_1 py2_2 py2_3 py2_4 py2_5 (y 3) (y 4) (y 5) (y 6) (y 7) (y 8) (y 9) py2_13 py2_14 py2_15 py2_16 py2_17)), (Yw 0, .inr (8, o8_iirrriirrrrrrriii v_6 (nI n) (Yw 1) (Yw 2) wa_4 v_40 v_26 (y 19) (Yw 4) (Yw 5) (Yw 6) (Yw 7) (Yw 8) wb_5 v_27 v_28 v_41)), (Yw 1, aI V n f_42), (Yw 2, aI V n f_43), (wa_4, aI V n f_14), (Yw 4, aI V L f_44), (Yw 5, aI V n f_45), (Yw 6, aI V (n * 4) f_46), (Yw 7, aI V n f_18), (Yw 8, aI V 4 f_47), (wb_5, aI V n f_20)]) hP [0, 1, 2, 3, 4, 5, 16, 17, 6, 7, 8, 9, 10, 11, 12, 13, 14, 15] rfl) (hD.sub [0, 1, 2, 3, 4, 5, 16, 17, 6, 7, 8, 9, 10, 11, 12, 13, 14, 15] rfl rfl) hS dX9_waysFromNow_80 (Nat.le_of_ble_eq_true rfl) (Nat.le_of_ble_eq_true rfl) (⟨n, L, Yw, wa_4, wb_5, f_37, f_38, f_39, v_6, v_40, v_26, v_27, v_28, v_41, f_42, f_43, f_14, f_44, f_45, f_46, f_18, f_47, f_20, hn, hL, tf_37, bv_6, bv_40, bv_26, bv_27, bv_28, bv_41, tf_42, tf_44, tf_45, tf_46, tf_18, rfl, g_48, g_49, g_50, g_51, g_24, kn_52, rfl⟩)
set_option maxHeartbeats 4000000 in
set_option maxRecDepth 100000 in
theorem k_X9_soonest_3 (l : Launch) (V : GV) (n : Nat) (L : Nat) (Yw : Nat → Nat) (y : Nat → Nat) (D9 : Nat → Int32) (a1 : Int32) (a2 : Int32) (py0_1 : Int32) (o11 : Value) (py0_12 : Int32) (py0_13 : Int32) (py0_14 : Int32) (py2_0 : Int32) (py2_1 : Int32) (py2_2 : Int32) (py2_3 : Int32) (py2_4 : Int32) (py2_5 : Int32) (py2_13 : Int32) (py2_14 : Int32) (py2_15 : Int32) (py2_16 : Int32) (py2_17 : Int32) (fy3 : Nat → Int32) (fy9 : Nat → Int32) (fy20 : Nat → Int32) (fy21 : Nat → Int32) (fy22 : Nat → Int32) (pYw0_0 : Int32) (wa : Nat) (pYw0_5 : Int32) (pYw0_6 : Int32) (wb : Nat) (pYw0_14 : Int32) (pYw0_15 : Int32) (pYw0_16 : Int32) (fYw1 : Nat → Int32) (fYw2 : Nat → Int32) (fwa : Nat → Int32) (fYw4 : Nat → Int32) (fYw5 : Nat → Int32) (fYw6 : Nat → Int32) (fYw7 : Nat → Int32) (fYw8 : Nat → Int32) (fwb : Nat → Int32) (hn : 1 ≤ n ∧ n ≤ 3646) (hL : 1 ≤ L ∧ L ≤ 10000) (hq0 : pYw0_0 < py2_1) (bpy0_1 : iv 0 900 py0_1) (bpy0_12 : iv 0 9999 py0_12) (bpy0_13 : iv 0 9 py0_13) (bpy2_1 : iv 0 4 py2_1) (bpy2_2 : iv 0 4 py2_2) (bpy2_3 : iv 0 8 py2_3) (bpy2_4 : iv 0 9999 py2_4) (bpy2_5 : iv 0 9 py2_5) (bpy2_13 : iv 0 900 py2_13) (bpy2_14 : iv 0 900 py2_14) (bpy2_15 : iv 0 900 py2_15) (bpy2_16 : iv 0 900 py2_16) (bpy2_17 : iv 0 900 py2_17) (tfy20 : ∀ j, iv 0 10 (fy20 j)) (bpYw0_0 : iv 0 4 pYw0_0) (bpYw0_5 : iv 0 ((n : Int)) pYw0_5) (bpYw0_6 : iv 0 4 pYw0_6) (bpYw0_14 : iv 0 4 pYw0_14) (bpYw0_15 : iv 0 9 pYw0_15) (bpYw0_16 : iv 0 ((n : Int)) pYw0_16) (tfYw1 : ∀ j, iv 0 ((L : Int) - 1) (fYw1 j)) (tfYw4 : ∀ j, iv 0 ((n : Int)) (fYw4 j)) (tfYw5 : ∀ j, iv 0 (4 * (n : Int) - 1) (fYw5 j)) (tfYw6 : ∀ j, iv 0 ((n : Int) - 1) (fYw6 j)) (tfYw7 : ∀ j, iv 0 ((n : Int) - 1) (fYw7 j)) (hf0 : WA pYw0_5 fYw4 fYw1) (hf1 : WB pYw0_16 pYw0_6 pYw0_5 fYw6) (hf2 : WC pYw0_5 fYw2) (hf3 : 0 ≤ (a1 : Int32).toInt) (hf4 : (a1 : Int32).toInt < (py2_1 : Int32).toInt) (hf5 : 0 ≤ (a2 : Int32).toInt) (hf6 : (a2 : Int32).toInt ≤ 4) (hL9 : LW D9 fy3 fy9 py2_14 py2_15 py2_16 py2_17) (hK9 : KN D9 fy20) : Ct l V yX9_soonest (.code yX9_soonest cX9_soonest 5 (some .int)) 8 [.ref (y 0), .int a1, .int a2] [(y 0, .inr (9, o9_rirrrrrrrrrviii (y 1) py0_1 (y 2) (y 10) (y 19) (y 25) (y 26) (y 30) (y 31) (y 32) (Yw 0) o11 py0_12 py0_13 py0_14)), (y 2, .inr (1, o1_iiiiiirrrrrrriiiii py2_0 py2_1 py2_2 py2_3 py2_4 py2_5 (y 3) (y 4) (y 5) (y 6) (y 7) (y 8) (y 9) py2_13 py2_14 py2_15 py2_16 py2_17)), (y 3, aI V 4 fy3), (y 9, aI V 900 fy9), (y 19, .inr (4, o4_rrrrrr (y 2) (y 20) (y 21) (y 22) (y 23) (y 24))), (y 20, aI V 2000 fy20), (y 21, aI V 6 fy21), (y 22, aI V 64 fy22), (Yw 0, .inr (8, o8_iirrriirrrrrrriii pYw0_0 (nI n) (Yw 1) (Yw 2) wa pYw0_5 pYw0_6 (y 19) (Yw 4) (Yw 5) (Yw 6) (Yw 7) (Yw 8) wb pYw0_14 pYw0_15 pYw0_16)), (Yw 1, aI V n fYw1), (Yw 2, aI V n fYw2), (wa, aI V n fwa), (Yw 4, aI V L fYw4), (Yw 5, aI V n fYw5), (Yw 6, aI V (n * 4) fYw6), (Yw 7, aI V n fYw7), (Yw 8, aI V 4 fYw8), (wb, aI V n fwb)] 10 46481 (QI V (fun (r : Int32) (w : va_W) => ∃ (n : Nat) (L : Nat) (Yw : Nat → Nat) (wa : Nat) (wb : Nat) (g0 : Nat → Int32) (g1 : Nat → Int32) (g2 : Nat → Int32) (ww0 : Int32) (ww5 : Int32) (ww6 : Int32) (ww14 : Int32) (ww15 : Int32) (ww16 : Int32) (wew1 : Nat → Int32) (wew2 : Nat → Int32) (wew3 : Nat → Int32) (wew4 : Nat → Int32) (wew5 : Nat → Int32) (wew6 : Nat → Int32) (wew7 : Nat → Int32) (wew8 : Nat → Int32) (wew9 : Nat → Int32), (1 ≤ n ∧ n ≤ 3646) ∧ (1 ≤ L ∧ L ≤ 10000) ∧ (∀ j, iv 0 10 (g0 j)) ∧ iv 0 4 ww0 ∧ iv 0 ((n : Int)) ww5 ∧ iv 0 4 ww6 ∧ iv 0 4 ww14 ∧ iv 0 9 ww15 ∧ iv 0 ((n : Int)) ww16 ∧ (∀ j, iv 0 ((L : Int) - 1) (wew1 j)) ∧ (∀ j, iv 0 ((n : Int)) (wew4 j)) ∧ (∀ j, iv 0 (4 * (n : Int) - 1) (wew5 j)) ∧ (∀ j, iv 0 ((n : Int) - 1) (wew6 j)) ∧ (∀ j, iv 0 ((n : Int) - 1) (wew7 j)) ∧ (WA ww5 wew4 wew1) ∧ (WB ww16 ww6 ww5 wew6) ∧ (WC ww5 wew2) ∧ (ww0 = py2_1) ∧ KN D9 g0 ∧ w = [(y 0, .inr (9, o9_rirrrrrrrrrviii (y 1) py0_1 (y 2) (y 10) (y 19) (y 25) (y 26) (y 30) (y 31) (y 32) (Yw 0) o11 py0_12 py0_13 py0_14)), (y 2, .inr (1, o1_iiiiiirrrrrrriiiii py2_0 py2_1 py2_2 py2_3 py2_4 py2_5 (y 3) (y 4) (y 5) (y 6) (y 7) (y 8) (y 9) py2_13 py2_14 py2_15 py2_16 py2_17)), (y 3, aI V 4 fy3), (y 9, aI V 900 fy9), (y 19, .inr (4, o4_rrrrrr (y 2) (y 20) (y 21) (y 22) (y 23) (y 24))), (y 20, aI V 2000 g0), (y 21, aI V 6 g1), (y 22, aI V 64 g2), (Yw 0, .inr (8, o8_iirrriirrrrrrriii ww0 (nI n) (Yw 1) (Yw 2) wa ww5 ww6 (y 19) (Yw 4) (Yw 5) (Yw 6) (Yw 7) (Yw 8) wb ww14 ww15 ww16)), (Yw 1, aI V n wew1), (Yw 2, aI V n wew2), (wa, aI V n wew3), (Yw 4, aI V L wew4), (Yw 5, aI V n wew5), (Yw 6, aI V (n * 4) wew6), (Yw 7, aI V n wew7), (Yw 8, aI V 4 wew8), (wb, aI V n wew9)])) := by
  refine Ct.of (by decide) (Nat.le_of_ble_eq_true rfl) (fun p e s m below meth c A ls hx hb hr hml hown hlk hnm hg hP hK hD hE hA hS hl => ?_)
  have hl : lv_has ls 5 [(0, .ref (y 0)), (1, .int a1), (2, .int a2)] := hl
  refine lv_aload_n hx hb dX9_soonest_0 rfl (lv_at hl 0 rfl) ?_
  refine lv_iload_n hx hb dX9_soonest_1 rfl (lv_at hl 1 rfl) ?_
  refine jnI (wr := [(y 3, aI V 4 fy3), (y 9, aI V 900 fy9), (y 19, .inr (4, o4_rrrrrr (y 2) (y 20) (y 21) (y 22) (y 23) (y 24))), (y 20, aI V 2000 fy20), (y 21, aI V 6 fy21), (y 22, aI V 64 fy22), (Yw 0, .inr (8, o8_iirrriirrrrrrriii pYw0_0 (nI n) (Yw 1) (Yw 2) wa pYw0_5 pYw0_6 (y 19) (Yw 4) (Yw 5) (Yw 6) (Yw 7) (Yw 8) wb pYw0_14 pYw0_15 pYw0_16)), (Yw 1, aI V n fYw1), (Yw 2, aI V n fYw2), (wa, aI V n fwa), (Yw 4, aI V L fYw4), (Yw 5, aI V n fYw5), (Yw 6, aI V (n * 4) fYw6), (Yw 7, aI V n fYw7), (Yw 8, aI V 4 fYw8), (wb, aI V n fwb)]) (rnV (rest := []) ⟨hx, hb, hml, hown, hg⟩ (k_X9_isHill_0 l V y a1 py0_1 (.ref (Yw 0)) o11 py0_12 py0_13 py0_14 py2_0 py2_1 py2_2 py2_3 py2_4 py2_5 py2_13 py2_14 py2_15 py2_16 py2_17 bpy0_1 bpy0_12 bpy0_13 bpy2_1 bpy2_2 bpy2_3 bpy2_4 bpy2_5 bpy2_13 bpy2_14 bpy2_15 bpy2_16 bpy2_17) mt_X9_isHill q_3_122 ⟨Nat.le_of_ble_eq_true rfl, Nat.le_of_ble_eq_true rfl⟩ hK hP hD hS hA hE [0, 1] rfl rfl 0 rfl rfl rfl rfl hl.1 rfl (Nat.le_of_ble_eq_true rfl) dX9_soonest_2 ⟨Nat.le_of_ble_eq_true rfl, Nat.le_of_ble_eq_true rfl⟩) hP hD hS hA [0, 1] [2, 3, 4, 5, 6, 7, 8, 9, 10, 11, 12, 13, 14, 15, 16, 17] rfl rfl rfl (by decide) (fun r_1 w H locs hw hP hD hS => ?_)
  rcases hw with ⟨c_2, rfl, et_3, rfl⟩ | ⟨c_4, c_5, rfl, et_6, rfl⟩ | ⟨c_7, c_8, rfl, et_9, rfl⟩
  · have hP : va_P V.1 vwCl [(y 3, aI V 4 fy3), (y 9, aI V 900 fy9), (y 19, .inr (4, o4_rrrrrr (y 2) (y 20) (y 21) (y 22) (y 23) (y 24))), (y 20, aI V 2000 fy20), (y 21, aI V 6 fy21), (y 22, aI V 64 fy22), (Yw 0, .inr (8, o8_iirrriirrrrrrriii pYw0_0 (nI n) (Yw 1) (Yw 2) wa pYw0_5 pYw0_6 (y 19) (Yw 4) (Yw 5) (Yw 6) (Yw 7) (Yw 8) wb pYw0_14 pYw0_15 pYw0_16)), (Yw 1, aI V n fYw1), (Yw 2, aI V n fYw2), (wa, aI V n fwa), (Yw 4, aI V L fYw4), (Yw 5, aI V n fYw5), (Yw 6, aI V (n * 4) fYw6), (Yw 7, aI V n fYw7), (Yw 8, aI V 4 fYw8), (wb, aI V n fwb), (y 0, .inr (9, o9_rirrrrrrrrrviii (y 1) py0_1 (y 2) (y 10) (y 19) (y 25) (y 26) (y 30) (y 31) (y 32) (Yw 0) o11 py0_12 py0_13 py0_14)), (y 2, .inr (1, o1_iiiiiirrrrrrriiiii py2_0 py2_1 py2_2 py2_3 py2_4 py2_5 (y 3) (y 4) (y 5) (y 6) (y 7) (y 8) (y 9) py2_13 py2_14 py2_15 py2_16 py2_17))] H := hP
    have hD := cpD hP hD
    have b_10 : iv (-2147483648) (-1) a1 := iv_l1 c_2 (iv_top a1) (iv_c (0 : Int32) (a := 0) (b := 0) (by decide)) (by first | decide | omega)
    refine lv_if_ne (tgt := 11) hx hb dX9_soonest_5 (by decide) (fun c_12 => absurd c_12 (by decide)) (fun _ => ?_)
    refine lv_bipush (v := (-2)) hx hb dX9_soonest_8 (by decide) ?_
    have z_0 := Int32.lt_iff_toInt_lt.mp hq0
    have z_1 := Int32.lt_iff_toInt_lt.mp c_2
    have k_0 : (0 : Int32).toInt = 0 := (by decide)
    exfalso
    have g_0 := hf3
    have g_1 := hf4
    have g_2 := hf5
    have g_3 := hf6
    omega
  · have hP : va_P V.1 vwCl [(y 3, aI V 4 fy3), (y 9, aI V 900 fy9), (y 19, .inr (4, o4_rrrrrr (y 2) (y 20) (y 21) (y 22) (y 23) (y 24))), (y 20, aI V 2000 fy20), (y 21, aI V 6 fy21), (y 22, aI V 64 fy22), (Yw 0, .inr (8, o8_iirrriirrrrrrriii pYw0_0 (nI n) (Yw 1) (Yw 2) wa pYw0_5 pYw0_6 (y 19) (Yw 4) (Yw 5) (Yw 6) (Yw 7) (Yw 8) wb pYw0_14 pYw0_15 pYw0_16)), (Yw 1, aI V n fYw1), (Yw 2, aI V n fYw2), (wa, aI V n fwa), (Yw 4, aI V L fYw4), (Yw 5, aI V n fYw5), (Yw 6, aI V (n * 4) fYw6), (Yw 7, aI V n fYw7), (Yw 8, aI V 4 fYw8), (wb, aI V n fwb), (y 0, .inr (9, o9_rirrrrrrrrrviii (y 1) py0_1 (y 2) (y 10) (y 19) (y 25) (y 26) (y 30) (y 31) (y 32) (Yw 0) o11 py0_12 py0_13 py0_14)), (y 2, .inr (1, o1_iiiiiirrrrrrriiiii py2_0 py2_1 py2_2 py2_3 py2_4 py2_5 (y 3) (y 4) (y 5) (y 6) (y 7) (y 8) (y 9) py2_13 py2_14 py2_15 py2_16 py2_17))] H := hP
    have hD := cpD hP hD
    have b_13 : iv 0 2147483647 a1 := iv_e2 (Int32.not_lt.mp c_4) (iv_c (0 : Int32) (a := 0) (b := 0) (by decide)) (iv_top a1) (by first | decide | omega)
    refine lv_if_ne (tgt := 11) hx hb dX9_soonest_5 (by decide) (fun c_15 => absurd c_15 (by decide)) (fun _ => ?_)
    refine lv_bipush (v := (-2)) hx hb dX9_soonest_8 (by decide) ?_
    have z_0 := Int32.lt_iff_toInt_lt.mp hq0
    have z_1 := Int32.le_iff_toInt_le.mp (Int32.not_lt.mp c_4)
    have z_2 := Int32.le_iff_toInt_le.mp c_5
    have k_0 : (0 : Int32).toInt = 0 := (by decide)
    exfalso
    have g_0 := hf3
    have g_1 := hf4
    have g_2 := hf5
    have g_3 := hf6
    omega
  · have hP : va_P V.1 vwCl [(y 3, aI V 4 fy3), (y 9, aI V 900 fy9), (y 19, .inr (4, o4_rrrrrr (y 2) (y 20) (y 21) (y 22) (y 23) (y 24))), (y 20, aI V 2000 fy20), (y 21, aI V 6 fy21), (y 22, aI V 64 fy22), (Yw 0, .inr (8, o8_iirrriirrrrrrriii pYw0_0 (nI n) (Yw 1) (Yw 2) wa pYw0_5 pYw0_6 (y 19) (Yw 4) (Yw 5) (Yw 6) (Yw 7) (Yw 8) wb pYw0_14 pYw0_15 pYw0_16)), (Yw 1, aI V n fYw1), (Yw 2, aI V n fYw2), (wa, aI V n fwa), (Yw 4, aI V L fYw4), (Yw 5, aI V n fYw5), (Yw 6, aI V (n * 4) fYw6), (Yw 7, aI V n fYw7), (Yw 8, aI V 4 fYw8), (wb, aI V n fwb), (y 0, .inr (9, o9_rirrrrrrrrrviii (y 1) py0_1 (y 2) (y 10) (y 19) (y 25) (y 26) (y 30) (y 31) (y 32) (Yw 0) o11 py0_12 py0_13 py0_14)), (y 2, .inr (1, o1_iiiiiirrrrrrriiiii py2_0 py2_1 py2_2 py2_3 py2_4 py2_5 (y 3) (y 4) (y 5) (y 6) (y 7) (y 8) (y 9) py2_13 py2_14 py2_15 py2_16 py2_17))] H := hP
    have hD := cpD hP hD
    have b_16 : iv 0 2147483647 a1 := iv_e2 (Int32.not_lt.mp c_7) (iv_c (0 : Int32) (a := 0) (b := 0) (by decide)) (iv_top a1) (by first | decide | omega)
    have b_17 : iv 0 3 a1 := iv_l1 (Int32.not_le.mp c_8) b_16 bpy2_1 (by first | decide | omega)
    have b_18 : iv 1 4 py2_1 := iv_l2 (Int32.not_le.mp c_8) b_16 bpy2_1 (by first | decide | omega)
    refine lv_if_ne (tgt := 11) hx hb dX9_soonest_5 (by decide) (fun _ => ?_) (fun c_20 => absurd c_20 (by decide))
    refine lv_iload_n hx hb dX9_soonest_11 rfl (lv_at hl 2 rfl) ?_
    refine jnI (wr := [(y 3, aI V 4 fy3), (y 9, aI V 900 fy9), (y 19, .inr (4, o4_rrrrrr (y 2) (y 20) (y 21) (y 22) (y 23) (y 24))), (y 20, aI V 2000 fy20), (y 21, aI V 6 fy21), (y 22, aI V 64 fy22), (Yw 0, .inr (8, o8_iirrriirrrrrrriii pYw0_0 (nI n) (Yw 1) (Yw 2) wa pYw0_5 pYw0_6 (y 19) (Yw 4) (Yw 5) (Yw 6) (Yw 7) (Yw 8) wb pYw0_14 pYw0_15 pYw0_16)), (Yw 1, aI V n fYw1), (Yw 2, aI V n fYw2), (wa, aI V n fwa), (Yw 4, aI V L fYw4), (Yw 5, aI V n fYw5), (Yw 6, aI V (n * 4) fYw6), (Yw 7, aI V n fYw7), (Yw 8, aI V 4 fYw8), (wb, aI V n fwb), (y 0, .inr (9, o9_rirrrrrrrrrviii (y 1) py0_1 (y 2) (y 10) (y 19) (y 25) (y 26) (y 30) (y 31) (y 32) (Yw 0) o11 py0_12 py0_13 py0_14)), (y 2, .inr (1, o1_iiiiiirrrrrrriiiii py2_0 py2_1 py2_2 py2_3 py2_4 py2_5 (y 3) (y 4) (y 5) (y 6) (y 7) (y 8) (y 9) py2_13 py2_14 py2_15 py2_16 py2_17))]) (rnS (rest := []) ⟨hx, hb, hml, hown, hg⟩ (k_X9_isHeight_0 l V a2) mt_X9_isHeight q_4_49 ⟨Nat.le_of_ble_eq_true rfl, Nat.le_of_ble_eq_true rfl⟩ hK hP hD hS hA hE [] rfl rfl rfl hl.1 rfl (Nat.le_of_ble_eq_true rfl) dX9_soonest_12 ⟨Nat.le_of_ble_eq_true rfl, Nat.le_of_ble_eq_true rfl⟩) hP hD hS hA [] [0, 1, 2, 3, 4, 5, 6, 7, 8, 9, 10, 11, 12, 13, 14, 15, 16, 17] rfl rfl rfl (by decide) (fun r_21 w H locs hw hP hD hS => ?_)
    rcases hw with ⟨c_22, rfl, rfl⟩ | ⟨c_23, c_24, rfl, rfl⟩ | ⟨c_25, c_26, rfl, rfl⟩
    · have hP : va_P V.1 vwCl [(y 3, aI V 4 fy3), (y 9, aI V 900 fy9), (y 19, .inr (4, o4_rrrrrr (y 2) (y 20) (y 21) (y 22) (y 23) (y 24))), (y 20, aI V 2000 fy20), (y 21, aI V 6 fy21), (y 22, aI V 64 fy22), (Yw 0, .inr (8, o8_iirrriirrrrrrriii pYw0_0 (nI n) (Yw 1) (Yw 2) wa pYw0_5 pYw0_6 (y 19) (Yw 4) (Yw 5) (Yw 6) (Yw 7) (Yw 8) wb pYw0_14 pYw0_15 pYw0_16)), (Yw 1, aI V n fYw1), (Yw 2, aI V n fYw2), (wa, aI V n fwa), (Yw 4, aI V L fYw4), (Yw 5, aI V n fYw5), (Yw 6, aI V (n * 4) fYw6), (Yw 7, aI V n fYw7), (Yw 8, aI V 4 fYw8), (wb, aI V n fwb), (y 0, .inr (9, o9_rirrrrrrrrrviii (y 1) py0_1 (y 2) (y 10) (y 19) (y 25) (y 26) (y 30) (y 31) (y 32) (Yw 0) o11 py0_12 py0_13 py0_14)), (y 2, .inr (1, o1_iiiiiirrrrrrriiiii py2_0 py2_1 py2_2 py2_3 py2_4 py2_5 (y 3) (y 4) (y 5) (y 6) (y 7) (y 8) (y 9) py2_13 py2_14 py2_15 py2_16 py2_17))] H := hP
      have hD := cpD hP hD
      have b_27 : iv (-2147483648) (-1) a2 := iv_l1 c_22 (iv_top a2) (iv_c (0 : Int32) (a := 0) (b := 0) (by decide)) (by first | decide | omega)
      refine lv_if_ne (tgt := 21) hx hb dX9_soonest_15 (by decide) (fun c_29 => absurd c_29 (by decide)) (fun _ => ?_)
      refine lv_bipush (v := (-3)) hx hb dX9_soonest_18 (by decide) ?_
      have z_0 := Int32.lt_iff_toInt_lt.mp hq0
      have z_1 := Int32.le_iff_toInt_le.mp (Int32.not_lt.mp c_7)
      have z_2 := Int32.lt_iff_toInt_lt.mp (Int32.not_le.mp c_8)
      have z_3 := Int32.lt_iff_toInt_lt.mp c_22
      have k_0 : (0 : Int32).toInt = 0 := (by decide)
      exfalso
      have g_0 := hf3
      have g_1 := hf4
      have g_2 := hf5
      have g_3 := hf6
      omega
    · have hP : va_P V.1 vwCl [(y 3, aI V 4 fy3), (y 9, aI V 900 fy9), (y 19, .inr (4, o4_rrrrrr (y 2) (y 20) (y 21) (y 22) (y 23) (y 24))), (y 20, aI V 2000 fy20), (y 21, aI V 6 fy21), (y 22, aI V 64 fy22), (Yw 0, .inr (8, o8_iirrriirrrrrrriii pYw0_0 (nI n) (Yw 1) (Yw 2) wa pYw0_5 pYw0_6 (y 19) (Yw 4) (Yw 5) (Yw 6) (Yw 7) (Yw 8) wb pYw0_14 pYw0_15 pYw0_16)), (Yw 1, aI V n fYw1), (Yw 2, aI V n fYw2), (wa, aI V n fwa), (Yw 4, aI V L fYw4), (Yw 5, aI V n fYw5), (Yw 6, aI V (n * 4) fYw6), (Yw 7, aI V n fYw7), (Yw 8, aI V 4 fYw8), (wb, aI V n fwb), (y 0, .inr (9, o9_rirrrrrrrrrviii (y 1) py0_1 (y 2) (y 10) (y 19) (y 25) (y 26) (y 30) (y 31) (y 32) (Yw 0) o11 py0_12 py0_13 py0_14)), (y 2, .inr (1, o1_iiiiiirrrrrrriiiii py2_0 py2_1 py2_2 py2_3 py2_4 py2_5 (y 3) (y 4) (y 5) (y 6) (y 7) (y 8) (y 9) py2_13 py2_14 py2_15 py2_16 py2_17))] H := hP
      have hD := cpD hP hD
      have b_30 : iv 0 2147483647 a2 := iv_e2 (Int32.not_lt.mp c_23) (iv_c (0 : Int32) (a := 0) (b := 0) (by decide)) (iv_top a2) (by first | decide | omega)
      have b_31 : iv 5 2147483647 a2 := iv_l2 c_24 (iv_c (4 : Int32) (a := 4) (b := 4) (by decide)) b_30 (by first | decide | omega)
      refine lv_if_ne (tgt := 21) hx hb dX9_soonest_15 (by decide) (fun c_33 => absurd c_33 (by decide)) (fun _ => ?_)
      refine lv_bipush (v := (-3)) hx hb dX9_soonest_18 (by decide) ?_
      have z_0 := Int32.lt_iff_toInt_lt.mp hq0
      have z_1 := Int32.le_iff_toInt_le.mp (Int32.not_lt.mp c_7)
      have z_2 := Int32.lt_iff_toInt_lt.mp (Int32.not_le.mp c_8)
      have z_3 := Int32.le_iff_toInt_le.mp (Int32.not_lt.mp c_23)
      have z_4 := Int32.lt_iff_toInt_lt.mp c_24
      have k_0 : (0 : Int32).toInt = 0 := (by decide)
      have k_4 : (4 : Int32).toInt = 4 := (by decide)
      exfalso
      have g_0 := hf3
      have g_1 := hf4
      have g_2 := hf5
      have g_3 := hf6
      omega
    · have hP : va_P V.1 vwCl [(y 3, aI V 4 fy3), (y 9, aI V 900 fy9), (y 19, .inr (4, o4_rrrrrr (y 2) (y 20) (y 21) (y 22) (y 23) (y 24))), (y 20, aI V 2000 fy20), (y 21, aI V 6 fy21), (y 22, aI V 64 fy22), (Yw 0, .inr (8, o8_iirrriirrrrrrriii pYw0_0 (nI n) (Yw 1) (Yw 2) wa pYw0_5 pYw0_6 (y 19) (Yw 4) (Yw 5) (Yw 6) (Yw 7) (Yw 8) wb pYw0_14 pYw0_15 pYw0_16)), (Yw 1, aI V n fYw1), (Yw 2, aI V n fYw2), (wa, aI V n fwa), (Yw 4, aI V L fYw4), (Yw 5, aI V n fYw5), (Yw 6, aI V (n * 4) fYw6), (Yw 7, aI V n fYw7), (Yw 8, aI V 4 fYw8), (wb, aI V n fwb), (y 0, .inr (9, o9_rirrrrrrrrrviii (y 1) py0_1 (y 2) (y 10) (y 19) (y 25) (y 26) (y 30) (y 31) (y 32) (Yw 0) o11 py0_12 py0_13 py0_14)), (y 2, .inr (1, o1_iiiiiirrrrrrriiiii py2_0 py2_1 py2_2 py2_3 py2_4 py2_5 (y 3) (y 4) (y 5) (y 6) (y 7) (y 8) (y 9) py2_13 py2_14 py2_15 py2_16 py2_17))] H := hP
      have hD := cpD hP hD
      have b_34 : iv 0 2147483647 a2 := iv_e2 (Int32.not_lt.mp c_25) (iv_c (0 : Int32) (a := 0) (b := 0) (by decide)) (iv_top a2) (by first | decide | omega)
      have b_35 : iv 0 4 a2 := iv_e1 (Int32.not_lt.mp c_26) b_34 (iv_c (4 : Int32) (a := 4) (b := 4) (by decide)) (by first | decide | omega)
      refine lv_if_ne (tgt := 21) hx hb dX9_soonest_15 (by decide) (fun _ => ?_) (fun c_37 => absurd c_37 (by decide))
      refine lv_aload_n hx hb dX9_soonest_21 rfl (lv_at hl 0 rfl) ?_
      refine lv_iconst (v := 0) hx hb dX9_soonest_22 (by decide) ?_
      refine jnR (wr := []) (rnV (rest := []) ⟨hx, hb, hml, hown, hg⟩ (k_X9_waysFromNow_2 l V n L Yw y D9 0 fy3 fy9 fy20 fy21 fy22 pYw0_0 wa pYw0_5 pYw0_6 wb pYw0_14 pYw0_15 pYw0_16 fYw1 fYw2 fwa fYw4 fYw5 fYw6 fYw7 fYw8 fwb py0_1 o11 py0_12 py0_13 py0_14 py2_0 py2_1 py2_2 py2_3 py2_4 py2_5 py2_13 py2_14 py2_15 py2_16 py2_17 hn hL hq0 tfy20 bpYw0_0 bpYw0_5 bpYw0_6 bpYw0_14 bpYw0_15 bpYw0_16 tfYw1 tfYw4 tfYw5 tfYw6 tfYw7 bpy0_1 bpy0_12 bpy0_13 (iv_w b_18 (by first | decide | omega)) bpy2_2 bpy2_3 bpy2_4 bpy2_5 bpy2_13 bpy2_14 bpy2_15 bpy2_16 bpy2_17 hf0 hf1 hf2 hL9 hK9) mt_X9_waysFromNow q_4_52 ⟨Nat.le_of_ble_eq_true rfl, Nat.le_of_ble_eq_true rfl⟩ hK hP hD hS hA hE [0, 1, 2, 3, 4, 5, 6, 7, 8, 9, 10, 11, 12, 13, 14, 15, 16, 17] rfl rfl 16 rfl rfl rfl rfl hl.1 rfl (Nat.le_of_ble_eq_true rfl) dX9_soonest_23 ⟨Nat.le_of_ble_eq_true rfl, Nat.le_of_ble_eq_true rfl⟩) hP hD hS hA [0, 1, 2, 3, 4, 5, 6, 7, 8, 9, 10, 11, 12, 13, 14, 15, 16, 17] [] rfl rfl rfl (by decide) (fun r_38 w H locs hw hP hD hS => ?_)
      refine W.widen (k := 10) (n := 46481) (Nat.le_of_ble_eq_true rfl) (Nat.le_of_ble_eq_true rfl) ?_
      obtain ⟨n, L, Yw, wa_39, wb_40, f_41, f_42, f_43, v_44, v_45, v_46, v_47, v_48, v_49, f_50, f_51, f_52, f_53, f_54, f_55, f_56, f_57, f_58, hn, hL, tf_41, bv_44, bv_45, bv_46, bv_47, bv_48, bv_49, tf_50, tf_53, tf_54, tf_55, tf_56, eW, g_59, g_60, g_61, g_62, g_63, kn_64, rfl⟩ := hw
      have hP : va_P V.1 vwCl [(y 3, aI V 4 fy3), (y 9, aI V 900 fy9), (y 19, .inr (4, o4_rrrrrr (y 2) (y 20) (y 21) (y 22) (y 23) (y 24))), (y 20, aI V 2000 f_41), (y 21, aI V 6 f_42), (y 22, aI V 64 f_43), (y 0, .inr (9, o9_rirrrrrrrrrviii (y 1) py0_1 (y 2) (y 10) (y 19) (y 25) (y 26) (y 30) (y 31) (y 32) (Yw 0) o11 py0_12 py0_13 py0_14)), (y 2, .inr (1, o1_iiiiiirrrrrrriiiii py2_0 py2_1 py2_2 py2_3 py2_4 py2_5 (y 3) (y 4) (y 5) (y 6) (y 7) (y 8) (y 9) py2_13 py2_14 py2_15 py2_16 py2_17)), (Yw 0, .inr (8, o8_iirrriirrrrrrriii v_44 (nI n) (Yw 1) (Yw 2) wa_39 v_45 v_46 (y 19) (Yw 4) (Yw 5) (Yw 6) (Yw 7) (Yw 8) wb_40 v_47 v_48 v_49)), (Yw 1, aI V n f_50), (Yw 2, aI V n f_51), (wa_39, aI V n f_52), (Yw 4, aI V L f_53), (Yw 5, aI V n f_54), (Yw 6, aI V (n * 4) f_55), (Yw 7, aI V n f_56), (Yw 8, aI V 4 f_57), (wb_40, aI V n f_58)] H := hP
      have hD := cpD hP hD
      rw [← eW]
      refine lv_astore_n (lv' := [(3, .ref (Yw 0)), (0, .ref (y 0)), (1, .int a1), (2, .int a2)]) hx hb dX9_soonest_26 rfl hl (by decide) rfl (fun ls hl => ?_)
      refine lv_aload_n hx hb dX9_soonest_27 rfl (lv_at hl 0 rfl) ?_
      refine lv_iload_n hx hb dX9_soonest_28 rfl (lv_at hl 2 rfl) ?_
      refine lv_iload_n hx hb dX9_soonest_29 rfl (lv_at hl 3 rfl) ?_
      refine jnI (wr := [(y 0, .inr (9, o9_rirrrrrrrrrviii (y 1) py0_1 (y 2) (y 10) (y 19) (y 25) (y 26) (y 30) (y 31) (y 32) (Yw 0) o11 py0_12 py0_13 py0_14)), (wa_39, aI V n f_52), (Yw 7, aI V n f_56), (wb_40, aI V n f_58)]) (rnV (rest := []) ⟨hx, hb, hml, hown, hg⟩ (k_X8_firstWith_0 l V n L Yw y D9 a1 a2 py2_0 py2_1 py2_2 py2_3 py2_4 py2_5 py2_13 py2_14 py2_15 py2_16 py2_17 fy3 fy9 f_41 f_42 f_43 v_44 wa_39 v_45 v_46 wb_40 v_47 v_48 v_49 f_50 f_51 f_53 f_54 f_55 f_57 hn hL b_17 (iv_w b_18 (by first | decide | omega)) bpy2_2 bpy2_3 bpy2_4 bpy2_5 bpy2_13 bpy2_14 bpy2_15 bpy2_16 bpy2_17 tf_41 bv_44 bv_45 bv_46 bv_47 bv_48 bv_49 tf_50 tf_53 tf_54 tf_55 g_59 g_60 g_61 hL9 kn_64) mt_X8_firstWith q_4_145 ⟨Nat.le_of_ble_eq_true rfl, Nat.le_of_ble_eq_true rfl⟩ hK hP hD hS hA hE [7, 0, 1, 2, 3, 4, 5, 8, 9, 10, 12, 13, 14, 16] rfl rfl 8 rfl rfl rfl rfl hl.1 rfl (Nat.le_of_ble_eq_true rfl) dX9_soonest_30 ⟨Nat.le_of_ble_eq_true rfl, Nat.le_of_ble_eq_true rfl⟩) hP hD hS hA [7, 0, 1, 2, 3, 4, 5, 8, 9, 10, 12, 13, 14, 16] [6, 11, 15, 17] rfl rfl rfl (by decide) (fun r_65 w H locs hw hP hD hS => ?_)
      obtain ⟨f_66, f_67, f_68, v_69, v_70, f_71, f_72, f_73, f_74, f_75, f_76, tf_66, bv_69, bv_70, tf_71, tf_73, tf_74, tf_75, br_65, g_77, g_78, g_79, kn_80, rfl⟩ := hw
      have hP : va_P V.1 vwCl [(y 0, .inr (9, o9_rirrrrrrrrrviii (y 1) py0_1 (y 2) (y 10) (y 19) (y 25) (y 26) (y 30) (y 31) (y 32) (Yw 0) o11 py0_12 py0_13 py0_14)), (wa_39, aI V n f_52), (Yw 7, aI V n f_56), (wb_40, aI V n f_58), (y 2, .inr (1, o1_iiiiiirrrrrrriiiii py2_0 py2_1 py2_2 py2_3 py2_4 py2_5 (y 3) (y 4) (y 5) (y 6) (y 7) (y 8) (y 9) py2_13 py2_14 py2_15 py2_16 py2_17)), (y 3, aI V 4 fy3), (y 9, aI V 900 fy9), (y 19, .inr (4, o4_rrrrrr (y 2) (y 20) (y 21) (y 22) (y 23) (y 24))), (y 20, aI V 2000 f_66), (y 21, aI V 6 f_67), (y 22, aI V 64 f_68), (Yw 0, .inr (8, o8_iirrriirrrrrrriii v_44 (nI n) (Yw 1) (Yw 2) wa_39 v_69 v_46 (y 19) (Yw 4) (Yw 5) (Yw 6) (Yw 7) (Yw 8) wb_40 v_47 v_48 v_70)), (Yw 1, aI V n f_71), (Yw 2, aI V n f_72), (Yw 4, aI V L f_73), (Yw 5, aI V n f_74), (Yw 6, aI V (n * 4) f_75), (Yw 8, aI V 4 f_76)] H := hP
      have hD := cpD hP hD
      refine lv_istore (lv' := [(4, .int r_65), (3, .ref (Yw 0)), (0, .ref (y 0)), (1, .int a1), (2, .int a2)]) hx hb dX9_soonest_33 hl (by decide) rfl (fun ls hl => ?_)
      refine lv_iload hx hb dX9_soonest_35 (lv_at hl 0 rfl) ?_
      refine lv_if_ge (tgt := 44) hx hb dX9_soonest_37 (by decide) (fun c_81 => ?_) (fun c_81 => ?_)
      · have b_82 : iv 0 ((n : Int) - 1) r_65 := iv_e2 c_81 (iv_c (0 : Int32) (a := 0) (b := 0) (by decide)) br_65 (by first | decide | omega)
        refine lv_aload_n hx hb dX9_soonest_44 rfl (lv_at hl 1 rfl) ?_
        refine va_get (ci := 8) (v := .ref (Yw 2)) (C := RX8) (T := TX8) (N := 17) hx hb hg inX8 hown hK hP 11 rfl rfl 3 (by decide) (hg _ q_4_73) (fun _ h9 => h9) rfl dX9_soonest_45 ?_
        refine lv_iload hx hb dX9_soonest_48 (lv_at hl 0 rfl) ?_
        refine va_iald hx hb hK hP 13 0 rfl rfl (iv_in b_82 (by first | decide | omega)) dX9_soonest_50 ?_
        refine lv_topi (fun x_83 ex_83 => ?_)
        have hP := subP (ws' := [(y 0, .inr (9, o9_rirrrrrrrrrviii (y 1) py0_1 (y 2) (y 10) (y 19) (y 25) (y 26) (y 30) (y 31) (y 32) (Yw 0) o11 py0_12 py0_13 py0_14)), (y 2, .inr (1, o1_iiiiiirrrrrrriiiii py2_0 py2_1 py2_2 py2_3 py2_4 py2_5 (y 3) (y 4) (y 5) (y 6) (y 7) (y 8) (y 9) py2_13 py2_14 py2_15 py2_16 py2_17)), (y 3, aI V 4 fy3), (y 9, aI V 900 fy9), (y 19, .inr (4, o4_rrrrrr (y 2) (y 20) (y 21) (y 22) (y 23) (y 24))), (y 20, aI V 2000 f_66), (y 21, aI V 6 f_67), (y 22, aI V 64 f_68), (Yw 0, .inr (8, o8_iirrriirrrrrrriii v_44 (nI n) (Yw 1) (Yw 2) wa_39 v_69 v_46 (y 19) (Yw 4) (Yw 5) (Yw 6) (Yw 7) (Yw 8) wb_40 v_47 v_48 v_70)), (Yw 1, aI V n f_71), (Yw 2, aI V n f_72), (wa_39, aI V n f_52), (Yw 4, aI V L f_73), (Yw 5, aI V n f_74), (Yw 6, aI V (n * 4) f_75), (Yw 7, aI V n f_56), (Yw 8, aI V 4 f_76), (wb_40, aI V n f_58)]) hP [0, 4, 5, 6, 7, 8, 9, 10, 11, 12, 13, 1, 14, 15, 16, 2, 17, 3] rfl
        have hD := subD hP hD [0, 4, 5, 6, 7, 8, 9, 10, 11, 12, 13, 1, 14, 15, 16, 2, 17, 3] rfl rfl
        exact fiI hx hb hr hlk hK (subP (ws' := [(y 0, .inr (9, o9_rirrrrrrrrrviii (y 1) py0_1 (y 2) (y 10) (y 19) (y 25) (y 26) (y 30) (y 31) (y 32) (Yw 0) o11 py0_12 py0_13 py0_14)), (y 2, .inr (1, o1_iiiiiirrrrrrriiiii py2_0 py2_1 py2_2 py2_3 py2_4 py2_5 (y 3) (y 4) (y 5) (y 6) (y 7) (y 8) (y 9) py2_13 py2_14 py2_15 py2_16 py2_17)), (y 3, aI V 4 fy3), (y 9, aI V 900 fy9), (y 19, .inr (4, o4_rrrrrr (y 2) (y 20) (y 21) (y 22) (y 23) (y 24))), (y 20, aI V 2000 f_66), (y 21, aI V 6 f_67), (y 22, aI V 64 f_68), (Yw 0, .inr (8, o8_iirrriirrrrrrriii v_44 (nI n) (Yw 1) (Yw 2) wa_39 v_69 v_46 (y 19) (Yw 4) (Yw 5) (Yw 6) (Yw 7) (Yw 8) wb_40 v_47 v_48 v_70)), (Yw 1, aI V n f_71), (Yw 2, aI V n f_72), (wa_39, aI V n f_52), (Yw 4, aI V L f_73), (Yw 5, aI V n f_74), (Yw 6, aI V (n * 4) f_75), (Yw 7, aI V n f_56), (Yw 8, aI V 4 f_76), (wb_40, aI V n f_58)]) hP [0, 1, 2, 3, 4, 5, 6, 7, 8, 9, 10, 11, 12, 13, 14, 15, 16, 17] rfl) (hD.sub [0, 1, 2, 3, 4, 5, 6, 7, 8, 9, 10, 11, 12, 13, 14, 15, 16, 17] rfl rfl) hS dX9_soonest_51 (Nat.le_of_ble_eq_true rfl) (Nat.le_of_ble_eq_true rfl) (⟨n, L, Yw, wa_39, wb_40, f_66, f_67, f_68, v_44, v_69, v_46, v_47, v_48, v_70, f_71, f_72, f_52, f_73, f_74, f_75, f_56, f_76, f_58, hn, hL, tf_66, bv_44, bv_69, bv_46, bv_47, bv_48, bv_70, tf_71, tf_73, tf_74, tf_75, tf_56, g_77, g_78, g_79, g_63, kn_80, rfl⟩)
      · have b_84 : iv (-1) (-1) r_65 := iv_l1 (Int32.not_le.mp c_81) br_65 (iv_c (0 : Int32) (a := 0) (b := 0) (by decide)) (by first | decide | omega)
        refine lv_iconst (v := (-1)) hx hb dX9_soonest_40 (by decide) ?_
        refine lv_goto (tgt := 51) hx hb dX9_soonest_41 (by decide) ?_
        have hP := subP (ws' := [(y 0, .inr (9, o9_rirrrrrrrrrviii (y 1) py0_1 (y 2) (y 10) (y 19) (y 25) (y 26) (y 30) (y 31) (y 32) (Yw 0) o11 py0_12 py0_13 py0_14)), (y 2, .inr (1, o1_iiiiiirrrrrrriiiii py2_0 py2_1 py2_2 py2_3 py2_4 py2_5 (y 3) (y 4) (y 5) (y 6) (y 7) (y 8) (y 9) py2_13 py2_14 py2_15 py2_16 py2_17)), (y 3, aI V 4 fy3), (y 9, aI V 900 fy9), (y 19, .inr (4, o4_rrrrrr (y 2) (y 20) (y 21) (y 22) (y 23) (y 24))), (y 20, aI V 2000 f_66), (y 21, aI V 6 f_67), (y 22, aI V 64 f_68), (Yw 0, .inr (8, o8_iirrriirrrrrrriii v_44 (nI n) (Yw 1) (Yw 2) wa_39 v_69 v_46 (y 19) (Yw 4) (Yw 5) (Yw 6) (Yw 7) (Yw 8) wb_40 v_47 v_48 v_70)), (Yw 1, aI V n f_71), (Yw 2, aI V n f_72), (wa_39, aI V n f_52), (Yw 4, aI V L f_73), (Yw 5, aI V n f_74), (Yw 6, aI V (n * 4) f_75), (Yw 7, aI V n f_56), (Yw 8, aI V 4 f_76), (wb_40, aI V n f_58)]) hP [0, 4, 5, 6, 7, 8, 9, 10, 11, 12, 13, 1, 14, 15, 16, 2, 17, 3] rfl
        have hD := subD hP hD [0, 4, 5, 6, 7, 8, 9, 10, 11, 12, 13, 1, 14, 15, 16, 2, 17, 3] rfl rfl
        exact fiI hx hb hr hlk hK (subP (ws' := [(y 0, .inr (9, o9_rirrrrrrrrrviii (y 1) py0_1 (y 2) (y 10) (y 19) (y 25) (y 26) (y 30) (y 31) (y 32) (Yw 0) o11 py0_12 py0_13 py0_14)), (y 2, .inr (1, o1_iiiiiirrrrrrriiiii py2_0 py2_1 py2_2 py2_3 py2_4 py2_5 (y 3) (y 4) (y 5) (y 6) (y 7) (y 8) (y 9) py2_13 py2_14 py2_15 py2_16 py2_17)), (y 3, aI V 4 fy3), (y 9, aI V 900 fy9), (y 19, .inr (4, o4_rrrrrr (y 2) (y 20) (y 21) (y 22) (y 23) (y 24))), (y 20, aI V 2000 f_66), (y 21, aI V 6 f_67), (y 22, aI V 64 f_68), (Yw 0, .inr (8, o8_iirrriirrrrrrriii v_44 (nI n) (Yw 1) (Yw 2) wa_39 v_69 v_46 (y 19) (Yw 4) (Yw 5) (Yw 6) (Yw 7) (Yw 8) wb_40 v_47 v_48 v_70)), (Yw 1, aI V n f_71), (Yw 2, aI V n f_72), (wa_39, aI V n f_52), (Yw 4, aI V L f_73), (Yw 5, aI V n f_74), (Yw 6, aI V (n * 4) f_75), (Yw 7, aI V n f_56), (Yw 8, aI V 4 f_76), (wb_40, aI V n f_58)]) hP [0, 1, 2, 3, 4, 5, 6, 7, 8, 9, 10, 11, 12, 13, 14, 15, 16, 17] rfl) (hD.sub [0, 1, 2, 3, 4, 5, 6, 7, 8, 9, 10, 11, 12, 13, 14, 15, 16, 17] rfl rfl) hS dX9_soonest_51 (Nat.le_of_ble_eq_true rfl) (Nat.le_of_ble_eq_true rfl) (⟨n, L, Yw, wa_39, wb_40, f_66, f_67, f_68, v_44, v_69, v_46, v_47, v_48, v_70, f_71, f_72, f_52, f_73, f_74, f_75, f_56, f_76, f_58, hn, hL, tf_66, bv_44, bv_69, bv_46, bv_47, bv_48, bv_70, tf_71, tf_73, tf_74, tf_75, tf_56, g_77, g_78, g_79, g_63, kn_80, rfl⟩)
set_option maxHeartbeats 4000000 in
set_option maxRecDepth 100000 in
theorem k_X9_way_1 (l : Launch) (V : GV) (y : Nat → Nat) (a1 : Int32) (a2 : Int32) (a3 : Int32) (py0_1 : Int32) (o10 : Value) (o11 : Value) (py0_12 : Int32) (py0_13 : Int32) (py0_14 : Int32) (py2_0 : Int32) (py2_1 : Int32) (py2_2 : Int32) (py2_3 : Int32) (py2_4 : Int32) (py2_5 : Int32) (py2_13 : Int32) (py2_14 : Int32) (py2_15 : Int32) (py2_16 : Int32) (py2_17 : Int32) (bpy0_1 : iv 0 900 py0_1) (bpy0_12 : iv 0 9999 py0_12) (bpy0_13 : iv 0 9 py0_13) (bpy2_1 : iv 0 4 py2_1) (bpy2_2 : iv 0 4 py2_2) (bpy2_3 : iv 0 8 py2_3) (bpy2_4 : iv 0 9999 py2_4) (bpy2_5 : iv 0 9 py2_5) (bpy2_13 : iv 0 900 py2_13) (bpy2_14 : iv 0 900 py2_14) (bpy2_15 : iv 0 900 py2_15) (bpy2_16 : iv 0 900 py2_16) (bpy2_17 : iv 0 900 py2_17) (hf0 : ¬ (0 ≤ (a1 : Int32).toInt ∧ (a1 : Int32).toInt < (py2_1 : Int32).toInt ∧ 0 ≤ (a2 : Int32).toInt ∧ (a2 : Int32).toInt ≤ 4 ∧ 0 ≤ (a3 : Int32).toInt)) : Ct l V yX9_way (.code yX9_way cX9_way 6 (some .int)) 2 [.ref (y 0), .int a1, .int a2, .int a3] [(y 0, .inr (9, o9_rirrrrrrrrvviii (y 1) py0_1 (y 2) (y 10) (y 19) (y 25) (y 26) (y 30) (y 31) (y 32) o10 o11 py0_12 py0_13 py0_14)), (y 2, .inr (1, o1_iiiiiirrrrrrriiiii py2_0 py2_1 py2_2 py2_3 py2_4 py2_5 (y 3) (y 4) (y 5) (y 6) (y 7) (y 8) (y 9) py2_13 py2_14 py2_15 py2_16 py2_17))] 0 0 (QI V (fun (r : Int32) (w : va_W) => iv (-3) (-2) r ∧ w = [(y 0, .inr (9, o9_rirrrrrrrrvviii (y 1) py0_1 (y 2) (y 10) (y 19) (y 25) (y 26) (y 30) (y 31) (y 32) o10 o11 py0_12 py0_13 py0_14)), (y 2, .inr (1, o1_iiiiiirrrrrrriiiii py2_0 py2_1 py2_2 py2_3 py2_4 py2_5 (y 3) (y 4) (y 5) (y 6) (y 7) (y 8) (y 9) py2_13 py2_14 py2_15 py2_16 py2_17))])) := by
  refine Ct.of (by decide) (Nat.le_of_ble_eq_true rfl) (fun p e s m below meth c A ls hx hb hr hml hown hlk hnm hg hP hK hD hE hA hS hl => ?_)
  have hl : lv_has ls 6 [(0, .ref (y 0)), (1, .int a1), (2, .int a2), (3, .int a3)] := hl
  refine lv_aload_n hx hb dX9_way_0 rfl (lv_at hl 0 rfl) ?_
  refine lv_iload_n hx hb dX9_way_1 rfl (lv_at hl 1 rfl) ?_
  refine jnI (wr := []) (rnV (rest := []) ⟨hx, hb, hml, hown, hg⟩ (k_X9_isHill_0 l V y a1 py0_1 o10 o11 py0_12 py0_13 py0_14 py2_0 py2_1 py2_2 py2_3 py2_4 py2_5 py2_13 py2_14 py2_15 py2_16 py2_17 bpy0_1 bpy0_12 bpy0_13 bpy2_1 bpy2_2 bpy2_3 bpy2_4 bpy2_5 bpy2_13 bpy2_14 bpy2_15 bpy2_16 bpy2_17) mt_X9_isHill q_3_122 ⟨Nat.le_of_ble_eq_true rfl, Nat.le_of_ble_eq_true rfl⟩ hK hP hD hS hA hE [0, 1] rfl rfl 0 rfl rfl rfl rfl hl.1 rfl (Nat.le_of_ble_eq_true rfl) dX9_way_2 ⟨Nat.le_of_ble_eq_true rfl, Nat.le_of_ble_eq_true rfl⟩) hP hD hS hA [0, 1] [] rfl rfl rfl (by decide) (fun r_1 w H locs hw hP hD hS => ?_)
  rcases hw with ⟨c_2, rfl, et_3, rfl⟩ | ⟨c_4, c_5, rfl, et_6, rfl⟩ | ⟨c_7, c_8, rfl, et_9, rfl⟩
  · have hP : va_P V.1 vwCl [(y 0, .inr (9, o9_rirrrrrrrrvviii (y 1) py0_1 (y 2) (y 10) (y 19) (y 25) (y 26) (y 30) (y 31) (y 32) o10 o11 py0_12 py0_13 py0_14)), (y 2, .inr (1, o1_iiiiiirrrrrrriiiii py2_0 py2_1 py2_2 py2_3 py2_4 py2_5 (y 3) (y 4) (y 5) (y 6) (y 7) (y 8) (y 9) py2_13 py2_14 py2_15 py2_16 py2_17))] H := hP
    have hD := cpD hP hD
    have b_10 : iv (-2147483648) (-1) a1 := iv_l1 c_2 (iv_top a1) (iv_c (0 : Int32) (a := 0) (b := 0) (by decide)) (by decide)
    refine lv_if_ne (tgt := 11) hx hb dX9_way_5 (by decide) (fun c_12 => absurd c_12 (by decide)) (fun _ => ?_)
    refine lv_bipush (v := (-2)) hx hb dX9_way_8 (by decide) ?_
    exact fiI hx hb hr hlk hK hP hD hS dX9_way_10 (Nat.le_of_ble_eq_true rfl) (Nat.le_of_ble_eq_true rfl) (⟨(iv_c ((-2) : Int32) (by decide)), rfl⟩)
  · have hP : va_P V.1 vwCl [(y 0, .inr (9, o9_rirrrrrrrrvviii (y 1) py0_1 (y 2) (y 10) (y 19) (y 25) (y 26) (y 30) (y 31) (y 32) o10 o11 py0_12 py0_13 py0_14)), (y 2, .inr (1, o1_iiiiiirrrrrrriiiii py2_0 py2_1 py2_2 py2_3 py2_4 py2_5 (y 3) (y 4) (y 5) (y 6) (y 7) (y 8) (y 9) py2_13 py2_14 py2_15 py2_16 py2_17))] H := hP
    have hD := cpD hP hD
    have b_13 : iv 0 2147483647 a1 := iv_e2 (Int32.not_lt.mp c_4) (iv_c (0 : Int32) (a := 0) (b := 0) (by decide)) (iv_top a1) (by decide)
    refine lv_if_ne (tgt := 11) hx hb dX9_way_5 (by decide) (fun c_15 => absurd c_15 (by decide)) (fun _ => ?_)
    refine lv_bipush (v := (-2)) hx hb dX9_way_8 (by decide) ?_
    exact fiI hx hb hr hlk hK hP hD hS dX9_way_10 (Nat.le_of_ble_eq_true rfl) (Nat.le_of_ble_eq_true rfl) (⟨(iv_c ((-2) : Int32) (by decide)), rfl⟩)
  · have hP : va_P V.1 vwCl [(y 0, .inr (9, o9_rirrrrrrrrvviii (y 1) py0_1 (y 2) (y 10) (y 19) (y 25) (y 26) (y 30) (y 31) (y 32) o10 o11 py0_12 py0_13 py0_14)), (y 2, .inr (1, o1_iiiiiirrrrrrriiiii py2_0 py2_1 py2_2 py2_3 py2_4 py2_5 (y 3) (y 4) (y 5) (y 6) (y 7) (y 8) (y 9) py2_13 py2_14 py2_15 py2_16 py2_17))] H := hP
    have hD := cpD hP hD
    have b_16 : iv 0 2147483647 a1 := iv_e2 (Int32.not_lt.mp c_7) (iv_c (0 : Int32) (a := 0) (b := 0) (by decide)) (iv_top a1) (by decide)
    have b_17 : iv 0 3 a1 := iv_l1 (Int32.not_le.mp c_8) b_16 bpy2_1 (by decide)
    have b_18 : iv 1 4 py2_1 := iv_l2 (Int32.not_le.mp c_8) b_16 bpy2_1 (by decide)
    refine lv_if_ne (tgt := 11) hx hb dX9_way_5 (by decide) (fun _ => ?_) (fun c_20 => absurd c_20 (by decide))
    refine lv_iload_n hx hb dX9_way_11 rfl (lv_at hl 2 rfl) ?_
    refine jnI (wr := [(y 0, .inr (9, o9_rirrrrrrrrvviii (y 1) py0_1 (y 2) (y 10) (y 19) (y 25) (y 26) (y 30) (y 31) (y 32) o10 o11 py0_12 py0_13 py0_14)), (y 2, .inr (1, o1_iiiiiirrrrrrriiiii py2_0 py2_1 py2_2 py2_3 py2_4 py2_5 (y 3) (y 4) (y 5) (y 6) (y 7) (y 8) (y 9) py2_13 py2_14 py2_15 py2_16 py2_17))]) (rnS (rest := []) ⟨hx, hb, hml, hown, hg⟩ (k_X9_isHeight_0 l V a2) mt_X9_isHeight q_4_49 ⟨Nat.le_of_ble_eq_true rfl, Nat.le_of_ble_eq_true rfl⟩ hK hP hD hS hA hE [] rfl rfl rfl hl.1 rfl (Nat.le_of_ble_eq_true rfl) dX9_way_12 ⟨Nat.le_of_ble_eq_true rfl, Nat.le_of_ble_eq_true rfl⟩) hP hD hS hA [] [0, 1] rfl rfl rfl (by decide) (fun r_21 w H locs hw hP hD hS => ?_)
    rcases hw with ⟨c_22, rfl, rfl⟩ | ⟨c_23, c_24, rfl, rfl⟩ | ⟨c_25, c_26, rfl, rfl⟩
    · have hP : va_P V.1 vwCl [(y 0, .inr (9, o9_rirrrrrrrrvviii (y 1) py0_1 (y 2) (y 10) (y 19) (y 25) (y 26) (y 30) (y 31) (y 32) o10 o11 py0_12 py0_13 py0_14)), (y 2, .inr (1, o1_iiiiiirrrrrrriiiii py2_0 py2_1 py2_2 py2_3 py2_4 py2_5 (y 3) (y 4) (y 5) (y 6) (y 7) (y 8) (y 9) py2_13 py2_14 py2_15 py2_16 py2_17))] H := hP
      have hD := cpD hP hD
      have b_27 : iv (-2147483648) (-1) a2 := iv_l1 c_22 (iv_top a2) (iv_c (0 : Int32) (a := 0) (b := 0) (by decide)) (by decide)
      refine lv_if_eq (tgt := 22) hx hb dX9_way_15 (by decide) (fun _ => ?_) (fun c_29 => absurd c_29 (by decide))
      refine lv_bipush (v := (-3)) hx hb dX9_way_22 (by decide) ?_
      exact fiI hx hb hr hlk hK hP hD hS dX9_way_24 (Nat.le_of_ble_eq_true rfl) (Nat.le_of_ble_eq_true rfl) (⟨(iv_c ((-3) : Int32) (by decide)), rfl⟩)
    · have hP : va_P V.1 vwCl [(y 0, .inr (9, o9_rirrrrrrrrvviii (y 1) py0_1 (y 2) (y 10) (y 19) (y 25) (y 26) (y 30) (y 31) (y 32) o10 o11 py0_12 py0_13 py0_14)), (y 2, .inr (1, o1_iiiiiirrrrrrriiiii py2_0 py2_1 py2_2 py2_3 py2_4 py2_5 (y 3) (y 4) (y 5) (y 6) (y 7) (y 8) (y 9) py2_13 py2_14 py2_15 py2_16 py2_17))] H := hP
      have hD := cpD hP hD
      have b_30 : iv 0 2147483647 a2 := iv_e2 (Int32.not_lt.mp c_23) (iv_c (0 : Int32) (a := 0) (b := 0) (by decide)) (iv_top a2) (by decide)
      have b_31 : iv 5 2147483647 a2 := iv_l2 c_24 (iv_c (4 : Int32) (a := 4) (b := 4) (by decide)) b_30 (by decide)
      refine lv_if_eq (tgt := 22) hx hb dX9_way_15 (by decide) (fun _ => ?_) (fun c_33 => absurd c_33 (by decide))
      refine lv_bipush (v := (-3)) hx hb dX9_way_22 (by decide) ?_
      exact fiI hx hb hr hlk hK hP hD hS dX9_way_24 (Nat.le_of_ble_eq_true rfl) (Nat.le_of_ble_eq_true rfl) (⟨(iv_c ((-3) : Int32) (by decide)), rfl⟩)
    · have hP : va_P V.1 vwCl [(y 0, .inr (9, o9_rirrrrrrrrvviii (y 1) py0_1 (y 2) (y 10) (y 19) (y 25) (y 26) (y 30) (y 31) (y 32) o10 o11 py0_12 py0_13 py0_14)), (y 2, .inr (1, o1_iiiiiirrrrrrriiiii py2_0 py2_1 py2_2 py2_3 py2_4 py2_5 (y 3) (y 4) (y 5) (y 6) (y 7) (y 8) (y 9) py2_13 py2_14 py2_15 py2_16 py2_17))] H := hP
      have hD := cpD hP hD
      have b_34 : iv 0 2147483647 a2 := iv_e2 (Int32.not_lt.mp c_25) (iv_c (0 : Int32) (a := 0) (b := 0) (by decide)) (iv_top a2) (by decide)
      have b_35 : iv 0 4 a2 := iv_e1 (Int32.not_lt.mp c_26) b_34 (iv_c (4 : Int32) (a := 4) (b := 4) (by decide)) (by decide)
      refine lv_if_eq (tgt := 22) hx hb dX9_way_15 (by decide) (fun c_37 => absurd c_37 (by decide)) (fun _ => ?_)
      refine lv_iload_n hx hb dX9_way_18 rfl (lv_at hl 3 rfl) ?_
      refine lv_if_ge (tgt := 25) hx hb dX9_way_19 (by decide) (fun c_38 => ?_) (fun c_38 => ?_)
      · have b_39 : iv 0 2147483647 a3 := iv_e2 c_38 (iv_c (0 : Int32) (a := 0) (b := 0) (by decide)) (iv_top a3) (by decide)
        refine lv_aload_n hx hb dX9_way_25 rfl (lv_at hl 0 rfl) ?_
        refine lv_iconst (v := 0) hx hb dX9_way_26 (by decide) ?_
        have z_0 := Int32.le_iff_toInt_le.mp (Int32.not_lt.mp c_7)
        have z_1 := Int32.lt_iff_toInt_lt.mp (Int32.not_le.mp c_8)
        have z_2 := Int32.le_iff_toInt_le.mp (Int32.not_lt.mp c_25)
        have z_3 := Int32.le_iff_toInt_le.mp (Int32.not_lt.mp c_26)
        have z_4 := Int32.le_iff_toInt_le.mp c_38
        have k_0 : (0 : Int32).toInt = 0 := (by decide)
        have k_4 : (4 : Int32).toInt = 4 := (by decide)
        exact absurd (⟨by omega, by omega, by omega, by omega, by omega⟩) hf0
      · have b_40 : iv (-2147483648) (-1) a3 := iv_l1 (Int32.not_le.mp c_38) (iv_top a3) (iv_c (0 : Int32) (a := 0) (b := 0) (by decide)) (by decide)
        refine lv_bipush (v := (-3)) hx hb dX9_way_22 (by decide) ?_
        exact fiI hx hb hr hlk hK hP hD hS dX9_way_24 (Nat.le_of_ble_eq_true rfl) (Nat.le_of_ble_eq_true rfl) (⟨(iv_c ((-3) : Int32) (by decide)), rfl⟩)
set_option maxHeartbeats 4000000 in
set_option maxRecDepth 100000 in
theorem k_X9_way_2 (l : Launch) (V : GV) (y : Nat → Nat) (D9 : Nat → Int32) (a1 : Int32) (a2 : Int32) (a3 : Int32) (py0_1 : Int32) (o11 : Value) (py0_12 : Int32) (py0_13 : Int32) (py0_14 : Int32) (py2_0 : Int32) (py2_1 : Int32) (py2_2 : Int32) (py2_3 : Int32) (py2_4 : Int32) (py2_5 : Int32) (py2_13 : Int32) (py2_14 : Int32) (py2_15 : Int32) (py2_16 : Int32) (py2_17 : Int32) (fy3 : Nat → Int32) (fy9 : Nat → Int32) (fy20 : Nat → Int32) (fy21 : Nat → Int32) (fy22 : Nat → Int32) (bpy0_1 : iv 0 900 py0_1) (bpy0_12 : iv 0 9999 py0_12) (bpy0_13 : iv 0 9 py0_13) (bpy2_1 : iv 0 4 py2_1) (bpy2_2 : iv 0 4 py2_2) (bpy2_3 : iv 0 8 py2_3) (bpy2_4 : iv 0 9999 py2_4) (bpy2_5 : iv 0 9 py2_5) (bpy2_13 : iv 0 900 py2_13) (bpy2_14 : iv 0 900 py2_14) (bpy2_15 : iv 0 900 py2_15) (bpy2_16 : iv 0 900 py2_16) (bpy2_17 : iv 0 900 py2_17) (tfy20 : ∀ j, iv 0 10 (fy20 j)) (hf0 : 0 ≤ (a1 : Int32).toInt) (hf1 : (a1 : Int32).toInt < (py2_1 : Int32).toInt) (hf2 : 0 ≤ (a2 : Int32).toInt) (hf3 : (a2 : Int32).toInt ≤ 4) (hf4 : 0 ≤ (a3 : Int32).toInt) (hL9 : LW D9 fy3 fy9 py2_14 py2_15 py2_16 py2_17) (hK9 : KN D9 fy20) : Ct l V yX9_way (.code yX9_way cX9_way 6 (some .int)) 8 [.ref (y 0), .int a1, .int a2, .int a3] [(y 0, .inr (9, o9_rirrrrrrrrnviii (y 1) py0_1 (y 2) (y 10) (y 19) (y 25) (y 26) (y 30) (y 31) (y 32) o11 py0_12 py0_13 py0_14)), (y 2, .inr (1, o1_iiiiiirrrrrrriiiii py2_0 py2_1 py2_2 py2_3 py2_4 py2_5 (y 3) (y 4) (y 5) (y 6) (y 7) (y 8) (y 9) py2_13 py2_14 py2_15 py2_16 py2_17)), (y 3, aI V 4 fy3), (y 9, aI V 900 fy9), (y 19, .inr (4, o4_rrrrrr (y 2) (y 20) (y 21) (y 22) (y 23) (y 24))), (y 20, aI V 2000 fy20), (y 21, aI V 6 fy21), (y 22, aI V 64 fy22)] 10 46481 (QI V (fun (r : Int32) (w : va_W) => ∃ (n : Nat) (L : Nat) (Yw : Nat → Nat) (wa : Nat) (wb : Nat) (g0 : Nat → Int32) (g1 : Nat → Int32) (g2 : Nat → Int32) (ww0 : Int32) (ww5 : Int32) (ww6 : Int32) (ww14 : Int32) (ww15 : Int32) (ww16 : Int32) (wew1 : Nat → Int32) (wew2 : Nat → Int32) (wew3 : Nat → Int32) (wew4 : Nat → Int32) (wew5 : Nat → Int32) (wew6 : Nat → Int32) (wew7 : Nat → Int32) (wew8 : Nat → Int32) (wew9 : Nat → Int32), (1 ≤ n ∧ n ≤ 3646) ∧ (1 ≤ L ∧ L ≤ 10000) ∧ (∀ j, iv 0 10 (g0 j)) ∧ iv 0 4 ww0 ∧ iv 0 ((n : Int)) ww5 ∧ iv 0 4 ww6 ∧ iv 0 4 ww14 ∧ iv 0 9 ww15 ∧ iv 0 ((n : Int)) ww16 ∧ (∀ j, iv 0 ((L : Int) - 1) (wew1 j)) ∧ (∀ j, iv 0 ((n : Int)) (wew4 j)) ∧ (∀ j, iv 0 (4 * (n : Int) - 1) (wew5 j)) ∧ (∀ j, iv 0 ((n : Int) - 1) (wew6 j)) ∧ (∀ j, iv 0 ((n : Int) - 1) (wew7 j)) ∧ iv (-1) 3 r ∧ (WA ww5 wew4 wew1) ∧ (WB ww16 ww6 ww5 wew6) ∧ (WC ww5 wew2) ∧ (ww0 = py2_1) ∧ KN D9 g0 ∧ w = [(y 0, .inr (9, o9_rirrrrrrrrrviii (y 1) py0_1 (y 2) (y 10) (y 19) (y 25) (y 26) (y 30) (y 31) (y 32) (Yw 0) o11 py0_12 py0_13 py0_14)), (y 2, .inr (1, o1_iiiiiirrrrrrriiiii py2_0 py2_1 py2_2 py2_3 py2_4 py2_5 (y 3) (y 4) (y 5) (y 6) (y 7) (y 8) (y 9) py2_13 py2_14 py2_15 py2_16 py2_17)), (y 3, aI V 4 fy3), (y 9, aI V 900 fy9), (y 19, .inr (4, o4_rrrrrr (y 2) (y 20) (y 21) (y 22) (y 23) (y 24))), (y 20, aI V 2000 g0), (y 21, aI V 6 g1), (y 22, aI V 64 g2), (Yw 0, .inr (8, o8_iirrriirrrrrrriii ww0 (nI n) (Yw 1) (Yw 2) wa ww5 ww6 (y 19) (Yw 4) (Yw 5) (Yw 6) (Yw 7) (Yw 8) wb ww14 ww15 ww16)), (Yw 1, aI V n wew1), (Yw 2, aI V n wew2), (wa, aI V n wew3), (Yw 4, aI V L wew4), (Yw 5, aI V n wew5), (Yw 6, aI V (n * 4) wew6), (Yw 7, aI V n wew7), (Yw 8, aI V 4 wew8), (wb, aI V n wew9)])) := by
  refine Ct.of (by decide) (Nat.le_of_ble_eq_true rfl) (fun p e s m below meth c A ls hx hb hr hml hown hlk hnm hg hP hK hD hE hA hS hl => ?_)
  have hl : lv_has ls 6 [(0, .ref (y 0)), (1, .int a1), (2, .int a2), (3, .int a3)] := hl
  refine lv_aload_n hx hb dX9_way_0 rfl (lv_at hl 0 rfl) ?_
  refine lv_iload_n hx hb dX9_way_1 rfl (lv_at hl 1 rfl) ?_
  refine jnI (wr := [(y 3, aI V 4 fy3), (y 9, aI V 900 fy9), (y 19, .inr (4, o4_rrrrrr (y 2) (y 20) (y 21) (y 22) (y 23) (y 24))), (y 20, aI V 2000 fy20), (y 21, aI V 6 fy21), (y 22, aI V 64 fy22)]) (rnV (rest := []) ⟨hx, hb, hml, hown, hg⟩ (k_X9_isHill_0 l V y a1 py0_1 (.null) o11 py0_12 py0_13 py0_14 py2_0 py2_1 py2_2 py2_3 py2_4 py2_5 py2_13 py2_14 py2_15 py2_16 py2_17 bpy0_1 bpy0_12 bpy0_13 bpy2_1 bpy2_2 bpy2_3 bpy2_4 bpy2_5 bpy2_13 bpy2_14 bpy2_15 bpy2_16 bpy2_17) mt_X9_isHill q_3_122 ⟨Nat.le_of_ble_eq_true rfl, Nat.le_of_ble_eq_true rfl⟩ hK hP hD hS hA hE [0, 1] rfl rfl 0 rfl rfl rfl rfl hl.1 rfl (Nat.le_of_ble_eq_true rfl) dX9_way_2 ⟨Nat.le_of_ble_eq_true rfl, Nat.le_of_ble_eq_true rfl⟩) hP hD hS hA [0, 1] [2, 3, 4, 5, 6, 7] rfl rfl rfl (by decide) (fun r_1 w H locs hw hP hD hS => ?_)
  rcases hw with ⟨c_2, rfl, et_3, rfl⟩ | ⟨c_4, c_5, rfl, et_6, rfl⟩ | ⟨c_7, c_8, rfl, et_9, rfl⟩
  · have hP : va_P V.1 vwCl [(y 3, aI V 4 fy3), (y 9, aI V 900 fy9), (y 19, .inr (4, o4_rrrrrr (y 2) (y 20) (y 21) (y 22) (y 23) (y 24))), (y 20, aI V 2000 fy20), (y 21, aI V 6 fy21), (y 22, aI V 64 fy22), (y 0, .inr (9, o9_rirrrrrrrrnviii (y 1) py0_1 (y 2) (y 10) (y 19) (y 25) (y 26) (y 30) (y 31) (y 32) o11 py0_12 py0_13 py0_14)), (y 2, .inr (1, o1_iiiiiirrrrrrriiiii py2_0 py2_1 py2_2 py2_3 py2_4 py2_5 (y 3) (y 4) (y 5) (y 6) (y 7) (y 8) (y 9) py2_13 py2_14 py2_15 py2_16 py2_17))] H := hP
    have hD := cpD hP hD
    have b_10 : iv (-2147483648) (-1) a1 := iv_l1 c_2 (iv_top a1) (iv_c (0 : Int32) (a := 0) (b := 0) (by decide)) (by first | decide | omega)
    refine lv_if_ne (tgt := 11) hx hb dX9_way_5 (by decide) (fun c_12 => absurd c_12 (by decide)) (fun _ => ?_)
    refine lv_bipush (v := (-2)) hx hb dX9_way_8 (by decide) ?_
    have z_0 := Int32.lt_iff_toInt_lt.mp c_2
    have k_0 : (0 : Int32).toInt = 0 := (by decide)
    exfalso
    have g_0 := hf0
    have g_1 := hf1
    have g_2 := hf2
    have g_3 := hf3
    have g_4 := hf4
    omega
  · have hP : va_P V.1 vwCl [(y 3, aI V 4 fy3), (y 9, aI V 900 fy9), (y 19, .inr (4, o4_rrrrrr (y 2) (y 20) (y 21) (y 22) (y 23) (y 24))), (y 20, aI V 2000 fy20), (y 21, aI V 6 fy21), (y 22, aI V 64 fy22), (y 0, .inr (9, o9_rirrrrrrrrnviii (y 1) py0_1 (y 2) (y 10) (y 19) (y 25) (y 26) (y 30) (y 31) (y 32) o11 py0_12 py0_13 py0_14)), (y 2, .inr (1, o1_iiiiiirrrrrrriiiii py2_0 py2_1 py2_2 py2_3 py2_4 py2_5 (y 3) (y 4) (y 5) (y 6) (y 7) (y 8) (y 9) py2_13 py2_14 py2_15 py2_16 py2_17))] H := hP
    have hD := cpD hP hD
    have b_13 : iv 0 2147483647 a1 := iv_e2 (Int32.not_lt.mp c_4) (iv_c (0 : Int32) (a := 0) (b := 0) (by decide)) (iv_top a1) (by first | decide | omega)
    refine lv_if_ne (tgt := 11) hx hb dX9_way_5 (by decide) (fun c_15 => absurd c_15 (by decide)) (fun _ => ?_)
    refine lv_bipush (v := (-2)) hx hb dX9_way_8 (by decide) ?_
    have z_0 := Int32.le_iff_toInt_le.mp (Int32.not_lt.mp c_4)
    have z_1 := Int32.le_iff_toInt_le.mp c_5
    have k_0 : (0 : Int32).toInt = 0 := (by decide)
    exfalso
    have g_0 := hf0
    have g_1 := hf1
    have g_2 := hf2
    have g_3 := hf3
    have g_4 := hf4
    omega
  · have hP : va_P V.1 vwCl [(y 3, aI V 4 fy3), (y 9, aI V 900 fy9), (y 19, .inr (4, o4_rrrrrr (y 2) (y 20) (y 21) (y 22) (y 23) (y 24))), (y 20, aI V 2000 fy20), (y 21, aI V 6 fy21), (y 22, aI V 64 fy22), (y 0, .inr (9, o9_rirrrrrrrrnviii (y 1) py0_1 (y 2) (y 10) (y 19) (y 25) (y 26) (y 30) (y 31) (y 32) o11 py0_12 py0_13 py0_14)), (y 2, .inr (1, o1_iiiiiirrrrrrriiiii py2_0 py2_1 py2_2 py2_3 py2_4 py2_5 (y 3) (y 4) (y 5) (y 6) (y 7) (y 8) (y 9) py2_13 py2_14 py2_15 py2_16 py2_17))] H := hP
    have hD := cpD hP hD
    have b_16 : iv 0 2147483647 a1 := iv_e2 (Int32.not_lt.mp c_7) (iv_c (0 : Int32) (a := 0) (b := 0) (by decide)) (iv_top a1) (by first | decide | omega)
    have b_17 : iv 0 3 a1 := iv_l1 (Int32.not_le.mp c_8) b_16 bpy2_1 (by first | decide | omega)
    have b_18 : iv 1 4 py2_1 := iv_l2 (Int32.not_le.mp c_8) b_16 bpy2_1 (by first | decide | omega)
    refine lv_if_ne (tgt := 11) hx hb dX9_way_5 (by decide) (fun _ => ?_) (fun c_20 => absurd c_20 (by decide))
    refine lv_iload_n hx hb dX9_way_11 rfl (lv_at hl 2 rfl) ?_
    refine jnI (wr := [(y 3, aI V 4 fy3), (y 9, aI V 900 fy9), (y 19, .inr (4, o4_rrrrrr (y 2) (y 20) (y 21) (y 22) (y 23) (y 24))), (y 20, aI V 2000 fy20), (y 21, aI V 6 fy21), (y 22, aI V 64 fy22), (y 0, .inr (9, o9_rirrrrrrrrnviii (y 1) py0_1 (y 2) (y 10) (y 19) (y 25) (y 26) (y 30) (y 31) (y 32) o11 py0_12 py0_13 py0_14)), (y 2, .inr (1, o1_iiiiiirrrrrrriiiii py2_0 py2_1 py2_2 py2_3 py2_4 py2_5 (y 3) (y 4) (y 5) (y 6) (y 7) (y 8) (y 9) py2_13 py2_14 py2_15 py2_16 py2_17))]) (rnS (rest := []) ⟨hx, hb, hml, hown, hg⟩ (k_X9_isHeight_0 l V a2) mt_X9_isHeight q_4_49 ⟨Nat.le_of_ble_eq_true rfl, Nat.le_of_ble_eq_true rfl⟩ hK hP hD hS hA hE [] rfl rfl rfl hl.1 rfl (Nat.le_of_ble_eq_true rfl) dX9_way_12 ⟨Nat.le_of_ble_eq_true rfl, Nat.le_of_ble_eq_true rfl⟩) hP hD hS hA [] [0, 1, 2, 3, 4, 5, 6, 7] rfl rfl rfl (by decide) (fun r_21 w H locs hw hP hD hS => ?_)
    rcases hw with ⟨c_22, rfl, rfl⟩ | ⟨c_23, c_24, rfl, rfl⟩ | ⟨c_25, c_26, rfl, rfl⟩
    · have hP : va_P V.1 vwCl [(y 3, aI V 4 fy3), (y 9, aI V 900 fy9), (y 19, .inr (4, o4_rrrrrr (y 2) (y 20) (y 21) (y 22) (y 23) (y 24))), (y 20, aI V 2000 fy20), (y 21, aI V 6 fy21), (y 22, aI V 64 fy22), (y 0, .inr (9, o9_rirrrrrrrrnviii (y 1) py0_1 (y 2) (y 10) (y 19) (y 25) (y 26) (y 30) (y 31) (y 32) o11 py0_12 py0_13 py0_14)), (y 2, .inr (1, o1_iiiiiirrrrrrriiiii py2_0 py2_1 py2_2 py2_3 py2_4 py2_5 (y 3) (y 4) (y 5) (y 6) (y 7) (y 8) (y 9) py2_13 py2_14 py2_15 py2_16 py2_17))] H := hP
      have hD := cpD hP hD
      have b_27 : iv (-2147483648) (-1) a2 := iv_l1 c_22 (iv_top a2) (iv_c (0 : Int32) (a := 0) (b := 0) (by decide)) (by first | decide | omega)
      refine lv_if_eq (tgt := 22) hx hb dX9_way_15 (by decide) (fun _ => ?_) (fun c_29 => absurd c_29 (by decide))
      refine lv_bipush (v := (-3)) hx hb dX9_way_22 (by decide) ?_
      have z_0 := Int32.le_iff_toInt_le.mp (Int32.not_lt.mp c_7)
      have z_1 := Int32.lt_iff_toInt_lt.mp (Int32.not_le.mp c_8)
      have z_2 := Int32.lt_iff_toInt_lt.mp c_22
      have k_0 : (0 : Int32).toInt = 0 := (by decide)
      exfalso
      have g_0 := hf0
      have g_1 := hf1
      have g_2 := hf2
      have g_3 := hf3
      have g_4 := hf4
      omega
    · have hP : va_P V.1 vwCl [(y 3, aI V 4 fy3), (y 9, aI V 900 fy9), (y 19, .inr (4, o4_rrrrrr (y 2) (y 20) (y 21) (y 22) (y 23) (y 24))), (y 20, aI V 2000 fy20), (y 21, aI V 6 fy21), (y 22, aI V 64 fy22), (y 0, .inr (9, o9_rirrrrrrrrnviii (y 1) py0_1 (y 2) (y 10) (y 19) (y 25) (y 26) (y 30) (y 31) (y 32) o11 py0_12 py0_13 py0_14)), (y 2, .inr (1, o1_iiiiiirrrrrrriiiii py2_0 py2_1 py2_2 py2_3 py2_4 py2_5 (y 3) (y 4) (y 5) (y 6) (y 7) (y 8) (y 9) py2_13 py2_14 py2_15 py2_16 py2_17))] H := hP
      have hD := cpD hP hD
      have b_30 : iv 0 2147483647 a2 := iv_e2 (Int32.not_lt.mp c_23) (iv_c (0 : Int32) (a := 0) (b := 0) (by decide)) (iv_top a2) (by first | decide | omega)
      have b_31 : iv 5 2147483647 a2 := iv_l2 c_24 (iv_c (4 : Int32) (a := 4) (b := 4) (by decide)) b_30 (by first | decide | omega)
      refine lv_if_eq (tgt := 22) hx hb dX9_way_15 (by decide) (fun _ => ?_) (fun c_33 => absurd c_33 (by decide))
      refine lv_bipush (v := (-3)) hx hb dX9_way_22 (by decide) ?_
      have z_0 := Int32.le_iff_toInt_le.mp (Int32.not_lt.mp c_7)
      have z_1 := Int32.lt_iff_toInt_lt.mp (Int32.not_le.mp c_8)
      have z_2 := Int32.le_iff_toInt_le.mp (Int32.not_lt.mp c_23)
      have z_3 := Int32.lt_iff_toInt_lt.mp c_24
      have k_0 : (0 : Int32).toInt = 0 := (by decide)
      have k_4 : (4 : Int32).toInt = 4 := (by decide)
      exfalso
      have g_0 := hf0
      have g_1 := hf1
      have g_2 := hf2
      have g_3 := hf3
      have g_4 := hf4
      omega
    · have hP : va_P V.1 vwCl [(y 3, aI V 4 fy3), (y 9, aI V 900 fy9), (y 19, .inr (4, o4_rrrrrr (y 2) (y 20) (y 21) (y 22) (y 23) (y 24))), (y 20, aI V 2000 fy20), (y 21, aI V 6 fy21), (y 22, aI V 64 fy22), (y 0, .inr (9, o9_rirrrrrrrrnviii (y 1) py0_1 (y 2) (y 10) (y 19) (y 25) (y 26) (y 30) (y 31) (y 32) o11 py0_12 py0_13 py0_14)), (y 2, .inr (1, o1_iiiiiirrrrrrriiiii py2_0 py2_1 py2_2 py2_3 py2_4 py2_5 (y 3) (y 4) (y 5) (y 6) (y 7) (y 8) (y 9) py2_13 py2_14 py2_15 py2_16 py2_17))] H := hP
      have hD := cpD hP hD
      have b_34 : iv 0 2147483647 a2 := iv_e2 (Int32.not_lt.mp c_25) (iv_c (0 : Int32) (a := 0) (b := 0) (by decide)) (iv_top a2) (by first | decide | omega)
      have b_35 : iv 0 4 a2 := iv_e1 (Int32.not_lt.mp c_26) b_34 (iv_c (4 : Int32) (a := 4) (b := 4) (by decide)) (by first | decide | omega)
      refine lv_if_eq (tgt := 22) hx hb dX9_way_15 (by decide) (fun c_37 => absurd c_37 (by decide)) (fun _ => ?_)
      refine lv_iload_n hx hb dX9_way_18 rfl (lv_at hl 3 rfl) ?_
      refine lv_if_ge (tgt := 25) hx hb dX9_way_19 (by decide) (fun c_38 => ?_) (fun c_38 => ?_)
      · have b_39 : iv 0 2147483647 a3 := iv_e2 c_38 (iv_c (0 : Int32) (a := 0) (b := 0) (by decide)) (iv_top a3) (by first | decide | omega)
        refine lv_aload_n hx hb dX9_way_25 rfl (lv_at hl 0 rfl) ?_
        refine lv_iconst (v := 0) hx hb dX9_way_26 (by decide) ?_
        refine jnR (wr := []) (rnV (rest := []) ⟨hx, hb, hml, hown, hg⟩ (k_X9_waysFromNow_1 l V y D9 0 fy3 fy9 fy20 fy21 fy22 py0_1 o11 py0_12 py0_13 py0_14 py2_0 py2_1 py2_2 py2_3 py2_4 py2_5 py2_13 py2_14 py2_15 py2_16 py2_17 tfy20 bpy0_1 bpy0_12 bpy0_13 (iv_w b_18 (by first | decide | omega)) bpy2_2 bpy2_3 bpy2_4 bpy2_5 bpy2_13 bpy2_14 bpy2_15 bpy2_16 bpy2_17 hL9 hK9) mt_X9_waysFromNow q_4_52 ⟨Nat.le_of_ble_eq_true rfl, Nat.le_of_ble_eq_true rfl⟩ hK hP hD hS hA hE [0, 1, 2, 3, 4, 5, 6, 7] rfl rfl 6 rfl rfl rfl rfl hl.1 rfl (Nat.le_of_ble_eq_true rfl) dX9_way_27 ⟨Nat.le_of_ble_eq_true rfl, Nat.le_of_ble_eq_true rfl⟩) hP hD hS hA [0, 1, 2, 3, 4, 5, 6, 7] [] rfl rfl rfl (by decide) (fun r_40 w H locs hw hP hD hS => ?_)
        refine W.widen (k := 10) (n := 46481) (Nat.le_of_ble_eq_true rfl) (Nat.le_of_ble_eq_true rfl) ?_
        obtain ⟨n, L, Yw, wa_41, wb_42, f_43, f_44, f_45, v_46, v_47, v_48, v_49, v_50, v_51, f_52, f_53, f_54, f_55, f_56, f_57, f_58, f_59, f_60, hn, hL, tf_43, bv_46, bv_47, bv_48, bv_49, bv_50, bv_51, tf_52, tf_55, tf_56, tf_57, tf_58, eW, g_61, g_62, g_63, g_64, g_65, kn_66, rfl⟩ := hw
        have hP : va_P V.1 vwCl [(y 3, aI V 4 fy3), (y 9, aI V 900 fy9), (y 19, .inr (4, o4_rrrrrr (y 2) (y 20) (y 21) (y 22) (y 23) (y 24))), (y 20, aI V 2000 f_43), (y 21, aI V 6 f_44), (y 22, aI V 64 f_45), (y 0, .inr (9, o9_rirrrrrrrrrviii (y 1) py0_1 (y 2) (y 10) (y 19) (y 25) (y 26) (y 30) (y 31) (y 32) (Yw 0) o11 py0_12 py0_13 py0_14)), (y 2, .inr (1, o1_iiiiiirrrrrrriiiii py2_0 py2_1 py2_2 py2_3 py2_4 py2_5 (y 3) (y 4) (y 5) (y 6) (y 7) (y 8) (y 9) py2_13 py2_14 py2_15 py2_16 py2_17)), (Yw 0, .inr (8, o8_iirrriirrrrrrriii v_46 (nI n) (Yw 1) (Yw 2) wa_41 v_47 v_48 (y 19) (Yw 4) (Yw 5) (Yw 6) (Yw 7) (Yw 8) wb_42 v_49 v_50 v_51)), (Yw 1, aI V n f_52), (Yw 2, aI V n f_53), (wa_41, aI V n f_54), (Yw 4, aI V L f_55), (Yw 5, aI V n f_56), (Yw 6, aI V (n * 4) f_57), (Yw 7, aI V n f_58), (Yw 8, aI V 4 f_59), (wb_42, aI V n f_60)] H := hP
        have hD := cpD hP hD
        rw [← eW]
        refine lv_astore (lv' := [(4, .ref (Yw 0)), (0, .ref (y 0)), (1, .int a1), (2, .int a2), (3, .int a3)]) hx hb dX9_way_30 hl (by decide) rfl (fun ls hl => ?_)
        refine lv_aload hx hb dX9_way_32 (lv_at hl 0 rfl) ?_
        refine lv_iload_n hx hb dX9_way_34 rfl (lv_at hl 2 rfl) ?_
        refine lv_iload_n hx hb dX9_way_35 rfl (lv_at hl 3 rfl) ?_
        refine jnI (wr := [(y 0, .inr (9, o9_rirrrrrrrrrviii (y 1) py0_1 (y 2) (y 10) (y 19) (y 25) (y 26) (y 30) (y 31) (y 32) (Yw 0) o11 py0_12 py0_13 py0_14)), (wa_41, aI V n f_54), (Yw 7, aI V n f_58), (wb_42, aI V n f_60)]) (rnV (rest := []) ⟨hx, hb, hml, hown, hg⟩ (k_X8_firstWith_0 l V n L Yw y D9 a1 a2 py2_0 py2_1 py2_2 py2_3 py2_4 py2_5 py2_13 py2_14 py2_15 py2_16 py2_17 fy3 fy9 f_43 f_44 f_45 v_46 wa_41 v_47 v_48 wb_42 v_49 v_50 v_51 f_52 f_53 f_55 f_56 f_57 f_59 hn hL b_17 (iv_w b_18 (by first | decide | omega)) bpy2_2 bpy2_3 bpy2_4 bpy2_5 bpy2_13 bpy2_14 bpy2_15 bpy2_16 bpy2_17 tf_43 bv_46 bv_47 bv_48 bv_49 bv_50 bv_51 tf_52 tf_55 tf_56 tf_57 g_61 g_62 g_63 hL9 kn_66) mt_X8_firstWith q_4_145 ⟨Nat.le_of_ble_eq_true rfl, Nat.le_of_ble_eq_true rfl⟩ hK hP hD hS hA hE [7, 0, 1, 2, 3, 4, 5, 8, 9, 10, 12, 13, 14, 16] rfl rfl 8 rfl rfl rfl rfl hl.1 rfl (Nat.le_of_ble_eq_true rfl) dX9_way_36 ⟨Nat.le_of_ble_eq_true rfl, Nat.le_of_ble_eq_true rfl⟩) hP hD hS hA [7, 0, 1, 2, 3, 4, 5, 8, 9, 10, 12, 13, 14, 16] [6, 11, 15, 17] rfl rfl rfl (by decide) (fun r_67 w H locs hw hP hD hS => ?_)
        obtain ⟨f_68, f_69, f_70, v_71, v_72, f_73, f_74, f_75, f_76, f_77, f_78, tf_68, bv_71, bv_72, tf_73, tf_75, tf_76, tf_77, br_67, g_79, g_80, g_81, kn_82, rfl⟩ := hw
        have hP : va_P V.1 vwCl [(y 0, .inr (9, o9_rirrrrrrrrrviii (y 1) py0_1 (y 2) (y 10) (y 19) (y 25) (y 26) (y 30) (y 31) (y 32) (Yw 0) o11 py0_12 py0_13 py0_14)), (wa_41, aI V n f_54), (Yw 7, aI V n f_58), (wb_42, aI V n f_60), (y 2, .inr (1, o1_iiiiiirrrrrrriiiii py2_0 py2_1 py2_2 py2_3 py2_4 py2_5 (y 3) (y 4) (y 5) (y 6) (y 7) (y 8) (y 9) py2_13 py2_14 py2_15 py2_16 py2_17)), (y 3, aI V 4 fy3), (y 9, aI V 900 fy9), (y 19, .inr (4, o4_rrrrrr (y 2) (y 20) (y 21) (y 22) (y 23) (y 24))), (y 20, aI V 2000 f_68), (y 21, aI V 6 f_69), (y 22, aI V 64 f_70), (Yw 0, .inr (8, o8_iirrriirrrrrrriii v_46 (nI n) (Yw 1) (Yw 2) wa_41 v_71 v_48 (y 19) (Yw 4) (Yw 5) (Yw 6) (Yw 7) (Yw 8) wb_42 v_49 v_50 v_72)), (Yw 1, aI V n f_73), (Yw 2, aI V n f_74), (Yw 4, aI V L f_75), (Yw 5, aI V n f_76), (Yw 6, aI V (n * 4) f_77), (Yw 8, aI V 4 f_78)] H := hP
        have hD := cpD hP hD
        refine lv_istore (lv' := [(5, .int r_67), (4, .ref (Yw 0)), (0, .ref (y 0)), (1, .int a1), (2, .int a2), (3, .int a3)]) hx hb dX9_way_39 hl (by decide) rfl (fun ls hl => ?_)
        refine lv_iload hx hb dX9_way_41 (lv_at hl 0 rfl) ?_
        refine lv_if_ge (tgt := 50) hx hb dX9_way_43 (by decide) (fun c_83 => ?_) (fun c_83 => ?_)
        · have b_84 : iv 0 ((n : Int) - 1) r_67 := iv_e2 c_83 (iv_c (0 : Int32) (a := 0) (b := 0) (by decide)) br_67 (by first | decide | omega)
          refine lv_aload hx hb dX9_way_50 (lv_at hl 1 rfl) ?_
          refine lv_iload hx hb dX9_way_52 (lv_at hl 0 rfl) ?_
          refine lv_iload_n hx hb dX9_way_54 rfl (lv_at hl 5 rfl) ?_
          refine jnI (wr := [(y 0, .inr (9, o9_rirrrrrrrrrviii (y 1) py0_1 (y 2) (y 10) (y 19) (y 25) (y 26) (y 30) (y 31) (y 32) (Yw 0) o11 py0_12 py0_13 py0_14)), (wa_41, aI V n f_54), (Yw 7, aI V n f_58), (wb_42, aI V n f_60), (y 2, .inr (1, o1_iiiiiirrrrrrriiiii py2_0 py2_1 py2_2 py2_3 py2_4 py2_5 (y 3) (y 4) (y 5) (y 6) (y 7) (y 8) (y 9) py2_13 py2_14 py2_15 py2_16 py2_17)), (y 3, aI V 4 fy3), (y 9, aI V 900 fy9), (y 19, .inr (4, o4_rrrrrr (y 2) (y 20) (y 21) (y 22) (y 23) (y 24))), (y 20, aI V 2000 f_68), (y 21, aI V 6 f_69), (y 22, aI V 64 f_70), (Yw 1, aI V n f_73), (Yw 4, aI V L f_75), (Yw 6, aI V (n * 4) f_77), (Yw 8, aI V 4 f_78)]) (rnV (rest := []) ⟨hx, hb, hml, hown, hg⟩ (k_X8_deedTowards_0 l V n Yw y r_67 a3 v_46 wa_41 v_71 v_48 wb_42 v_49 v_50 v_72 f_74 f_76 hn b_84 bv_46 bv_71 bv_48 bv_49 bv_50 bv_72 tf_76) mt_X8_deedTowards q_4_154 ⟨Nat.le_of_ble_eq_true rfl, Nat.le_of_ble_eq_true rfl⟩ hK hP hD hS hA hE [11, 13, 15] rfl rfl 11 rfl rfl rfl rfl hl.1 rfl (Nat.le_of_ble_eq_true rfl) dX9_way_55 ⟨Nat.le_of_ble_eq_true rfl, Nat.le_of_ble_eq_true rfl⟩) hP hD hS hA [11, 13, 15] [0, 1, 2, 3, 4, 5, 6, 7, 8, 9, 10, 12, 14, 16, 17] rfl rfl rfl (by decide) (fun r_85 w H locs hw hP hD hS => ?_)
          obtain ⟨br_85, rfl⟩ := hw
          have hP : va_P V.1 vwCl [(y 0, .inr (9, o9_rirrrrrrrrrviii (y 1) py0_1 (y 2) (y 10) (y 19) (y 25) (y 26) (y 30) (y 31) (y 32) (Yw 0) o11 py0_12 py0_13 py0_14)), (wa_41, aI V n f_54), (Yw 7, aI V n f_58), (wb_42, aI V n f_60), (y 2, .inr (1, o1_iiiiiirrrrrrriiiii py2_0 py2_1 py2_2 py2_3 py2_4 py2_5 (y 3) (y 4) (y 5) (y 6) (y 7) (y 8) (y 9) py2_13 py2_14 py2_15 py2_16 py2_17)), (y 3, aI V 4 fy3), (y 9, aI V 900 fy9), (y 19, .inr (4, o4_rrrrrr (y 2) (y 20) (y 21) (y 22) (y 23) (y 24))), (y 20, aI V 2000 f_68), (y 21, aI V 6 f_69), (y 22, aI V 64 f_70), (Yw 1, aI V n f_73), (Yw 4, aI V L f_75), (Yw 6, aI V (n * 4) f_77), (Yw 8, aI V 4 f_78), (Yw 0, .inr (8, o8_iirrriirrrrrrriii v_46 (nI n) (Yw 1) (Yw 2) wa_41 v_71 v_48 (y 19) (Yw 4) (Yw 5) (Yw 6) (Yw 7) (Yw 8) wb_42 v_49 v_50 v_72)), (Yw 2, aI V n f_74), (Yw 5, aI V n f_76)] H := hP
          have hD := cpD hP hD
          have hP := subP (ws' := [(y 0, .inr (9, o9_rirrrrrrrrrviii (y 1) py0_1 (y 2) (y 10) (y 19) (y 25) (y 26) (y 30) (y 31) (y 32) (Yw 0) o11 py0_12 py0_13 py0_14)), (y 2, .inr (1, o1_iiiiiirrrrrrriiiii py2_0 py2_1 py2_2 py2_3 py2_4 py2_5 (y 3) (y 4) (y 5) (y 6) (y 7) (y 8) (y 9) py2_13 py2_14 py2_15 py2_16 py2_17)), (y 3, aI V 4 fy3), (y 9, aI V 900 fy9), (y 19, .inr (4, o4_rrrrrr (y 2) (y 20) (y 21) (y 22) (y 23) (y 24))), (y 20, aI V 2000 f_68), (y 21, aI V 6 f_69), (y 22, aI V 64 f_70), (wa_41, aI V n f_54), (Yw 7, aI V n f_58), (wb_42, aI V n f_60), (Yw 1, aI V n f_73), (Yw 4, aI V L f_75), (Yw 6, aI V (n * 4) f_77), (Yw 8, aI V 4 f_78), (Yw 0, .inr (8, o8_iirrriirrrrrrriii v_46 (nI n) (Yw 1) (Yw 2) wa_41 v_71 v_48 (y 19) (Yw 4) (Yw 5) (Yw 6) (Yw 7) (Yw 8) wb_42 v_49 v_50 v_72)), (Yw 2, aI V n f_74), (Yw 5, aI V n f_76)]) hP [0, 4, 5, 6, 7, 8, 9, 10, 1, 2, 3, 11, 12, 13, 14, 15, 16, 17] rfl
          have hD := subD hP hD [0, 4, 5, 6, 7, 8, 9, 10, 1, 2, 3, 11, 12, 13, 14, 15, 16, 17] rfl rfl
          exact fiI hx hb hr hlk hK (subP (ws' := [(y 0, .inr (9, o9_rirrrrrrrrrviii (y 1) py0_1 (y 2) (y 10) (y 19) (y 25) (y 26) (y 30) (y 31) (y 32) (Yw 0) o11 py0_12 py0_13 py0_14)), (y 2, .inr (1, o1_iiiiiirrrrrrriiiii py2_0 py2_1 py2_2 py2_3 py2_4 py2_5 (y 3) (y 4) (y 5) (y 6) (y 7) (y 8) (y 9) py2_13 py2_14 py2_15 py2_16 py2_17)), (y 3, aI V 4 fy3), (y 9, aI V 900 fy9), (y 19, .inr (4, o4_rrrrrr (y 2) (y 20) (y 21) (y 22) (y 23) (y 24))), (y 20, aI V 2000 f_68), (y 21, aI V 6 f_69), (y 22, aI V 64 f_70), (Yw 0, .inr (8, o8_iirrriirrrrrrriii v_46 (nI n) (Yw 1) (Yw 2) wa_41 v_71 v_48 (y 19) (Yw 4) (Yw 5) (Yw 6) (Yw 7) (Yw 8) wb_42 v_49 v_50 v_72)), (Yw 1, aI V n f_73), (Yw 2, aI V n f_74), (wa_41, aI V n f_54), (Yw 4, aI V L f_75), (Yw 5, aI V n f_76), (Yw 6, aI V (n * 4) f_77), (Yw 7, aI V n f_58), (Yw 8, aI V 4 f_78), (wb_42, aI V n f_60)]) hP [0, 1, 2, 3, 4, 5, 6, 7, 15, 11, 16, 8, 12, 17, 13, 9, 14, 10] rfl) (hD.sub [0, 1, 2, 3, 4, 5, 6, 7, 15, 11, 16, 8, 12, 17, 13, 9, 14, 10] rfl rfl) hS dX9_way_58 (Nat.le_of_ble_eq_true rfl) (Nat.le_of_ble_eq_true rfl) (⟨n, L, Yw, wa_41, wb_42, f_68, f_69, f_70, v_46, v_71, v_48, v_49, v_50, v_72, f_73, f_74, f_54, f_75, f_76, f_77, f_58, f_78, f_60, hn, hL, tf_68, bv_46, bv_71, bv_48, bv_49, bv_50, bv_72, tf_73, tf_75, tf_76, tf_77, tf_58, br_85, g_79, g_80, g_81, g_65, kn_82, rfl⟩)
        · have b_86 : iv (-1) (-1) r_67 := iv_l1 (Int32.not_le.mp c_83) br_67 (iv_c (0 : Int32) (a := 0) (b := 0) (by decide)) (by first | decide | omega)
          refine lv_iconst (v := (-1)) hx hb dX9_way_46 (by decide) ?_
          refine lv_goto (tgt := 58) hx hb dX9_way_47 (by decide) ?_
          have hP := subP (ws' := [(y 0, .inr (9, o9_rirrrrrrrrrviii (y 1) py0_1 (y 2) (y 10) (y 19) (y 25) (y 26) (y 30) (y 31) (y 32) (Yw 0) o11 py0_12 py0_13 py0_14)), (y 2, .inr (1, o1_iiiiiirrrrrrriiiii py2_0 py2_1 py2_2 py2_3 py2_4 py2_5 (y 3) (y 4) (y 5) (y 6) (y 7) (y 8) (y 9) py2_13 py2_14 py2_15 py2_16 py2_17)), (y 3, aI V 4 fy3), (y 9, aI V 900 fy9), (y 19, .inr (4, o4_rrrrrr (y 2) (y 20) (y 21) (y 22) (y 23) (y 24))), (y 20, aI V 2000 f_68), (y 21, aI V 6 f_69), (y 22, aI V 64 f_70), (wa_41, aI V n f_54), (Yw 7, aI V n f_58), (wb_42, aI V n f_60), (Yw 0, .inr (8, o8_iirrriirrrrrrriii v_46 (nI n) (Yw 1) (Yw 2) wa_41 v_71 v_48 (y 19) (Yw 4) (Yw 5) (Yw 6) (Yw 7) (Yw 8) wb_42 v_49 v_50 v_72)), (Yw 1, aI V n f_73), (Yw 2, aI V n f_74), (Yw 4, aI V L f_75), (Yw 5, aI V n f_76), (Yw 6, aI V (n * 4) f_77), (Yw 8, aI V 4 f_78)]) hP [0, 4, 5, 6, 7, 8, 9, 10, 1, 2, 3, 11, 12, 13, 14, 15, 16, 17] rfl
          have hD := subD hP hD [0, 4, 5, 6, 7, 8, 9, 10, 1, 2, 3, 11, 12, 13, 14, 15, 16, 17] rfl rfl
          exact fiI hx hb hr hlk hK (subP (ws' := [(y 0, .inr (9, o9_rirrrrrrrrrviii (y 1) py0_1 (y 2) (y 10) (y 19) (y 25) (y 26) (y 30) (y 31) (y 32) (Yw 0) o11 py0_12 py0_13 py0_14)), (y 2, .inr (1, o1_iiiiiirrrrrrriiiii py2_0 py2_1 py2_2 py2_3 py2_4 py2_5 (y 3) (y 4) (y 5) (y 6) (y 7) (y 8) (y 9) py2_13 py2_14 py2_15 py2_16 py2_17)), (y 3, aI V 4 fy3), (y 9, aI V 900 fy9), (y 19, .inr (4, o4_rrrrrr (y 2) (y 20) (y 21) (y 22) (y 23) (y 24))), (y 20, aI V 2000 f_68), (y 21, aI V 6 f_69), (y 22, aI V 64 f_70), (Yw 0, .inr (8, o8_iirrriirrrrrrriii v_46 (nI n) (Yw 1) (Yw 2) wa_41 v_71 v_48 (y 19) (Yw 4) (Yw 5) (Yw 6) (Yw 7) (Yw 8) wb_42 v_49 v_50 v_72)), (Yw 1, aI V n f_73), (Yw 2, aI V n f_74), (wa_41, aI V n f_54), (Yw 4, aI V L f_75), (Yw 5, aI V n f_76), (Yw 6, aI V (n * 4) f_77), (Yw 7, aI V n f_58), (Yw 8, aI V 4 f_78), (wb_42, aI V n f_60)]) hP [0, 1, 2, 3, 4, 5, 6, 7, 11, 12, 13, 8, 14, 15, 16, 9, 17, 10] rfl) (hD.sub [0, 1, 2, 3, 4, 5, 6, 7, 11, 12, 13, 8, 14, 15, 16, 9, 17, 10] rfl rfl) hS dX9_way_58 (Nat.le_of_ble_eq_true rfl) (Nat.le_of_ble_eq_true rfl) (⟨n, L, Yw, wa_41, wb_42, f_68, f_69, f_70, v_46, v_71, v_48, v_49, v_50, v_72, f_73, f_74, f_54, f_75, f_76, f_77, f_58, f_78, f_60, hn, hL, tf_68, bv_46, bv_71, bv_48, bv_49, bv_50, bv_72, tf_73, tf_75, tf_76, tf_77, tf_58, (iv_c ((-1) : Int32) (by decide)), g_79, g_80, g_81, g_65, kn_82, rfl⟩)
      · have b_87 : iv (-2147483648) (-1) a3 := iv_l1 (Int32.not_le.mp c_38) (iv_top a3) (iv_c (0 : Int32) (a := 0) (b := 0) (by decide)) (by first | decide | omega)
        refine lv_bipush (v := (-3)) hx hb dX9_way_22 (by decide) ?_
        have z_0 := Int32.le_iff_toInt_le.mp (Int32.not_lt.mp c_7)
        have z_1 := Int32.lt_iff_toInt_lt.mp (Int32.not_le.mp c_8)
        have z_2 := Int32.le_iff_toInt_le.mp (Int32.not_lt.mp c_25)
        have z_3 := Int32.le_iff_toInt_le.mp (Int32.not_lt.mp c_26)
        have z_4 := Int32.lt_iff_toInt_lt.mp (Int32.not_le.mp c_38)
        have k_0 : (0 : Int32).toInt = 0 := (by decide)
        have k_4 : (4 : Int32).toInt = 4 := (by decide)
        exfalso
        have g_0 := hf0
        have g_1 := hf1
        have g_2 := hf2
        have g_3 := hf3
        have g_4 := hf4
        omega
set_option maxHeartbeats 4000000 in
set_option maxRecDepth 100000 in
theorem k_X9_way_3 (l : Launch) (V : GV) (n : Nat) (L : Nat) (Yw : Nat → Nat) (y : Nat → Nat) (D9 : Nat → Int32) (a1 : Int32) (a2 : Int32) (a3 : Int32) (py0_1 : Int32) (o11 : Value) (py0_12 : Int32) (py0_13 : Int32) (py0_14 : Int32) (py2_0 : Int32) (py2_1 : Int32) (py2_2 : Int32) (py2_3 : Int32) (py2_4 : Int32) (py2_5 : Int32) (py2_13 : Int32) (py2_14 : Int32) (py2_15 : Int32) (py2_16 : Int32) (py2_17 : Int32) (fy3 : Nat → Int32) (fy9 : Nat → Int32) (fy20 : Nat → Int32) (fy21 : Nat → Int32) (fy22 : Nat → Int32) (pYw0_0 : Int32) (wa : Nat) (pYw0_5 : Int32) (pYw0_6 : Int32) (wb : Nat) (pYw0_14 : Int32) (pYw0_15 : Int32) (pYw0_16 : Int32) (fYw1 : Nat → Int32) (fYw2 : Nat → Int32) (fwa : Nat → Int32) (fYw4 : Nat → Int32) (fYw5 : Nat → Int32) (fYw6 : Nat → Int32) (fYw7 : Nat → Int32) (fYw8 : Nat → Int32) (fwb : Nat → Int32) (hn : 1 ≤ n ∧ n ≤ 3646) (hL : 1 ≤ L ∧ L ≤ 10000) (hq0 : pYw0_0 < py2_1) (bpy0_1 : iv 0 900 py0_1) (bpy0_12 : iv 0 9999 py0_12) (bpy0_13 : iv 0 9 py0_13) (bpy2_1 : iv 0 4 py2_1) (bpy2_2 : iv 0 4 py2_2) (bpy2_3 : iv 0 8 py2_3) (bpy2_4 : iv 0 9999 py2_4) (bpy2_5 : iv 0 9 py2_5) (bpy2_13 : iv 0 900 py2_13) (bpy2_14 : iv 0 900 py2_14) (bpy2_15 : iv 0 900 py2_15) (bpy2_16 : iv 0 900 py2_16) (bpy2_17 : iv 0 900 py2_17) (tfy20 : ∀ j, iv 0 10 (fy20 j)) (bpYw0_0 : iv 0 4 pYw0_0) (bpYw0_5 : iv 0 ((n : Int)) pYw0_5) (bpYw0_6 : iv 0 4 pYw0_6) (bpYw0_14 : iv 0 4 pYw0_14) (bpYw0_15 : iv 0 9 pYw0_15) (bpYw0_16 : iv 0 ((n : Int)) pYw0_16) (tfYw1 : ∀ j, iv 0 ((L : Int) - 1) (fYw1 j)) (tfYw4 : ∀ j, iv 0 ((n : Int)) (fYw4 j)) (tfYw5 : ∀ j, iv 0 (4 * (n : Int) - 1) (fYw5 j)) (tfYw6 : ∀ j, iv 0 ((n : Int) - 1) (fYw6 j)) (tfYw7 : ∀ j, iv 0 ((n : Int) - 1) (fYw7 j)) (hf0 : WA pYw0_5 fYw4 fYw1) (hf1 : WB pYw0_16 pYw0_6 pYw0_5 fYw6) (hf2 : WC pYw0_5 fYw2) (hf3 : 0 ≤ (a1 : Int32).toInt) (hf4 : (a1 : Int32).toInt < (py2_1 : Int32).toInt) (hf5 : 0 ≤ (a2 : Int32).toInt) (hf6 : (a2 : Int32).toInt ≤ 4) (hf7 : 0 ≤ (a3 : Int32).toInt) (hL9 : LW D9 fy3 fy9 py2_14 py2_15 py2_16 py2_17) (hK9 : KN D9 fy20) : Ct l V yX9_way (.code yX9_way cX9_way 6 (some .int)) 8 [.ref (y 0), .int a1, .int a2, .int a3] [(y 0, .inr (9, o9_rirrrrrrrrrviii (y 1) py0_1 (y 2) (y 10) (y 19) (y 25) (y 26) (y 30) (y 31) (y 32) (Yw 0) o11 py0_12 py0_13 py0_14)), (y 2, .inr (1, o1_iiiiiirrrrrrriiiii py2_0 py2_1 py2_2 py2_3 py2_4 py2_5 (y 3) (y 4) (y 5) (y 6) (y 7) (y 8) (y 9) py2_13 py2_14 py2_15 py2_16 py2_17)), (y 3, aI V 4 fy3), (y 9, aI V 900 fy9), (y 19, .inr (4, o4_rrrrrr (y 2) (y 20) (y 21) (y 22) (y 23) (y 24))), (y 20, aI V 2000 fy20), (y 21, aI V 6 fy21), (y 22, aI V 64 fy22), (Yw 0, .inr (8, o8_iirrriirrrrrrriii pYw0_0 (nI n) (Yw 1) (Yw 2) wa pYw0_5 pYw0_6 (y 19) (Yw 4) (Yw 5) (Yw 6) (Yw 7) (Yw 8) wb pYw0_14 pYw0_15 pYw0_16)), (Yw 1, aI V n fYw1), (Yw 2, aI V n fYw2), (wa, aI V n fwa), (Yw 4, aI V L fYw4), (Yw 5, aI V n fYw5), (Yw 6, aI V (n * 4) fYw6), (Yw 7, aI V n fYw7), (Yw 8, aI V 4 fYw8), (wb, aI V n fwb)] 10 46481 (QI V (fun (r : Int32) (w : va_W) => ∃ (n : Nat) (L : Nat) (Yw : Nat → Nat) (wa : Nat) (wb : Nat) (g0 : Nat → Int32) (g1 : Nat → Int32) (g2 : Nat → Int32) (ww0 : Int32) (ww5 : Int32) (ww6 : Int32) (ww14 : Int32) (ww15 : Int32) (ww16 : Int32) (wew1 : Nat → Int32) (wew2 : Nat → Int32) (wew3 : Nat → Int32) (wew4 : Nat → Int32) (wew5 : Nat → Int32) (wew6 : Nat → Int32) (wew7 : Nat → Int32) (wew8 : Nat → Int32) (wew9 : Nat → Int32), (1 ≤ n ∧ n ≤ 3646) ∧ (1 ≤ L ∧ L ≤ 10000) ∧ (∀ j, iv 0 10 (g0 j)) ∧ iv 0 4 ww0 ∧ iv 0 ((n : Int)) ww5 ∧ iv 0 4 ww6 ∧ iv 0 4 ww14 ∧ iv 0 9 ww15 ∧ iv 0 ((n : Int)) ww16 ∧ (∀ j, iv 0 ((L : Int) - 1) (wew1 j)) ∧ (∀ j, iv 0 ((n : Int)) (wew4 j)) ∧ (∀ j, iv 0 (4 * (n : Int) - 1) (wew5 j)) ∧ (∀ j, iv 0 ((n : Int) - 1) (wew6 j)) ∧ (∀ j, iv 0 ((n : Int) - 1) (wew7 j)) ∧ iv (-1) 3 r ∧ (WA ww5 wew4 wew1) ∧ (WB ww16 ww6 ww5 wew6) ∧ (WC ww5 wew2) ∧ (ww0 = py2_1) ∧ KN D9 g0 ∧ w = [(y 0, .inr (9, o9_rirrrrrrrrrviii (y 1) py0_1 (y 2) (y 10) (y 19) (y 25) (y 26) (y 30) (y 31) (y 32) (Yw 0) o11 py0_12 py0_13 py0_14)), (y 2, .inr (1, o1_iiiiiirrrrrrriiiii py2_0 py2_1 py2_2 py2_3 py2_4 py2_5 (y 3) (y 4) (y 5) (y 6) (y 7) (y 8) (y 9) py2_13 py2_14 py2_15 py2_16 py2_17)), (y 3, aI V 4 fy3), (y 9, aI V 900 fy9), (y 19, .inr (4, o4_rrrrrr (y 2) (y 20) (y 21) (y 22) (y 23) (y 24))), (y 20, aI V 2000 g0), (y 21, aI V 6 g1), (y 22, aI V 64 g2), (Yw 0, .inr (8, o8_iirrriirrrrrrriii ww0 (nI n) (Yw 1) (Yw 2) wa ww5 ww6 (y 19) (Yw 4) (Yw 5) (Yw 6) (Yw 7) (Yw 8) wb ww14 ww15 ww16)), (Yw 1, aI V n wew1), (Yw 2, aI V n wew2), (wa, aI V n wew3), (Yw 4, aI V L wew4), (Yw 5, aI V n wew5), (Yw 6, aI V (n * 4) wew6), (Yw 7, aI V n wew7), (Yw 8, aI V 4 wew8), (wb, aI V n wew9)])) := by
  refine Ct.of (by decide) (Nat.le_of_ble_eq_true rfl) (fun p e s m below meth c A ls hx hb hr hml hown hlk hnm hg hP hK hD hE hA hS hl => ?_)
  have hl : lv_has ls 6 [(0, .ref (y 0)), (1, .int a1), (2, .int a2), (3, .int a3)] := hl
  refine lv_aload_n hx hb dX9_way_0 rfl (lv_at hl 0 rfl) ?_
  refine lv_iload_n hx hb dX9_way_1 rfl (lv_at hl 1 rfl) ?_
  refine jnI (wr := [(y 3, aI V 4 fy3), (y 9, aI V 900 fy9), (y 19, .inr (4, o4_rrrrrr (y 2) (y 20) (y 21) (y 22) (y 23) (y 24))), (y 20, aI V 2000 fy20), (y 21, aI V 6 fy21), (y 22, aI V 64 fy22), (Yw 0, .inr (8, o8_iirrriirrrrrrriii pYw0_0 (nI n) (Yw 1) (Yw 2) wa pYw0_5 pYw0_6 (y 19) (Yw 4) (Yw 5) (Yw 6) (Yw 7) (Yw 8) wb pYw0_14 pYw0_15 pYw0_16)), (Yw 1, aI V n fYw1), (Yw 2, aI V n fYw2), (wa, aI V n fwa), (Yw 4, aI V L fYw4), (Yw 5, aI V n fYw5), (Yw 6, aI V (n * 4) fYw6), (Yw 7, aI V n fYw7), (Yw 8, aI V 4 fYw8), (wb, aI V n fwb)]) (rnV (rest := []) ⟨hx, hb, hml, hown, hg⟩ (k_X9_isHill_0 l V y a1 py0_1 (.ref (Yw 0)) o11 py0_12 py0_13 py0_14 py2_0 py2_1 py2_2 py2_3 py2_4 py2_5 py2_13 py2_14 py2_15 py2_16 py2_17 bpy0_1 bpy0_12 bpy0_13 bpy2_1 bpy2_2 bpy2_3 bpy2_4 bpy2_5 bpy2_13 bpy2_14 bpy2_15 bpy2_16 bpy2_17) mt_X9_isHill q_3_122 ⟨Nat.le_of_ble_eq_true rfl, Nat.le_of_ble_eq_true rfl⟩ hK hP hD hS hA hE [0, 1] rfl rfl 0 rfl rfl rfl rfl hl.1 rfl (Nat.le_of_ble_eq_true rfl) dX9_way_2 ⟨Nat.le_of_ble_eq_true rfl, Nat.le_of_ble_eq_true rfl⟩) hP hD hS hA [0, 1] [2, 3, 4, 5, 6, 7, 8, 9, 10, 11, 12, 13, 14, 15, 16, 17] rfl rfl rfl (by decide) (fun r_1 w H locs hw hP hD hS => ?_)
  rcases hw with ⟨c_2, rfl, et_3, rfl⟩ | ⟨c_4, c_5, rfl, et_6, rfl⟩ | ⟨c_7, c_8, rfl, et_9, rfl⟩
  · have hP : va_P V.1 vwCl [(y 3, aI V 4 fy3), (y 9, aI V 900 fy9), (y 19, .inr (4, o4_rrrrrr (y 2) (y 20) (y 21) (y 22) (y 23) (y 24))), (y 20, aI V 2000 fy20), (y 21, aI V 6 fy21), (y 22, aI V 64 fy22), (Yw 0, .inr (8, o8_iirrriirrrrrrriii pYw0_0 (nI n) (Yw 1) (Yw 2) wa pYw0_5 pYw0_6 (y 19) (Yw 4) (Yw 5) (Yw 6) (Yw 7) (Yw 8) wb pYw0_14 pYw0_15 pYw0_16)), (Yw 1, aI V n fYw1), (Yw 2, aI V n fYw2), (wa, aI V n fwa), (Yw 4, aI V L fYw4), (Yw 5, aI V n fYw5), (Yw 6, aI V (n * 4) fYw6), (Yw 7, aI V n fYw7), (Yw 8, aI V 4 fYw8), (wb, aI V n fwb), (y 0, .inr (9, o9_rirrrrrrrrrviii (y 1) py0_1 (y 2) (y 10) (y 19) (y 25) (y 26) (y 30) (y 31) (y 32) (Yw 0) o11 py0_12 py0_13 py0_14)), (y 2, .inr (1, o1_iiiiiirrrrrrriiiii py2_0 py2_1 py2_2 py2_3 py2_4 py2_5 (y 3) (y 4) (y 5) (y 6) (y 7) (y 8) (y 9) py2_13 py2_14 py2_15 py2_16 py2_17))] H := hP
    have hD := cpD hP hD
    have b_10 : iv (-2147483648) (-1) a1 := iv_l1 c_2 (iv_top a1) (iv_c (0 : Int32) (a := 0) (b := 0) (by decide)) (by first | decide | omega)
    refine lv_if_ne (tgt := 11) hx hb dX9_way_5 (by decide) (fun c_12 => absurd c_12 (by decide)) (fun _ => ?_)
    refine lv_bipush (v := (-2)) hx hb dX9_way_8 (by decide) ?_
    have z_0 := Int32.lt_iff_toInt_lt.mp hq0
    have z_1 := Int32.lt_iff_toInt_lt.mp c_2
    have k_0 : (0 : Int32).toInt = 0 := (by decide)
    exfalso
    have g_0 := hf3
    have g_1 := hf4
    have g_2 := hf5
    have g_3 := hf6
    have g_4 := hf7
    omega
  · have hP : va_P V.1 vwCl [(y 3, aI V 4 fy3), (y 9, aI V 900 fy9), (y 19, .inr (4, o4_rrrrrr (y 2) (y 20) (y 21) (y 22) (y 23) (y 24))), (y 20, aI V 2000 fy20), (y 21, aI V 6 fy21), (y 22, aI V 64 fy22), (Yw 0, .inr (8, o8_iirrriirrrrrrriii pYw0_0 (nI n) (Yw 1) (Yw 2) wa pYw0_5 pYw0_6 (y 19) (Yw 4) (Yw 5) (Yw 6) (Yw 7) (Yw 8) wb pYw0_14 pYw0_15 pYw0_16)), (Yw 1, aI V n fYw1), (Yw 2, aI V n fYw2), (wa, aI V n fwa), (Yw 4, aI V L fYw4), (Yw 5, aI V n fYw5), (Yw 6, aI V (n * 4) fYw6), (Yw 7, aI V n fYw7), (Yw 8, aI V 4 fYw8), (wb, aI V n fwb), (y 0, .inr (9, o9_rirrrrrrrrrviii (y 1) py0_1 (y 2) (y 10) (y 19) (y 25) (y 26) (y 30) (y 31) (y 32) (Yw 0) o11 py0_12 py0_13 py0_14)), (y 2, .inr (1, o1_iiiiiirrrrrrriiiii py2_0 py2_1 py2_2 py2_3 py2_4 py2_5 (y 3) (y 4) (y 5) (y 6) (y 7) (y 8) (y 9) py2_13 py2_14 py2_15 py2_16 py2_17))] H := hP
    have hD := cpD hP hD
    have b_13 : iv 0 2147483647 a1 := iv_e2 (Int32.not_lt.mp c_4) (iv_c (0 : Int32) (a := 0) (b := 0) (by decide)) (iv_top a1) (by first | decide | omega)
    refine lv_if_ne (tgt := 11) hx hb dX9_way_5 (by decide) (fun c_15 => absurd c_15 (by decide)) (fun _ => ?_)
    refine lv_bipush (v := (-2)) hx hb dX9_way_8 (by decide) ?_
    have z_0 := Int32.lt_iff_toInt_lt.mp hq0
    have z_1 := Int32.le_iff_toInt_le.mp (Int32.not_lt.mp c_4)
    have z_2 := Int32.le_iff_toInt_le.mp c_5
    have k_0 : (0 : Int32).toInt = 0 := (by decide)
    exfalso
    have g_0 := hf3
    have g_1 := hf4
    have g_2 := hf5
    have g_3 := hf6
    have g_4 := hf7
    omega
  · have hP : va_P V.1 vwCl [(y 3, aI V 4 fy3), (y 9, aI V 900 fy9), (y 19, .inr (4, o4_rrrrrr (y 2) (y 20) (y 21) (y 22) (y 23) (y 24))), (y 20, aI V 2000 fy20), (y 21, aI V 6 fy21), (y 22, aI V 64 fy22), (Yw 0, .inr (8, o8_iirrriirrrrrrriii pYw0_0 (nI n) (Yw 1) (Yw 2) wa pYw0_5 pYw0_6 (y 19) (Yw 4) (Yw 5) (Yw 6) (Yw 7) (Yw 8) wb pYw0_14 pYw0_15 pYw0_16)), (Yw 1, aI V n fYw1), (Yw 2, aI V n fYw2), (wa, aI V n fwa), (Yw 4, aI V L fYw4), (Yw 5, aI V n fYw5), (Yw 6, aI V (n * 4) fYw6), (Yw 7, aI V n fYw7), (Yw 8, aI V 4 fYw8), (wb, aI V n fwb), (y 0, .inr (9, o9_rirrrrrrrrrviii (y 1) py0_1 (y 2) (y 10) (y 19) (y 25) (y 26) (y 30) (y 31) (y 32) (Yw 0) o11 py0_12 py0_13 py0_14)), (y 2, .inr (1, o1_iiiiiirrrrrrriiiii py2_0 py2_1 py2_2 py2_3 py2_4 py2_5 (y 3) (y 4) (y 5) (y 6) (y 7) (y 8) (y 9) py2_13 py2_14 py2_15 py2_16 py2_17))] H := hP
    have hD := cpD hP hD
    have b_16 : iv 0 2147483647 a1 := iv_e2 (Int32.not_lt.mp c_7) (iv_c (0 : Int32) (a := 0) (b := 0) (by decide)) (iv_top a1) (by first | decide | omega)
    have b_17 : iv 0 3 a1 := iv_l1 (Int32.not_le.mp c_8) b_16 bpy2_1 (by first | decide | omega)
    have b_18 : iv 1 4 py2_1 := iv_l2 (Int32.not_le.mp c_8) b_16 bpy2_1 (by first | decide | omega)
    refine lv_if_ne (tgt := 11) hx hb dX9_way_5 (by decide) (fun _ => ?_) (fun c_20 => absurd c_20 (by decide))
    refine lv_iload_n hx hb dX9_way_11 rfl (lv_at hl 2 rfl) ?_
    refine jnI (wr := [(y 3, aI V 4 fy3), (y 9, aI V 900 fy9), (y 19, .inr (4, o4_rrrrrr (y 2) (y 20) (y 21) (y 22) (y 23) (y 24))), (y 20, aI V 2000 fy20), (y 21, aI V 6 fy21), (y 22, aI V 64 fy22), (Yw 0, .inr (8, o8_iirrriirrrrrrriii pYw0_0 (nI n) (Yw 1) (Yw 2) wa pYw0_5 pYw0_6 (y 19) (Yw 4) (Yw 5) (Yw 6) (Yw 7) (Yw 8) wb pYw0_14 pYw0_15 pYw0_16)), (Yw 1, aI V n fYw1), (Yw 2, aI V n fYw2), (wa, aI V n fwa), (Yw 4, aI V L fYw4), (Yw 5, aI V n fYw5), (Yw 6, aI V (n * 4) fYw6), (Yw 7, aI V n fYw7), (Yw 8, aI V 4 fYw8), (wb, aI V n fwb), (y 0, .inr (9, o9_rirrrrrrrrrviii (y 1) py0_1 (y 2) (y 10) (y 19) (y 25) (y 26) (y 30) (y 31) (y 32) (Yw 0) o11 py0_12 py0_13 py0_14)), (y 2, .inr (1, o1_iiiiiirrrrrrriiiii py2_0 py2_1 py2_2 py2_3 py2_4 py2_5 (y 3) (y 4) (y 5) (y 6) (y 7) (y 8) (y 9) py2_13 py2_14 py2_15 py2_16 py2_17))]) (rnS (rest := []) ⟨hx, hb, hml, hown, hg⟩ (k_X9_isHeight_0 l V a2) mt_X9_isHeight q_4_49 ⟨Nat.le_of_ble_eq_true rfl, Nat.le_of_ble_eq_true rfl⟩ hK hP hD hS hA hE [] rfl rfl rfl hl.1 rfl (Nat.le_of_ble_eq_true rfl) dX9_way_12 ⟨Nat.le_of_ble_eq_true rfl, Nat.le_of_ble_eq_true rfl⟩) hP hD hS hA [] [0, 1, 2, 3, 4, 5, 6, 7, 8, 9, 10, 11, 12, 13, 14, 15, 16, 17] rfl rfl rfl (by decide) (fun r_21 w H locs hw hP hD hS => ?_)
    rcases hw with ⟨c_22, rfl, rfl⟩ | ⟨c_23, c_24, rfl, rfl⟩ | ⟨c_25, c_26, rfl, rfl⟩
    · have hP : va_P V.1 vwCl [(y 3, aI V 4 fy3), (y 9, aI V 900 fy9), (y 19, .inr (4, o4_rrrrrr (y 2) (y 20) (y 21) (y 22) (y 23) (y 24))), (y 20, aI V 2000 fy20), (y 21, aI V 6 fy21), (y 22, aI V 64 fy22), (Yw 0, .inr (8, o8_iirrriirrrrrrriii pYw0_0 (nI n) (Yw 1) (Yw 2) wa pYw0_5 pYw0_6 (y 19) (Yw 4) (Yw 5) (Yw 6) (Yw 7) (Yw 8) wb pYw0_14 pYw0_15 pYw0_16)), (Yw 1, aI V n fYw1), (Yw 2, aI V n fYw2), (wa, aI V n fwa), (Yw 4, aI V L fYw4), (Yw 5, aI V n fYw5), (Yw 6, aI V (n * 4) fYw6), (Yw 7, aI V n fYw7), (Yw 8, aI V 4 fYw8), (wb, aI V n fwb), (y 0, .inr (9, o9_rirrrrrrrrrviii (y 1) py0_1 (y 2) (y 10) (y 19) (y 25) (y 26) (y 30) (y 31) (y 32) (Yw 0) o11 py0_12 py0_13 py0_14)), (y 2, .inr (1, o1_iiiiiirrrrrrriiiii py2_0 py2_1 py2_2 py2_3 py2_4 py2_5 (y 3) (y 4) (y 5) (y 6) (y 7) (y 8) (y 9) py2_13 py2_14 py2_15 py2_16 py2_17))] H := hP
      have hD := cpD hP hD
      have b_27 : iv (-2147483648) (-1) a2 := iv_l1 c_22 (iv_top a2) (iv_c (0 : Int32) (a := 0) (b := 0) (by decide)) (by first | decide | omega)
      refine lv_if_eq (tgt := 22) hx hb dX9_way_15 (by decide) (fun _ => ?_) (fun c_29 => absurd c_29 (by decide))
      refine lv_bipush (v := (-3)) hx hb dX9_way_22 (by decide) ?_
      have z_0 := Int32.lt_iff_toInt_lt.mp hq0
      have z_1 := Int32.le_iff_toInt_le.mp (Int32.not_lt.mp c_7)
      have z_2 := Int32.lt_iff_toInt_lt.mp (Int32.not_le.mp c_8)
      have z_3 := Int32.lt_iff_toInt_lt.mp c_22
      have k_0 : (0 : Int32).toInt = 0 := (by decide)
      exfalso
      have g_0 := hf3
      have g_1 := hf4
      have g_2 := hf5
      have g_3 := hf6
      have g_4 := hf7
      omega
    · have hP : va_P V.1 vwCl [(y 3, aI V 4 fy3), (y 9, aI V 900 fy9), (y 19, .inr (4, o4_rrrrrr (y 2) (y 20) (y 21) (y 22) (y 23) (y 24))), (y 20, aI V 2000 fy20), (y 21, aI V 6 fy21), (y 22, aI V 64 fy22), (Yw 0, .inr (8, o8_iirrriirrrrrrriii pYw0_0 (nI n) (Yw 1) (Yw 2) wa pYw0_5 pYw0_6 (y 19) (Yw 4) (Yw 5) (Yw 6) (Yw 7) (Yw 8) wb pYw0_14 pYw0_15 pYw0_16)), (Yw 1, aI V n fYw1), (Yw 2, aI V n fYw2), (wa, aI V n fwa), (Yw 4, aI V L fYw4), (Yw 5, aI V n fYw5), (Yw 6, aI V (n * 4) fYw6), (Yw 7, aI V n fYw7), (Yw 8, aI V 4 fYw8), (wb, aI V n fwb), (y 0, .inr (9, o9_rirrrrrrrrrviii (y 1) py0_1 (y 2) (y 10) (y 19) (y 25) (y 26) (y 30) (y 31) (y 32) (Yw 0) o11 py0_12 py0_13 py0_14)), (y 2, .inr (1, o1_iiiiiirrrrrrriiiii py2_0 py2_1 py2_2 py2_3 py2_4 py2_5 (y 3) (y 4) (y 5) (y 6) (y 7) (y 8) (y 9) py2_13 py2_14 py2_15 py2_16 py2_17))] H := hP
      have hD := cpD hP hD
      have b_30 : iv 0 2147483647 a2 := iv_e2 (Int32.not_lt.mp c_23) (iv_c (0 : Int32) (a := 0) (b := 0) (by decide)) (iv_top a2) (by first | decide | omega)
      have b_31 : iv 5 2147483647 a2 := iv_l2 c_24 (iv_c (4 : Int32) (a := 4) (b := 4) (by decide)) b_30 (by first | decide | omega)
      refine lv_if_eq (tgt := 22) hx hb dX9_way_15 (by decide) (fun _ => ?_) (fun c_33 => absurd c_33 (by decide))
      refine lv_bipush (v := (-3)) hx hb dX9_way_22 (by decide) ?_
      have z_0 := Int32.lt_iff_toInt_lt.mp hq0
      have z_1 := Int32.le_iff_toInt_le.mp (Int32.not_lt.mp c_7)
      have z_2 := Int32.lt_iff_toInt_lt.mp (Int32.not_le.mp c_8)
      have z_3 := Int32.le_iff_toInt_le.mp (Int32.not_lt.mp c_23)
      have z_4 := Int32.lt_iff_toInt_lt.mp c_24
      have k_0 : (0 : Int32).toInt = 0 := (by decide)
      have k_4 : (4 : Int32).toInt = 4 := (by decide)
      exfalso
      have g_0 := hf3
      have g_1 := hf4
      have g_2 := hf5
      have g_3 := hf6
      have g_4 := hf7
      omega
    · have hP : va_P V.1 vwCl [(y 3, aI V 4 fy3), (y 9, aI V 900 fy9), (y 19, .inr (4, o4_rrrrrr (y 2) (y 20) (y 21) (y 22) (y 23) (y 24))), (y 20, aI V 2000 fy20), (y 21, aI V 6 fy21), (y 22, aI V 64 fy22), (Yw 0, .inr (8, o8_iirrriirrrrrrriii pYw0_0 (nI n) (Yw 1) (Yw 2) wa pYw0_5 pYw0_6 (y 19) (Yw 4) (Yw 5) (Yw 6) (Yw 7) (Yw 8) wb pYw0_14 pYw0_15 pYw0_16)), (Yw 1, aI V n fYw1), (Yw 2, aI V n fYw2), (wa, aI V n fwa), (Yw 4, aI V L fYw4), (Yw 5, aI V n fYw5), (Yw 6, aI V (n * 4) fYw6), (Yw 7, aI V n fYw7), (Yw 8, aI V 4 fYw8), (wb, aI V n fwb), (y 0, .inr (9, o9_rirrrrrrrrrviii (y 1) py0_1 (y 2) (y 10) (y 19) (y 25) (y 26) (y 30) (y 31) (y 32) (Yw 0) o11 py0_12 py0_13 py0_14)), (y 2, .inr (1, o1_iiiiiirrrrrrriiiii py2_0 py2_1 py2_2 py2_3 py2_4 py2_5 (y 3) (y 4) (y 5) (y 6) (y 7) (y 8) (y 9) py2_13 py2_14 py2_15 py2_16 py2_17))] H := hP
      have hD := cpD hP hD
      have b_34 : iv 0 2147483647 a2 := iv_e2 (Int32.not_lt.mp c_25) (iv_c (0 : Int32) (a := 0) (b := 0) (by decide)) (iv_top a2) (by first | decide | omega)
      have b_35 : iv 0 4 a2 := iv_e1 (Int32.not_lt.mp c_26) b_34 (iv_c (4 : Int32) (a := 4) (b := 4) (by decide)) (by first | decide | omega)
      refine lv_if_eq (tgt := 22) hx hb dX9_way_15 (by decide) (fun c_37 => absurd c_37 (by decide)) (fun _ => ?_)
      refine lv_iload_n hx hb dX9_way_18 rfl (lv_at hl 3 rfl) ?_
      refine lv_if_ge (tgt := 25) hx hb dX9_way_19 (by decide) (fun c_38 => ?_) (fun c_38 => ?_)
      · have b_39 : iv 0 2147483647 a3 := iv_e2 c_38 (iv_c (0 : Int32) (a := 0) (b := 0) (by decide)) (iv_top a3) (by first | decide | omega)
        refine lv_aload_n hx hb dX9_way_25 rfl (lv_at hl 0 rfl) ?_
        refine lv_iconst (v := 0) hx hb dX9_way_26 (by decide) ?_
        refine jnR (wr := []) (rnV (rest := []) ⟨hx, hb, hml, hown, hg⟩ (k_X9_waysFromNow_2 l V n L Yw y D9 0 fy3 fy9 fy20 fy21 fy22 pYw0_0 wa pYw0_5 pYw0_6 wb pYw0_14 pYw0_15 pYw0_16 fYw1 fYw2 fwa fYw4 fYw5 fYw6 fYw7 fYw8 fwb py0_1 o11 py0_12 py0_13 py0_14 py2_0 py2_1 py2_2 py2_3 py2_4 py2_5 py2_13 py2_14 py2_15 py2_16 py2_17 hn hL hq0 tfy20 bpYw0_0 bpYw0_5 bpYw0_6 bpYw0_14 bpYw0_15 bpYw0_16 tfYw1 tfYw4 tfYw5 tfYw6 tfYw7 bpy0_1 bpy0_12 bpy0_13 (iv_w b_18 (by first | decide | omega)) bpy2_2 bpy2_3 bpy2_4 bpy2_5 bpy2_13 bpy2_14 bpy2_15 bpy2_16 bpy2_17 hf0 hf1 hf2 hL9 hK9) mt_X9_waysFromNow q_4_52 ⟨Nat.le_of_ble_eq_true rfl, Nat.le_of_ble_eq_true rfl⟩ hK hP hD hS hA hE [0, 1, 2, 3, 4, 5, 6, 7, 8, 9, 10, 11, 12, 13, 14, 15, 16, 17] rfl rfl 16 rfl rfl rfl rfl hl.1 rfl (Nat.le_of_ble_eq_true rfl) dX9_way_27 ⟨Nat.le_of_ble_eq_true rfl, Nat.le_of_ble_eq_true rfl⟩) hP hD hS hA [0, 1, 2, 3, 4, 5, 6, 7, 8, 9, 10, 11, 12, 13, 14, 15, 16, 17] [] rfl rfl rfl (by decide) (fun r_40 w H locs hw hP hD hS => ?_)
        refine W.widen (k := 10) (n := 46481) (Nat.le_of_ble_eq_true rfl) (Nat.le_of_ble_eq_true rfl) ?_
        obtain ⟨n, L, Yw, wa_41, wb_42, f_43, f_44, f_45, v_46, v_47, v_48, v_49, v_50, v_51, f_52, f_53, f_54, f_55, f_56, f_57, f_58, f_59, f_60, hn, hL, tf_43, bv_46, bv_47, bv_48, bv_49, bv_50, bv_51, tf_52, tf_55, tf_56, tf_57, tf_58, eW, g_61, g_62, g_63, g_64, g_65, kn_66, rfl⟩ := hw
        have hP : va_P V.1 vwCl [(y 3, aI V 4 fy3), (y 9, aI V 900 fy9), (y 19, .inr (4, o4_rrrrrr (y 2) (y 20) (y 21) (y 22) (y 23) (y 24))), (y 20, aI V 2000 f_43), (y 21, aI V 6 f_44), (y 22, aI V 64 f_45), (y 0, .inr (9, o9_rirrrrrrrrrviii (y 1) py0_1 (y 2) (y 10) (y 19) (y 25) (y 26) (y 30) (y 31) (y 32) (Yw 0) o11 py0_12 py0_13 py0_14)), (y 2, .inr (1, o1_iiiiiirrrrrrriiiii py2_0 py2_1 py2_2 py2_3 py2_4 py2_5 (y 3) (y 4) (y 5) (y 6) (y 7) (y 8) (y 9) py2_13 py2_14 py2_15 py2_16 py2_17)), (Yw 0, .inr (8, o8_iirrriirrrrrrriii v_46 (nI n) (Yw 1) (Yw 2) wa_41 v_47 v_48 (y 19) (Yw 4) (Yw 5) (Yw 6) (Yw 7) (Yw 8) wb_42 v_49 v_50 v_51)), (Yw 1, aI V n f_52), (Yw 2, aI V n f_53), (wa_41, aI V n f_54), (Yw 4, aI V L f_55), (Yw 5, aI V n f_56), (Yw 6, aI V (n * 4) f_57), (Yw 7, aI V n f_58), (Yw 8, aI V 4 f_59), (wb_42, aI V n f_60)] H := hP
        have hD := cpD hP hD
        rw [← eW]
        refine lv_astore (lv' := [(4, .ref (Yw 0)), (0, .ref (y 0)), (1, .int a1), (2, .int a2), (3, .int a3)]) hx hb dX9_way_30 hl (by decide) rfl (fun ls hl => ?_)
        refine lv_aload hx hb dX9_way_32 (lv_at hl 0 rfl) ?_
        refine lv_iload_n hx hb dX9_way_34 rfl (lv_at hl 2 rfl) ?_
        refine lv_iload_n hx hb dX9_way_35 rfl (lv_at hl 3 rfl) ?_
        refine jnI (wr := [(y 0, .inr (9, o9_rirrrrrrrrrviii (y 1) py0_1 (y 2) (y 10) (y 19) (y 25) (y 26) (y 30) (y 31) (y 32) (Yw 0) o11 py0_12 py0_13 py0_14)), (wa_41, aI V n f_54), (Yw 7, aI V n f_58), (wb_42, aI V n f_60)]) (rnV (rest := []) ⟨hx, hb, hml, hown, hg⟩ (k_X8_firstWith_0 l V n L Yw y D9 a1 a2 py2_0 py2_1 py2_2 py2_3 py2_4 py2_5 py2_13 py2_14 py2_15 py2_16 py2_17 fy3 fy9 f_43 f_44 f_45 v_46 wa_41 v_47 v_48 wb_42 v_49 v_50 v_51 f_52 f_53 f_55 f_56 f_57 f_59 hn hL b_17 (iv_w b_18 (by first | decide | omega)) bpy2_2 bpy2_3 bpy2_4 bpy2_5 bpy2_13 bpy2_14 bpy2_15 bpy2_16 bpy2_17 tf_43 bv_46 bv_47 bv_48 bv_49 bv_50 bv_51 tf_52 tf_55 tf_56 tf_57 g_61 g_62 g_63 hL9 kn_66) mt_X8_firstWith q_4_145 ⟨Nat.le_of_ble_eq_true rfl, Nat.le_of_ble_eq_true rfl⟩ hK hP hD hS hA hE [7, 0, 1, 2, 3, 4, 5, 8, 9, 10, 12, 13, 14, 16] rfl rfl 8 rfl rfl rfl rfl hl.1 rfl (Nat.le_of_ble_eq_true rfl) dX9_way_36 ⟨Nat.le_of_ble_eq_true rfl, Nat.le_of_ble_eq_true rfl⟩) hP hD hS hA [7, 0, 1, 2, 3, 4, 5, 8, 9, 10, 12, 13, 14, 16] [6, 11, 15, 17] rfl rfl rfl (by decide) (fun r_67 w H locs hw hP hD hS => ?_)
        obtain ⟨f_68, f_69, f_70, v_71, v_72, f_73, f_74, f_75, f_76, f_77, f_78, tf_68, bv_71, bv_72, tf_73, tf_75, tf_76, tf_77, br_67, g_79, g_80, g_81, kn_82, rfl⟩ := hw
        have hP : va_P V.1 vwCl [(y 0, .inr (9, o9_rirrrrrrrrrviii (y 1) py0_1 (y 2) (y 10) (y 19) (y 25) (y 26) (y 30) (y 31) (y 32) (Yw 0) o11 py0_12 py0_13 py0_14)), (wa_41, aI V n f_54), (Yw 7, aI V n f_58), (wb_42, aI V n f_60), (y 2, .inr (1, o1_iiiiiirrrrrrriiiii py2_0 py2_1 py2_2 py2_3 py2_4 py2_5 (y 3) (y 4) (y 5) (y 6) (y 7) (y 8) (y 9) py2_13 py2_14 py2_15 py2_16 py2_17)), (y 3, aI V 4 fy3), (y 9, aI V 900 fy9), (y 19, .inr (4, o4_rrrrrr (y 2) (y 20) (y 21) (y 22) (y 23) (y 24))), (y 20, aI V 2000 f_68), (y 21, aI V 6 f_69), (y 22, aI V 64 f_70), (Yw 0, .inr (8, o8_iirrriirrrrrrriii v_46 (nI n) (Yw 1) (Yw 2) wa_41 v_71 v_48 (y 19) (Yw 4) (Yw 5) (Yw 6) (Yw 7) (Yw 8) wb_42 v_49 v_50 v_72)), (Yw 1, aI V n f_73), (Yw 2, aI V n f_74), (Yw 4, aI V L f_75), (Yw 5, aI V n f_76), (Yw 6, aI V (n * 4) f_77), (Yw 8, aI V 4 f_78)] H := hP
        have hD := cpD hP hD
        refine lv_istore (lv' := [(5, .int r_67), (4, .ref (Yw 0)), (0, .ref (y 0)), (1, .int a1), (2, .int a2), (3, .int a3)]) hx hb dX9_way_39 hl (by decide) rfl (fun ls hl => ?_)
        refine lv_iload hx hb dX9_way_41 (lv_at hl 0 rfl) ?_
        refine lv_if_ge (tgt := 50) hx hb dX9_way_43 (by decide) (fun c_83 => ?_) (fun c_83 => ?_)
        · have b_84 : iv 0 ((n : Int) - 1) r_67 := iv_e2 c_83 (iv_c (0 : Int32) (a := 0) (b := 0) (by decide)) br_67 (by first | decide | omega)
          refine lv_aload hx hb dX9_way_50 (lv_at hl 1 rfl) ?_
          refine lv_iload hx hb dX9_way_52 (lv_at hl 0 rfl) ?_
          refine lv_iload_n hx hb dX9_way_54 rfl (lv_at hl 5 rfl) ?_
          refine jnI (wr := [(y 0, .inr (9, o9_rirrrrrrrrrviii (y 1) py0_1 (y 2) (y 10) (y 19) (y 25) (y 26) (y 30) (y 31) (y 32) (Yw 0) o11 py0_12 py0_13 py0_14)), (wa_41, aI V n f_54), (Yw 7, aI V n f_58), (wb_42, aI V n f_60), (y 2, .inr (1, o1_iiiiiirrrrrrriiiii py2_0 py2_1 py2_2 py2_3 py2_4 py2_5 (y 3) (y 4) (y 5) (y 6) (y 7) (y 8) (y 9) py2_13 py2_14 py2_15 py2_16 py2_17)), (y 3, aI V 4 fy3), (y 9, aI V 900 fy9), (y 19, .inr (4, o4_rrrrrr (y 2) (y 20) (y 21) (y 22) (y 23) (y 24))), (y 20, aI V 2000 f_68), (y 21, aI V 6 f_69), (y 22, aI V 64 f_70), (Yw 1, aI V n f_73), (Yw 4, aI V L f_75), (Yw 6, aI V (n * 4) f_77), (Yw 8, aI V 4 f_78)]) (rnV (rest := []) ⟨hx, hb, hml, hown, hg⟩ (k_X8_deedTowards_0 l V n Yw y r_67 a3 v_46 wa_41 v_71 v_48 wb_42 v_49 v_50 v_72 f_74 f_76 hn b_84 bv_46 bv_71 bv_48 bv_49 bv_50 bv_72 tf_76) mt_X8_deedTowards q_4_154 ⟨Nat.le_of_ble_eq_true rfl, Nat.le_of_ble_eq_true rfl⟩ hK hP hD hS hA hE [11, 13, 15] rfl rfl 11 rfl rfl rfl rfl hl.1 rfl (Nat.le_of_ble_eq_true rfl) dX9_way_55 ⟨Nat.le_of_ble_eq_true rfl, Nat.le_of_ble_eq_true rfl⟩) hP hD hS hA [11, 13, 15] [0, 1, 2, 3, 4, 5, 6, 7, 8, 9, 10, 12, 14, 16, 17] rfl rfl rfl (by decide) (fun r_85 w H locs hw hP hD hS => ?_)
          obtain ⟨br_85, rfl⟩ := hw
          have hP : va_P V.1 vwCl [(y 0, .inr (9, o9_rirrrrrrrrrviii (y 1) py0_1 (y 2) (y 10) (y 19) (y 25) (y 26) (y 30) (y 31) (y 32) (Yw 0) o11 py0_12 py0_13 py0_14)), (wa_41, aI V n f_54), (Yw 7, aI V n f_58), (wb_42, aI V n f_60), (y 2, .inr (1, o1_iiiiiirrrrrrriiiii py2_0 py2_1 py2_2 py2_3 py2_4 py2_5 (y 3) (y 4) (y 5) (y 6) (y 7) (y 8) (y 9) py2_13 py2_14 py2_15 py2_16 py2_17)), (y 3, aI V 4 fy3), (y 9, aI V 900 fy9), (y 19, .inr (4, o4_rrrrrr (y 2) (y 20) (y 21) (y 22) (y 23) (y 24))), (y 20, aI V 2000 f_68), (y 21, aI V 6 f_69), (y 22, aI V 64 f_70), (Yw 1, aI V n f_73), (Yw 4, aI V L f_75), (Yw 6, aI V (n * 4) f_77), (Yw 8, aI V 4 f_78), (Yw 0, .inr (8, o8_iirrriirrrrrrriii v_46 (nI n) (Yw 1) (Yw 2) wa_41 v_71 v_48 (y 19) (Yw 4) (Yw 5) (Yw 6) (Yw 7) (Yw 8) wb_42 v_49 v_50 v_72)), (Yw 2, aI V n f_74), (Yw 5, aI V n f_76)] H := hP
          have hD := cpD hP hD
          have hP := subP (ws' := [(y 0, .inr (9, o9_rirrrrrrrrrviii (y 1) py0_1 (y 2) (y 10) (y 19) (y 25) (y 26) (y 30) (y 31) (y 32) (Yw 0) o11 py0_12 py0_13 py0_14)), (y 2, .inr (1, o1_iiiiiirrrrrrriiiii py2_0 py2_1 py2_2 py2_3 py2_4 py2_5 (y 3) (y 4) (y 5) (y 6) (y 7) (y 8) (y 9) py2_13 py2_14 py2_15 py2_16 py2_17)), (y 3, aI V 4 fy3), (y 9, aI V 900 fy9), (y 19, .inr (4, o4_rrrrrr (y 2) (y 20) (y 21) (y 22) (y 23) (y 24))), (y 20, aI V 2000 f_68), (y 21, aI V 6 f_69), (y 22, aI V 64 f_70), (Yw 0, .inr (8, o8_iirrriirrrrrrriii v_46 (nI n) (Yw 1) (Yw 2) wa_41 v_71 v_48 (y 19) (Yw 4) (Yw 5) (Yw 6) (Yw 7) (Yw 8) wb_42 v_49 v_50 v_72)), (Yw 1, aI V n f_73), (Yw 2, aI V n f_74), (wa_41, aI V n f_54), (Yw 4, aI V L f_75), (Yw 5, aI V n f_76), (Yw 6, aI V (n * 4) f_77), (Yw 7, aI V n f_58), (Yw 8, aI V 4 f_78), (wb_42, aI V n f_60)]) hP [0, 4, 5, 6, 7, 8, 9, 10, 15, 11, 16, 1, 12, 17, 13, 2, 14, 3] rfl
          have hD := subD hP hD [0, 4, 5, 6, 7, 8, 9, 10, 15, 11, 16, 1, 12, 17, 13, 2, 14, 3] rfl rfl
          exact fiI hx hb hr hlk hK (subP (ws' := [(y 0, .inr (9, o9_rirrrrrrrrrviii (y 1) py0_1 (y 2) (y 10) (y 19) (y 25) (y 26) (y 30) (y 31) (y 32) (Yw 0) o11 py0_12 py0_13 py0_14)), (y 2, .inr (1, o1_iiiiiirrrrrrriiiii py2_0 py2_1 py2_2 py2_3 py2_4 py2_5 (y 3) (y 4) (y 5) (y 6) (y 7) (y 8) (y 9) py2_13 py2_14 py2_15 py2_16 py2_17)), (y 3, aI V 4 fy3), (y 9, aI V 900 fy9), (y 19, .inr (4, o4_rrrrrr (y 2) (y 20) (y 21) (y 22) (y 23) (y 24))), (y 20, aI V 2000 f_68), (y 21, aI V 6 f_69), (y 22, aI V 64 f_70), (Yw 0, .inr (8, o8_iirrriirrrrrrriii v_46 (nI n) (Yw 1) (Yw 2) wa_41 v_71 v_48 (y 19) (Yw 4) (Yw 5) (Yw 6) (Yw 7) (Yw 8) wb_42 v_49 v_50 v_72)), (Yw 1, aI V n f_73), (Yw 2, aI V n f_74), (wa_41, aI V n f_54), (Yw 4, aI V L f_75), (Yw 5, aI V n f_76), (Yw 6, aI V (n * 4) f_77), (Yw 7, aI V n f_58), (Yw 8, aI V 4 f_78), (wb_42, aI V n f_60)]) hP [0, 1, 2, 3, 4, 5, 6, 7, 8, 9, 10, 11, 12, 13, 14, 15, 16, 17] rfl) (hD.sub [0, 1, 2, 3, 4, 5, 6, 7, 8, 9, 10, 11, 12, 13, 14, 15, 16, 17] rfl rfl) hS dX9_way_58 (Nat.le_of_ble_eq_true rfl) (Nat.le_of_ble_eq_true rfl) (⟨n, L, Yw, wa_41, wb_42, f_68, f_69, f_70, v_46, v_71, v_48, v_49, v_50, v_72, f_73, f_74, f_54, f_75, f_76, f_77, f_58, f_78, f_60, hn, hL, tf_68, bv_46, bv_71, bv_48, bv_49, bv_50, bv_72, tf_73, tf_75, tf_76, tf_77, tf_58, br_85, g_79, g_80, g_81, g_65, kn_82, rfl⟩)
        · have b_86 : iv (-1) (-1) r_67 := iv_l1 (Int32.not_le.mp c_83) br_67 (iv_c (0 : Int32) (a := 0) (b := 0) (by decide)) (by first | decide | omega)
          refine lv_iconst (v := (-1)) hx hb dX9_way_46 (by decide) ?_
          refine lv_goto (tgt := 58) hx hb dX9_way_47 (by decide) ?_
          have hP := subP (ws' := [(y 0, .inr (9, o9_rirrrrrrrrrviii (y 1) py0_1 (y 2) (y 10) (y 19) (y 25) (y 26) (y 30) (y 31) (y 32) (Yw 0) o11 py0_12 py0_13 py0_14)), (y 2, .inr (1, o1_iiiiiirrrrrrriiiii py2_0 py2_1 py2_2 py2_3 py2_4 py2_5 (y 3) (y 4) (y 5) (y 6) (y 7) (y 8) (y 9) py2_13 py2_14 py2_15 py2_16 py2_17)), (y 3, aI V 4 fy3), (y 9, aI V 900 fy9), (y 19, .inr (4, o4_rrrrrr (y 2) (y 20) (y 21) (y 22) (y 23) (y 24))), (y 20, aI V 2000 f_68), (y 21, aI V 6 f_69), (y 22, aI V 64 f_70), (Yw 0, .inr (8, o8_iirrriirrrrrrriii v_46 (nI n) (Yw 1) (Yw 2) wa_41 v_71 v_48 (y 19) (Yw 4) (Yw 5) (Yw 6) (Yw 7) (Yw 8) wb_42 v_49 v_50 v_72)), (Yw 1, aI V n f_73), (Yw 2, aI V n f_74), (wa_41, aI V n f_54), (Yw 4, aI V L f_75), (Yw 5, aI V n f_76), (Yw 6, aI V (n * 4) f_77), (Yw 7, aI V n f_58), (Yw 8, aI V 4 f_78), (wb_42, aI V n f_60)]) hP [0, 4, 5, 6, 7, 8, 9, 10, 11, 12, 13, 1, 14, 15, 16, 2, 17, 3] rfl
          have hD := subD hP hD [0, 4, 5, 6, 7, 8, 9, 10, 11, 12, 13, 1, 14, 15, 16, 2, 17, 3] rfl rfl
          exact fiI hx hb hr hlk hK (subP (ws' := [(y 0, .inr (9, o9_rirrrrrrrrrviii (y 1) py0_1 (y 2) (y 10) (y 19) (y 25) (y 26) (y 30) (y 31) (y 32) (Yw 0) o11 py0_12 py0_13 py0_14)), (y 2, .inr (1, o1_iiiiiirrrrrrriiiii py2_0 py2_1 py2_2 py2_3 py2_4 py2_5 (y 3) (y 4) (y 5) (y 6) (y 7) (y 8) (y 9) py2_13 py2_14 py2_15 py2_16 py2_17)), (y 3, aI V 4 fy3), (y 9, aI V 900 fy9), (y 19, .inr (4, o4_rrrrrr (y 2) (y 20) (y 21) (y 22) (y 23) (y 24))), (y 20, aI V 2000 f_68), (y 21, aI V 6 f_69), (y 22, aI V 64 f_70), (Yw 0, .inr (8, o8_iirrriirrrrrrriii v_46 (nI n) (Yw 1) (Yw 2) wa_41 v_71 v_48 (y 19) (Yw 4) (Yw 5) (Yw 6) (Yw 7) (Yw 8) wb_42 v_49 v_50 v_72)), (Yw 1, aI V n f_73), (Yw 2, aI V n f_74), (wa_41, aI V n f_54), (Yw 4, aI V L f_75), (Yw 5, aI V n f_76), (Yw 6, aI V (n * 4) f_77), (Yw 7, aI V n f_58), (Yw 8, aI V 4 f_78), (wb_42, aI V n f_60)]) hP [0, 1, 2, 3, 4, 5, 6, 7, 8, 9, 10, 11, 12, 13, 14, 15, 16, 17] rfl) (hD.sub [0, 1, 2, 3, 4, 5, 6, 7, 8, 9, 10, 11, 12, 13, 14, 15, 16, 17] rfl rfl) hS dX9_way_58 (Nat.le_of_ble_eq_true rfl) (Nat.le_of_ble_eq_true rfl) (⟨n, L, Yw, wa_41, wb_42, f_68, f_69, f_70, v_46, v_71, v_48, v_49, v_50, v_72, f_73, f_74, f_54, f_75, f_76, f_77, f_58, f_78, f_60, hn, hL, tf_68, bv_46, bv_71, bv_48, bv_49, bv_50, bv_72, tf_73, tf_75, tf_76, tf_77, tf_58, (iv_c ((-1) : Int32) (by decide)), g_79, g_80, g_81, g_65, kn_82, rfl⟩)
      · have b_87 : iv (-2147483648) (-1) a3 := iv_l1 (Int32.not_le.mp c_38) (iv_top a3) (iv_c (0 : Int32) (a := 0) (b := 0) (by decide)) (by first | decide | omega)
        refine lv_bipush (v := (-3)) hx hb dX9_way_22 (by decide) ?_
        have z_0 := Int32.lt_iff_toInt_lt.mp hq0
        have z_1 := Int32.le_iff_toInt_le.mp (Int32.not_lt.mp c_7)
        have z_2 := Int32.lt_iff_toInt_lt.mp (Int32.not_le.mp c_8)
        have z_3 := Int32.le_iff_toInt_le.mp (Int32.not_lt.mp c_25)
        have z_4 := Int32.le_iff_toInt_le.mp (Int32.not_lt.mp c_26)
        have z_5 := Int32.lt_iff_toInt_lt.mp (Int32.not_le.mp c_38)
        have k_0 : (0 : Int32).toInt = 0 := (by decide)
        have k_4 : (4 : Int32).toInt = 4 := (by decide)
        exfalso
        have g_0 := hf3
        have g_1 := hf4
        have g_2 := hf5
        have g_3 := hf6
        have g_4 := hf7
        omega
set_option maxHeartbeats 4000000 in
set_option maxRecDepth 100000 in
theorem k_X9_rows_1 (l : Launch) (V : GV) (y : Nat → Nat) (a1 : Int32) (a2 : Int32) (a3 : Int32) (py0_1 : Int32) (o10 : Value) (o11 : Value) (py0_12 : Int32) (py0_13 : Int32) (py0_14 : Int32) (py2_0 : Int32) (py2_1 : Int32) (py2_2 : Int32) (py2_3 : Int32) (py2_4 : Int32) (py2_5 : Int32) (py2_13 : Int32) (py2_14 : Int32) (py2_15 : Int32) (py2_16 : Int32) (py2_17 : Int32) (bpy0_1 : iv 0 900 py0_1) (bpy0_12 : iv 0 9999 py0_12) (bpy0_13 : iv 0 9 py0_13) (bpy2_1 : iv 0 4 py2_1) (bpy2_2 : iv 0 4 py2_2) (bpy2_3 : iv 0 8 py2_3) (bpy2_4 : iv 0 9999 py2_4) (bpy2_5 : iv 0 9 py2_5) (bpy2_13 : iv 0 900 py2_13) (bpy2_14 : iv 0 900 py2_14) (bpy2_15 : iv 0 900 py2_15) (bpy2_16 : iv 0 900 py2_16) (bpy2_17 : iv 0 900 py2_17) (hf0 : ¬ (0 ≤ (a1 : Int32).toInt ∧ (a1 : Int32).toInt < (py2_1 : Int32).toInt ∧ 0 ≤ (a2 : Int32).toInt ∧ (a2 : Int32).toInt ≤ 4 ∧ 0 ≤ (a3 : Int32).toInt ∧ (a3 : Int32).toInt ≤ 12)) : Ct l V yX9_rows (.code yX9_rows cX9_rows 5 (some .long)) 2 [.ref (y 0), .int a1, .int a2, .int a3] [(y 0, .inr (9, o9_rirrrrrrrrvviii (y 1) py0_1 (y 2) (y 10) (y 19) (y 25) (y 26) (y 30) (y 31) (y 32) o10 o11 py0_12 py0_13 py0_14)), (y 2, .inr (1, o1_iiiiiirrrrrrriiiii py2_0 py2_1 py2_2 py2_3 py2_4 py2_5 (y 3) (y 4) (y 5) (y 6) (y 7) (y 8) (y 9) py2_13 py2_14 py2_15 py2_16 py2_17))] 0 0 (QL V (fun (r : Int64) (w : va_W) => w = [(y 0, .inr (9, o9_rirrrrrrrrvviii (y 1) py0_1 (y 2) (y 10) (y 19) (y 25) (y 26) (y 30) (y 31) (y 32) o10 o11 py0_12 py0_13 py0_14)), (y 2, .inr (1, o1_iiiiiirrrrrrriiiii py2_0 py2_1 py2_2 py2_3 py2_4 py2_5 (y 3) (y 4) (y 5) (y 6) (y 7) (y 8) (y 9) py2_13 py2_14 py2_15 py2_16 py2_17))])) := by
  refine Ct.of (by decide) (Nat.le_of_ble_eq_true rfl) (fun p e s m below meth c A ls hx hb hr hml hown hlk hnm hg hP hK hD hE hA hS hl => ?_)
  have hl : lv_has ls 5 [(0, .ref (y 0)), (1, .int a1), (2, .int a2), (3, .int a3)] := hl
  refine lv_aload_n hx hb dX9_rows_0 rfl (lv_at hl 0 rfl) ?_
  refine lv_iload_n hx hb dX9_rows_1 rfl (lv_at hl 1 rfl) ?_
  refine jnI (wr := []) (rnV (rest := []) ⟨hx, hb, hml, hown, hg⟩ (k_X9_isHill_0 l V y a1 py0_1 o10 o11 py0_12 py0_13 py0_14 py2_0 py2_1 py2_2 py2_3 py2_4 py2_5 py2_13 py2_14 py2_15 py2_16 py2_17 bpy0_1 bpy0_12 bpy0_13 bpy2_1 bpy2_2 bpy2_3 bpy2_4 bpy2_5 bpy2_13 bpy2_14 bpy2_15 bpy2_16 bpy2_17) mt_X9_isHill q_3_122 ⟨Nat.le_of_ble_eq_true rfl, Nat.le_of_ble_eq_true rfl⟩ hK hP hD hS hA hE [0, 1] rfl rfl 0 rfl rfl rfl rfl hl.1 rfl (Nat.le_of_ble_eq_true rfl) dX9_rows_2 ⟨Nat.le_of_ble_eq_true rfl, Nat.le_of_ble_eq_true rfl⟩) hP hD hS hA [0, 1] [] rfl rfl rfl (by decide) (fun r_1 w H locs hw hP hD hS => ?_)
  rcases hw with ⟨c_2, rfl, et_3, rfl⟩ | ⟨c_4, c_5, rfl, et_6, rfl⟩ | ⟨c_7, c_8, rfl, et_9, rfl⟩
  · have hP : va_P V.1 vwCl [(y 0, .inr (9, o9_rirrrrrrrrvviii (y 1) py0_1 (y 2) (y 10) (y 19) (y 25) (y 26) (y 30) (y 31) (y 32) o10 o11 py0_12 py0_13 py0_14)), (y 2, .inr (1, o1_iiiiiirrrrrrriiiii py2_0 py2_1 py2_2 py2_3 py2_4 py2_5 (y 3) (y 4) (y 5) (y 6) (y 7) (y 8) (y 9) py2_13 py2_14 py2_15 py2_16 py2_17))] H := hP
    have hD := cpD hP hD
    have b_10 : iv (-2147483648) (-1) a1 := iv_l1 c_2 (iv_top a1) (iv_c (0 : Int32) (a := 0) (b := 0) (by decide)) (by decide)
    refine lv_if_ne (tgt := 12) hx hb dX9_rows_5 (by decide) (fun c_12 => absurd c_12 (by decide)) (fun _ => ?_)
    refine lv_ldc2 (v := (-2)) hx hb hown (hg _ q_4_162) dX9_rows_8 ?_
    exact fiL hx hb hr hlk hK hP hD hS dX9_rows_11 (Nat.le_of_ble_eq_true rfl) (Nat.le_of_ble_eq_true rfl) (rfl)
  · have hP : va_P V.1 vwCl [(y 0, .inr (9, o9_rirrrrrrrrvviii (y 1) py0_1 (y 2) (y 10) (y 19) (y 25) (y 26) (y 30) (y 31) (y 32) o10 o11 py0_12 py0_13 py0_14)), (y 2, .inr (1, o1_iiiiiirrrrrrriiiii py2_0 py2_1 py2_2 py2_3 py2_4 py2_5 (y 3) (y 4) (y 5) (y 6) (y 7) (y 8) (y 9) py2_13 py2_14 py2_15 py2_16 py2_17))] H := hP
    have hD := cpD hP hD
    have b_13 : iv 0 2147483647 a1 := iv_e2 (Int32.not_lt.mp c_4) (iv_c (0 : Int32) (a := 0) (b := 0) (by decide)) (iv_top a1) (by decide)
    refine lv_if_ne (tgt := 12) hx hb dX9_rows_5 (by decide) (fun c_15 => absurd c_15 (by decide)) (fun _ => ?_)
    refine lv_ldc2 (v := (-2)) hx hb hown (hg _ q_4_162) dX9_rows_8 ?_
    exact fiL hx hb hr hlk hK hP hD hS dX9_rows_11 (Nat.le_of_ble_eq_true rfl) (Nat.le_of_ble_eq_true rfl) (rfl)
  · have hP : va_P V.1 vwCl [(y 0, .inr (9, o9_rirrrrrrrrvviii (y 1) py0_1 (y 2) (y 10) (y 19) (y 25) (y 26) (y 30) (y 31) (y 32) o10 o11 py0_12 py0_13 py0_14)), (y 2, .inr (1, o1_iiiiiirrrrrrriiiii py2_0 py2_1 py2_2 py2_3 py2_4 py2_5 (y 3) (y 4) (y 5) (y 6) (y 7) (y 8) (y 9) py2_13 py2_14 py2_15 py2_16 py2_17))] H := hP
    have hD := cpD hP hD
    have b_16 : iv 0 2147483647 a1 := iv_e2 (Int32.not_lt.mp c_7) (iv_c (0 : Int32) (a := 0) (b := 0) (by decide)) (iv_top a1) (by decide)
    have b_17 : iv 0 3 a1 := iv_l1 (Int32.not_le.mp c_8) b_16 bpy2_1 (by decide)
    have b_18 : iv 1 4 py2_1 := iv_l2 (Int32.not_le.mp c_8) b_16 bpy2_1 (by decide)
    refine lv_if_ne (tgt := 12) hx hb dX9_rows_5 (by decide) (fun _ => ?_) (fun c_20 => absurd c_20 (by decide))
    refine lv_iload_n hx hb dX9_rows_12 rfl (lv_at hl 2 rfl) ?_
    refine jnI (wr := [(y 0, .inr (9, o9_rirrrrrrrrvviii (y 1) py0_1 (y 2) (y 10) (y 19) (y 25) (y 26) (y 30) (y 31) (y 32) o10 o11 py0_12 py0_13 py0_14)), (y 2, .inr (1, o1_iiiiiirrrrrrriiiii py2_0 py2_1 py2_2 py2_3 py2_4 py2_5 (y 3) (y 4) (y 5) (y 6) (y 7) (y 8) (y 9) py2_13 py2_14 py2_15 py2_16 py2_17))]) (rnS (rest := []) ⟨hx, hb, hml, hown, hg⟩ (k_X9_isHeight_0 l V a2) mt_X9_isHeight q_4_49 ⟨Nat.le_of_ble_eq_true rfl, Nat.le_of_ble_eq_true rfl⟩ hK hP hD hS hA hE [] rfl rfl rfl hl.1 rfl (Nat.le_of_ble_eq_true rfl) dX9_rows_13 ⟨Nat.le_of_ble_eq_true rfl, Nat.le_of_ble_eq_true rfl⟩) hP hD hS hA [] [0, 1] rfl rfl rfl (by decide) (fun r_21 w H locs hw hP hD hS => ?_)
    rcases hw with ⟨c_22, rfl, rfl⟩ | ⟨c_23, c_24, rfl, rfl⟩ | ⟨c_25, c_26, rfl, rfl⟩
    · have hP : va_P V.1 vwCl [(y 0, .inr (9, o9_rirrrrrrrrvviii (y 1) py0_1 (y 2) (y 10) (y 19) (y 25) (y 26) (y 30) (y 31) (y 32) o10 o11 py0_12 py0_13 py0_14)), (y 2, .inr (1, o1_iiiiiirrrrrrriiiii py2_0 py2_1 py2_2 py2_3 py2_4 py2_5 (y 3) (y 4) (y 5) (y 6) (y 7) (y 8) (y 9) py2_13 py2_14 py2_15 py2_16 py2_17))] H := hP
      have hD := cpD hP hD
      have b_27 : iv (-2147483648) (-1) a2 := iv_l1 c_22 (iv_top a2) (iv_c (0 : Int32) (a := 0) (b := 0) (by decide)) (by decide)
      refine lv_if_eq (tgt := 29) hx hb dX9_rows_16 (by decide) (fun _ => ?_) (fun c_29 => absurd c_29 (by decide))
      refine lv_ldc2 (v := (-3)) hx hb hown (hg _ q_4_163) dX9_rows_29 ?_
      exact fiL hx hb hr hlk hK hP hD hS dX9_rows_32 (Nat.le_of_ble_eq_true rfl) (Nat.le_of_ble_eq_true rfl) (rfl)
    · have hP : va_P V.1 vwCl [(y 0, .inr (9, o9_rirrrrrrrrvviii (y 1) py0_1 (y 2) (y 10) (y 19) (y 25) (y 26) (y 30) (y 31) (y 32) o10 o11 py0_12 py0_13 py0_14)), (y 2, .inr (1, o1_iiiiiirrrrrrriiiii py2_0 py2_1 py2_2 py2_3 py2_4 py2_5 (y 3) (y 4) (y 5) (y 6) (y 7) (y 8) (y 9) py2_13 py2_14 py2_15 py2_16 py2_17))] H := hP
      have hD := cpD hP hD
      have b_30 : iv 0 2147483647 a2 := iv_e2 (Int32.not_lt.mp c_23) (iv_c (0 : Int32) (a := 0) (b := 0) (by decide)) (iv_top a2) (by decide)
      have b_31 : iv 5 2147483647 a2 := iv_l2 c_24 (iv_c (4 : Int32) (a := 4) (b := 4) (by decide)) b_30 (by decide)
      refine lv_if_eq (tgt := 29) hx hb dX9_rows_16 (by decide) (fun _ => ?_) (fun c_33 => absurd c_33 (by decide))
      refine lv_ldc2 (v := (-3)) hx hb hown (hg _ q_4_163) dX9_rows_29 ?_
      exact fiL hx hb hr hlk hK hP hD hS dX9_rows_32 (Nat.le_of_ble_eq_true rfl) (Nat.le_of_ble_eq_true rfl) (rfl)
    · have hP : va_P V.1 vwCl [(y 0, .inr (9, o9_rirrrrrrrrvviii (y 1) py0_1 (y 2) (y 10) (y 19) (y 25) (y 26) (y 30) (y 31) (y 32) o10 o11 py0_12 py0_13 py0_14)), (y 2, .inr (1, o1_iiiiiirrrrrrriiiii py2_0 py2_1 py2_2 py2_3 py2_4 py2_5 (y 3) (y 4) (y 5) (y 6) (y 7) (y 8) (y 9) py2_13 py2_14 py2_15 py2_16 py2_17))] H := hP
      have hD := cpD hP hD
      have b_34 : iv 0 2147483647 a2 := iv_e2 (Int32.not_lt.mp c_25) (iv_c (0 : Int32) (a := 0) (b := 0) (by decide)) (iv_top a2) (by decide)
      have b_35 : iv 0 4 a2 := iv_e1 (Int32.not_lt.mp c_26) b_34 (iv_c (4 : Int32) (a := 4) (b := 4) (by decide)) (by decide)
      refine lv_if_eq (tgt := 29) hx hb dX9_rows_16 (by decide) (fun c_37 => absurd c_37 (by decide)) (fun _ => ?_)
      refine lv_iload_n hx hb dX9_rows_19 rfl (lv_at hl 3 rfl) ?_
      refine lv_if_lt (tgt := 29) hx hb dX9_rows_20 (by decide) (fun c_38 => ?_) (fun c_38 => ?_)
      · have b_39 : iv (-2147483648) (-1) a3 := iv_l1 c_38 (iv_top a3) (iv_c (0 : Int32) (a := 0) (b := 0) (by decide)) (by decide)
        refine lv_ldc2 (v := (-3)) hx hb hown (hg _ q_4_163) dX9_rows_29 ?_
        exact fiL hx hb hr hlk hK hP hD hS dX9_rows_32 (Nat.le_of_ble_eq_true rfl) (Nat.le_of_ble_eq_true rfl) (rfl)
      · have b_40 : iv 0 2147483647 a3 := iv_e2 (Int32.not_lt.mp c_38) (iv_c (0 : Int32) (a := 0) (b := 0) (by decide)) (iv_top a3) (by decide)
        refine lv_iload_n hx hb dX9_rows_23 rfl (lv_at hl 3 rfl) ?_
        refine lv_bipush (v := 12) hx hb dX9_rows_24 (by decide) ?_
        refine lv_icmp_le (tgt := 33) hx hb dX9_rows_26 (by decide) (fun c_41 => ?_) (fun c_41 => ?_)
        · have b_42 : iv 0 12 a3 := iv_e1 c_41 b_40 (iv_c (12 : Int32) (a := 12) (b := 12) (by decide)) (by decide)
          refine lv_aload_n hx hb dX9_rows_33 rfl (lv_at hl 0 rfl) ?_
          refine lv_iload_n hx hb dX9_rows_34 rfl (lv_at hl 3 rfl) ?_
          have z_0 := Int32.le_iff_toInt_le.mp (Int32.not_lt.mp c_7)
          have z_1 := Int32.lt_iff_toInt_lt.mp (Int32.not_le.mp c_8)
          have z_2 := Int32.le_iff_toInt_le.mp (Int32.not_lt.mp c_25)
          have z_3 := Int32.le_iff_toInt_le.mp (Int32.not_lt.mp c_26)
          have z_4 := Int32.le_iff_toInt_le.mp (Int32.not_lt.mp c_38)
          have z_5 := Int32.le_iff_toInt_le.mp c_41
          have k_0 : (0 : Int32).toInt = 0 := (by decide)
          have k_4 : (4 : Int32).toInt = 4 := (by decide)
          have k_12 : (12 : Int32).toInt = 12 := (by decide)
          exact absurd (⟨by omega, by omega, by omega, by omega, by omega, by omega⟩) hf0
        · have b_43 : iv 13 2147483647 a3 := iv_l2 (Int32.not_le.mp c_41) (iv_c (12 : Int32) (a := 12) (b := 12) (by decide)) b_40 (by decide)
          refine lv_ldc2 (v := (-3)) hx hb hown (hg _ q_4_163) dX9_rows_29 ?_
          exact fiL hx hb hr hlk hK hP hD hS dX9_rows_32 (Nat.le_of_ble_eq_true rfl) (Nat.le_of_ble_eq_true rfl) (rfl)
set_option maxHeartbeats 4000000 in
set_option maxRecDepth 100000 in
theorem k_X9_rows_2 (l : Launch) (V : GV) (y : Nat → Nat) (D9 : Nat → Int32) (a1 : Int32) (a2 : Int32) (a3 : Int32) (py0_1 : Int32) (o11 : Value) (py0_12 : Int32) (py0_13 : Int32) (py0_14 : Int32) (py2_0 : Int32) (py2_1 : Int32) (py2_2 : Int32) (py2_3 : Int32) (py2_4 : Int32) (py2_5 : Int32) (py2_13 : Int32) (py2_14 : Int32) (py2_15 : Int32) (py2_16 : Int32) (py2_17 : Int32) (fy3 : Nat → Int32) (fy9 : Nat → Int32) (fy20 : Nat → Int32) (fy21 : Nat → Int32) (fy22 : Nat → Int32) (bpy0_1 : iv 0 900 py0_1) (bpy0_12 : iv 0 9999 py0_12) (bpy0_13 : iv 0 9 py0_13) (bpy2_1 : iv 0 4 py2_1) (bpy2_2 : iv 0 4 py2_2) (bpy2_3 : iv 0 8 py2_3) (bpy2_4 : iv 0 9999 py2_4) (bpy2_5 : iv 0 9 py2_5) (bpy2_13 : iv 0 900 py2_13) (bpy2_14 : iv 0 900 py2_14) (bpy2_15 : iv 0 900 py2_15) (bpy2_16 : iv 0 900 py2_16) (bpy2_17 : iv 0 900 py2_17) (tfy20 : ∀ j, iv 0 10 (fy20 j)) (hf0 : 0 ≤ (a1 : Int32).toInt) (hf1 : (a1 : Int32).toInt < (py2_1 : Int32).toInt) (hf2 : 0 ≤ (a2 : Int32).toInt) (hf3 : (a2 : Int32).toInt ≤ 4) (hf4 : 0 ≤ (a3 : Int32).toInt) (hf5 : (a3 : Int32).toInt ≤ 12) (hL9 : LW D9 fy3 fy9 py2_14 py2_15 py2_16 py2_17) (hK9 : KN D9 fy20) : Ct l V yX9_rows (.code yX9_rows cX9_rows 5 (some .long)) 8 [.ref (y 0), .int a1, .int a2, .int a3] [(y 0, .inr (9, o9_rirrrrrrrrnviii (y 1) py0_1 (y 2) (y 10) (y 19) (y 25) (y 26) (y 30) (y 31) (y 32) o11 py0_12 py0_13 py0_14)), (y 2, .inr (1, o1_iiiiiirrrrrrriiiii py2_0 py2_1 py2_2 py2_3 py2_4 py2_5 (y 3) (y 4) (y 5) (y 6) (y 7) (y 8) (y 9) py2_13 py2_14 py2_15 py2_16 py2_17)), (y 3, aI V 4 fy3), (y 9, aI V 900 fy9), (y 19, .inr (4, o4_rrrrrr (y 2) (y 20) (y 21) (y 22) (y 23) (y 24))), (y 20, aI V 2000 fy20), (y 21, aI V 6 fy21), (y 22, aI V 64 fy22)] 10 46481 (QL V (fun (r : Int64) (w : va_W) => ∃ (n : Nat) (L : Nat) (Yw : Nat → Nat) (wa : Nat) (wb : Nat) (g0 : Nat → Int32) (g1 : Nat → Int32) (g2 : Nat → Int32) (ww0 : Int32) (ww5 : Int32) (ww6 : Int32) (ww14 : Int32) (ww15 : Int32) (ww16 : Int32) (wew1 : Nat → Int32) (wew2 : Nat → Int32) (wew3 : Nat → Int32) (wew4 : Nat → Int32) (wew5 : Nat → Int32) (wew6 : Nat → Int32) (wew7 : Nat → Int32) (wew8 : Nat → Int32) (wew9 : Nat → Int32), (1 ≤ n ∧ n ≤ 3646) ∧ (1 ≤ L ∧ L ≤ 10000) ∧ (∀ j, iv 0 10 (g0 j)) ∧ iv 0 4 ww0 ∧ iv 0 ((n : Int)) ww5 ∧ iv 0 4 ww6 ∧ iv 0 4 ww14 ∧ iv 0 9 ww15 ∧ iv 0 ((n : Int)) ww16 ∧ (∀ j, iv 0 ((L : Int) - 1) (wew1 j)) ∧ (∀ j, iv 0 ((n : Int)) (wew4 j)) ∧ (∀ j, iv 0 (4 * (n : Int) - 1) (wew5 j)) ∧ (∀ j, iv 0 ((n : Int) - 1) (wew6 j)) ∧ (∀ j, iv 0 ((n : Int) - 1) (wew7 j)) ∧ (WA ww5 wew4 wew1) ∧ (WB ww16 ww6 ww5 wew6) ∧ (WC ww5 wew2) ∧ (ww0 = py2_1) ∧ KN D9 g0 ∧ w = [(y 0, .inr (9, o9_rirrrrrrrrrviii (y 1) py0_1 (y 2) (y 10) (y 19) (y 25) (y 26) (y 30) (y 31) (y 32) (Yw 0) o11 py0_12 py0_13 py0_14)), (y 2, .inr (1, o1_iiiiiirrrrrrriiiii py2_0 py2_1 py2_2 py2_3 py2_4 py2_5 (y 3) (y 4) (y 5) (y 6) (y 7) (y 8) (y 9) py2_13 py2_14 py2_15 py2_16 py2_17)), (y 3, aI V 4 fy3), (y 9, aI V 900 fy9), (y 19, .inr (4, o4_rrrrrr (y 2) (y 20) (y 21) (y 22) (y 23) (y 24))), (y 20, aI V 2000 g0), (y 21, aI V 6 g1), (y 22, aI V 64 g2), (Yw 0, .inr (8, o8_iirrriirrrrrrriii ww0 (nI n) (Yw 1) (Yw 2) wa ww5 ww6 (y 19) (Yw 4) (Yw 5) (Yw 6) (Yw 7) (Yw 8) wb ww14 ww15 ww16)), (Yw 1, aI V n wew1), (Yw 2, aI V n wew2), (wa, aI V n wew3), (Yw 4, aI V L wew4), (Yw 5, aI V n wew5), (Yw 6, aI V (n * 4) wew6), (Yw 7, aI V n wew7), (Yw 8, aI V 4 wew8), (wb, aI V n wew9)])) := by
  refine Ct.of (by decide) (Nat.le_of_ble_eq_true rfl) (fun p e s m below meth c A ls hx hb hr hml hown hlk hnm hg hP hK hD hE hA hS hl => ?_)
  have hl : lv_has ls 5 [(0, .ref (y 0)), (1, .int a1), (2, .int a2), (3, .int a3)] := hl
  refine lv_aload_n hx hb dX9_rows_0 rfl (lv_at hl 0 rfl) ?_
  refine lv_iload_n hx hb dX9_rows_1 rfl (lv_at hl 1 rfl) ?_
  refine jnI (wr := [(y 3, aI V 4 fy3), (y 9, aI V 900 fy9), (y 19, .inr (4, o4_rrrrrr (y 2) (y 20) (y 21) (y 22) (y 23) (y 24))), (y 20, aI V 2000 fy20), (y 21, aI V 6 fy21), (y 22, aI V 64 fy22)]) (rnV (rest := []) ⟨hx, hb, hml, hown, hg⟩ (k_X9_isHill_0 l V y a1 py0_1 (.null) o11 py0_12 py0_13 py0_14 py2_0 py2_1 py2_2 py2_3 py2_4 py2_5 py2_13 py2_14 py2_15 py2_16 py2_17 bpy0_1 bpy0_12 bpy0_13 bpy2_1 bpy2_2 bpy2_3 bpy2_4 bpy2_5 bpy2_13 bpy2_14 bpy2_15 bpy2_16 bpy2_17) mt_X9_isHill q_3_122 ⟨Nat.le_of_ble_eq_true rfl, Nat.le_of_ble_eq_true rfl⟩ hK hP hD hS hA hE [0, 1] rfl rfl 0 rfl rfl rfl rfl hl.1 rfl (Nat.le_of_ble_eq_true rfl) dX9_rows_2 ⟨Nat.le_of_ble_eq_true rfl, Nat.le_of_ble_eq_true rfl⟩) hP hD hS hA [0, 1] [2, 3, 4, 5, 6, 7] rfl rfl rfl (by decide) (fun r_1 w H locs hw hP hD hS => ?_)
  rcases hw with ⟨c_2, rfl, et_3, rfl⟩ | ⟨c_4, c_5, rfl, et_6, rfl⟩ | ⟨c_7, c_8, rfl, et_9, rfl⟩
  · have hP : va_P V.1 vwCl [(y 3, aI V 4 fy3), (y 9, aI V 900 fy9), (y 19, .inr (4, o4_rrrrrr (y 2) (y 20) (y 21) (y 22) (y 23) (y 24))), (y 20, aI V 2000 fy20), (y 21, aI V 6 fy21), (y 22, aI V 64 fy22), (y 0, .inr (9, o9_rirrrrrrrrnviii (y 1) py0_1 (y 2) (y 10) (y 19) (y 25) (y 26) (y 30) (y 31) (y 32) o11 py0_12 py0_13 py0_14)), (y 2, .inr (1, o1_iiiiiirrrrrrriiiii py2_0 py2_1 py2_2 py2_3 py2_4 py2_5 (y 3) (y 4) (y 5) (y 6) (y 7) (y 8) (y 9) py2_13 py2_14 py2_15 py2_16 py2_17))] H := hP
    have hD := cpD hP hD
    have b_10 : iv (-2147483648) (-1) a1 := iv_l1 c_2 (iv_top a1) (iv_c (0 : Int32) (a := 0) (b := 0) (by decide)) (by first | decide | omega)
    refine lv_if_ne (tgt := 12) hx hb dX9_rows_5 (by decide) (fun c_12 => absurd c_12 (by decide)) (fun _ => ?_)
    refine lv_ldc2 (v := (-2)) hx hb hown (hg _ q_4_162) dX9_rows_8 ?_
    have z_0 := Int32.lt_iff_toInt_lt.mp c_2
    have k_0 : (0 : Int32).toInt = 0 := (by decide)
    exfalso
    have g_0 := hf0
    have g_1 := hf1
    have g_2 := hf2
    have g_3 := hf3
    have g_4 := hf4
    have g_5 := hf5
    omega
  · have hP : va_P V.1 vwCl [(y 3, aI V 4 fy3), (y 9, aI V 900 fy9), (y 19, .inr (4, o4_rrrrrr (y 2) (y 20) (y 21) (y 22) (y 23) (y 24))), (y 20, aI V 2000 fy20), (y 21, aI V 6 fy21), (y 22, aI V 64 fy22), (y 0, .inr (9, o9_rirrrrrrrrnviii (y 1) py0_1 (y 2) (y 10) (y 19) (y 25) (y 26) (y 30) (y 31) (y 32) o11 py0_12 py0_13 py0_14)), (y 2, .inr (1, o1_iiiiiirrrrrrriiiii py2_0 py2_1 py2_2 py2_3 py2_4 py2_5 (y 3) (y 4) (y 5) (y 6) (y 7) (y 8) (y 9) py2_13 py2_14 py2_15 py2_16 py2_17))] H := hP
    have hD := cpD hP hD
    have b_13 : iv 0 2147483647 a1 := iv_e2 (Int32.not_lt.mp c_4) (iv_c (0 : Int32) (a := 0) (b := 0) (by decide)) (iv_top a1) (by first | decide | omega)
    refine lv_if_ne (tgt := 12) hx hb dX9_rows_5 (by decide) (fun c_15 => absurd c_15 (by decide)) (fun _ => ?_)
    refine lv_ldc2 (v := (-2)) hx hb hown (hg _ q_4_162) dX9_rows_8 ?_
    have z_0 := Int32.le_iff_toInt_le.mp (Int32.not_lt.mp c_4)
    have z_1 := Int32.le_iff_toInt_le.mp c_5
    have k_0 : (0 : Int32).toInt = 0 := (by decide)
    exfalso
    have g_0 := hf0
    have g_1 := hf1
    have g_2 := hf2
    have g_3 := hf3
    have g_4 := hf4
    have g_5 := hf5
    omega
  · have hP : va_P V.1 vwCl [(y 3, aI V 4 fy3), (y 9, aI V 900 fy9), (y 19, .inr (4, o4_rrrrrr (y 2) (y 20) (y 21) (y 22) (y 23) (y 24))), (y 20, aI V 2000 fy20), (y 21, aI V 6 fy21), (y 22, aI V 64 fy22), (y 0, .inr (9, o9_rirrrrrrrrnviii (y 1) py0_1 (y 2) (y 10) (y 19) (y 25) (y 26) (y 30) (y 31) (y 32) o11 py0_12 py0_13 py0_14)), (y 2, .inr (1, o1_iiiiiirrrrrrriiiii py2_0 py2_1 py2_2 py2_3 py2_4 py2_5 (y 3) (y 4) (y 5) (y 6) (y 7) (y 8) (y 9) py2_13 py2_14 py2_15 py2_16 py2_17))] H := hP
    have hD := cpD hP hD
    have b_16 : iv 0 2147483647 a1 := iv_e2 (Int32.not_lt.mp c_7) (iv_c (0 : Int32) (a := 0) (b := 0) (by decide)) (iv_top a1) (by first | decide | omega)
    have b_17 : iv 0 3 a1 := iv_l1 (Int32.not_le.mp c_8) b_16 bpy2_1 (by first | decide | omega)
    have b_18 : iv 1 4 py2_1 := iv_l2 (Int32.not_le.mp c_8) b_16 bpy2_1 (by first | decide | omega)
    refine lv_if_ne (tgt := 12) hx hb dX9_rows_5 (by decide) (fun _ => ?_) (fun c_20 => absurd c_20 (by decide))
    refine lv_iload_n hx hb dX9_rows_12 rfl (lv_at hl 2 rfl) ?_
    refine jnI (wr := [(y 3, aI V 4 fy3), (y 9, aI V 900 fy9), (y 19, .inr (4, o4_rrrrrr (y 2) (y 20) (y 21) (y 22) (y 23) (y 24))), (y 20, aI V 2000 fy20), (y 21, aI V 6 fy21), (y 22, aI V 64 fy22), (y 0, .inr (9, o9_rirrrrrrrrnviii (y 1) py0_1 (y 2) (y 10) (y 19) (y 25) (y 26) (y 30) (y 31) (y 32) o11 py0_12 py0_13 py0_14)), (y 2, .inr (1, o1_iiiiiirrrrrrriiiii py2_0 py2_1 py2_2 py2_3 py2_4 py2_5 (y 3) (y 4) (y 5) (y 6) (y 7) (y 8) (y 9) py2_13 py2_14 py2_15 py2_16 py2_17))]) (rnS (rest := []) ⟨hx, hb, hml, hown, hg⟩ (k_X9_isHeight_0 l V a2) mt_X9_isHeight q_4_49 ⟨Nat.le_of_ble_eq_true rfl, Nat.le_of_ble_eq_true rfl⟩ hK hP hD hS hA hE [] rfl rfl rfl hl.1 rfl (Nat.le_of_ble_eq_true rfl) dX9_rows_13 ⟨Nat.le_of_ble_eq_true rfl, Nat.le_of_ble_eq_true rfl⟩) hP hD hS hA [] [0, 1, 2, 3, 4, 5, 6, 7] rfl rfl rfl (by decide) (fun r_21 w H locs hw hP hD hS => ?_)
    rcases hw with ⟨c_22, rfl, rfl⟩ | ⟨c_23, c_24, rfl, rfl⟩ | ⟨c_25, c_26, rfl, rfl⟩
    · have hP : va_P V.1 vwCl [(y 3, aI V 4 fy3), (y 9, aI V 900 fy9), (y 19, .inr (4, o4_rrrrrr (y 2) (y 20) (y 21) (y 22) (y 23) (y 24))), (y 20, aI V 2000 fy20), (y 21, aI V 6 fy21), (y 22, aI V 64 fy22), (y 0, .inr (9, o9_rirrrrrrrrnviii (y 1) py0_1 (y 2) (y 10) (y 19) (y 25) (y 26) (y 30) (y 31) (y 32) o11 py0_12 py0_13 py0_14)), (y 2, .inr (1, o1_iiiiiirrrrrrriiiii py2_0 py2_1 py2_2 py2_3 py2_4 py2_5 (y 3) (y 4) (y 5) (y 6) (y 7) (y 8) (y 9) py2_13 py2_14 py2_15 py2_16 py2_17))] H := hP
      have hD := cpD hP hD
      have b_27 : iv (-2147483648) (-1) a2 := iv_l1 c_22 (iv_top a2) (iv_c (0 : Int32) (a := 0) (b := 0) (by decide)) (by first | decide | omega)
      refine lv_if_eq (tgt := 29) hx hb dX9_rows_16 (by decide) (fun _ => ?_) (fun c_29 => absurd c_29 (by decide))
      refine lv_ldc2 (v := (-3)) hx hb hown (hg _ q_4_163) dX9_rows_29 ?_
      have z_0 := Int32.le_iff_toInt_le.mp (Int32.not_lt.mp c_7)
      have z_1 := Int32.lt_iff_toInt_lt.mp (Int32.not_le.mp c_8)
      have z_2 := Int32.lt_iff_toInt_lt.mp c_22
      have k_0 : (0 : Int32).toInt = 0 := (by decide)
      exfalso
      have g_0 := hf0
      have g_1 := hf1
      have g_2 := hf2
      have g_3 := hf3
      have g_4 := hf4
      have g_5 := hf5
      omega
    · have hP : va_P V.1 vwCl [(y 3, aI V 4 fy3), (y 9, aI V 900 fy9), (y 19, .inr (4, o4_rrrrrr (y 2) (y 20) (y 21) (y 22) (y 23) (y 24))), (y 20, aI V 2000 fy20), (y 21, aI V 6 fy21), (y 22, aI V 64 fy22), (y 0, .inr (9, o9_rirrrrrrrrnviii (y 1) py0_1 (y 2) (y 10) (y 19) (y 25) (y 26) (y 30) (y 31) (y 32) o11 py0_12 py0_13 py0_14)), (y 2, .inr (1, o1_iiiiiirrrrrrriiiii py2_0 py2_1 py2_2 py2_3 py2_4 py2_5 (y 3) (y 4) (y 5) (y 6) (y 7) (y 8) (y 9) py2_13 py2_14 py2_15 py2_16 py2_17))] H := hP
      have hD := cpD hP hD
      have b_30 : iv 0 2147483647 a2 := iv_e2 (Int32.not_lt.mp c_23) (iv_c (0 : Int32) (a := 0) (b := 0) (by decide)) (iv_top a2) (by first | decide | omega)
      have b_31 : iv 5 2147483647 a2 := iv_l2 c_24 (iv_c (4 : Int32) (a := 4) (b := 4) (by decide)) b_30 (by first | decide | omega)
      refine lv_if_eq (tgt := 29) hx hb dX9_rows_16 (by decide) (fun _ => ?_) (fun c_33 => absurd c_33 (by decide))
      refine lv_ldc2 (v := (-3)) hx hb hown (hg _ q_4_163) dX9_rows_29 ?_
      have z_0 := Int32.le_iff_toInt_le.mp (Int32.not_lt.mp c_7)
      have z_1 := Int32.lt_iff_toInt_lt.mp (Int32.not_le.mp c_8)
      have z_2 := Int32.le_iff_toInt_le.mp (Int32.not_lt.mp c_23)
      have z_3 := Int32.lt_iff_toInt_lt.mp c_24
      have k_0 : (0 : Int32).toInt = 0 := (by decide)
      have k_4 : (4 : Int32).toInt = 4 := (by decide)
      exfalso
      have g_0 := hf0
      have g_1 := hf1
      have g_2 := hf2
      have g_3 := hf3
      have g_4 := hf4
      have g_5 := hf5
      omega
    · have hP : va_P V.1 vwCl [(y 3, aI V 4 fy3), (y 9, aI V 900 fy9), (y 19, .inr (4, o4_rrrrrr (y 2) (y 20) (y 21) (y 22) (y 23) (y 24))), (y 20, aI V 2000 fy20), (y 21, aI V 6 fy21), (y 22, aI V 64 fy22), (y 0, .inr (9, o9_rirrrrrrrrnviii (y 1) py0_1 (y 2) (y 10) (y 19) (y 25) (y 26) (y 30) (y 31) (y 32) o11 py0_12 py0_13 py0_14)), (y 2, .inr (1, o1_iiiiiirrrrrrriiiii py2_0 py2_1 py2_2 py2_3 py2_4 py2_5 (y 3) (y 4) (y 5) (y 6) (y 7) (y 8) (y 9) py2_13 py2_14 py2_15 py2_16 py2_17))] H := hP
      have hD := cpD hP hD
      have b_34 : iv 0 2147483647 a2 := iv_e2 (Int32.not_lt.mp c_25) (iv_c (0 : Int32) (a := 0) (b := 0) (by decide)) (iv_top a2) (by first | decide | omega)
      have b_35 : iv 0 4 a2 := iv_e1 (Int32.not_lt.mp c_26) b_34 (iv_c (4 : Int32) (a := 4) (b := 4) (by decide)) (by first | decide | omega)
      refine lv_if_eq (tgt := 29) hx hb dX9_rows_16 (by decide) (fun c_37 => absurd c_37 (by decide)) (fun _ => ?_)
      refine lv_iload_n hx hb dX9_rows_19 rfl (lv_at hl 3 rfl) ?_
      refine lv_if_lt (tgt := 29) hx hb dX9_rows_20 (by decide) (fun c_38 => ?_) (fun c_38 => ?_)
      · have b_39 : iv (-2147483648) (-1) a3 := iv_l1 c_38 (iv_top a3) (iv_c (0 : Int32) (a := 0) (b := 0) (by decide)) (by first | decide | omega)
        refine lv_ldc2 (v := (-3)) hx hb hown (hg _ q_4_163) dX9_rows_29 ?_
        have z_0 := Int32.le_iff_toInt_le.mp (Int32.not_lt.mp c_7)
        have z_1 := Int32.lt_iff_toInt_lt.mp (Int32.not_le.mp c_8)
        have z_2 := Int32.le_iff_toInt_le.mp (Int32.not_lt.mp c_25)
        have z_3 := Int32.le_iff_toInt_le.mp (Int32.not_lt.mp c_26)
        have z_4 := Int32.lt_iff_toInt_lt.mp c_38
        have k_0 : (0 : Int32).toInt = 0 := (by decide)
        have k_4 : (4 : Int32).toInt = 4 := (by decide)
        exfalso
        have g_0 := hf0
        have g_1 := hf1
        have g_2 := hf2
        have g_3 := hf3
        have g_4 := hf4
        have g_5 := hf5
        omega
      · have b_40 : iv 0 2147483647 a3 := iv_e2 (Int32.not_lt.mp c_38) (iv_c (0 : Int32) (a := 0) (b := 0) (by decide)) (iv_top a3) (by first | decide | omega)
        refine lv_iload_n hx hb dX9_rows_23 rfl (lv_at hl 3 rfl) ?_
        refine lv_bipush (v := 12) hx hb dX9_rows_24 (by decide) ?_
        refine lv_icmp_le (tgt := 33) hx hb dX9_rows_26 (by decide) (fun c_41 => ?_) (fun c_41 => ?_)
        · have b_42 : iv 0 12 a3 := iv_e1 c_41 b_40 (iv_c (12 : Int32) (a := 12) (b := 12) (by decide)) (by first | decide | omega)
          refine lv_aload_n hx hb dX9_rows_33 rfl (lv_at hl 0 rfl) ?_
          refine lv_iload_n hx hb dX9_rows_34 rfl (lv_at hl 3 rfl) ?_
          refine jnR (wr := []) (rnV (rest := []) ⟨hx, hb, hml, hown, hg⟩ (k_X9_waysFromNow_1 l V y D9 a3 fy3 fy9 fy20 fy21 fy22 py0_1 o11 py0_12 py0_13 py0_14 py2_0 py2_1 py2_2 py2_3 py2_4 py2_5 py2_13 py2_14 py2_15 py2_16 py2_17 tfy20 bpy0_1 bpy0_12 bpy0_13 (iv_w b_18 (by first | decide | omega)) bpy2_2 bpy2_3 bpy2_4 bpy2_5 bpy2_13 bpy2_14 bpy2_15 bpy2_16 bpy2_17 hL9 hK9) mt_X9_waysFromNow q_4_52 ⟨Nat.le_of_ble_eq_true rfl, Nat.le_of_ble_eq_true rfl⟩ hK hP hD hS hA hE [0, 1, 2, 3, 4, 5, 6, 7] rfl rfl 6 rfl rfl rfl rfl hl.1 rfl (Nat.le_of_ble_eq_true rfl) dX9_rows_35 ⟨Nat.le_of_ble_eq_true rfl, Nat.le_of_ble_eq_true rfl⟩) hP hD hS hA [0, 1, 2, 3, 4, 5, 6, 7] [] rfl rfl rfl (by decide) (fun r_43 w H locs hw hP hD hS => ?_)
          refine W.widen (k := 10) (n := 46481) (Nat.le_of_ble_eq_true rfl) (Nat.le_of_ble_eq_true rfl) ?_
          obtain ⟨n, L, Yw, wa_44, wb_45, f_46, f_47, f_48, v_49, v_50, v_51, v_52, v_53, v_54, f_55, f_56, f_57, f_58, f_59, f_60, f_61, f_62, f_63, hn, hL, tf_46, bv_49, bv_50, bv_51, bv_52, bv_53, bv_54, tf_55, tf_58, tf_59, tf_60, tf_61, eW, g_64, g_65, g_66, g_67, g_68, kn_69, rfl⟩ := hw
          have hP : va_P V.1 vwCl [(y 3, aI V 4 fy3), (y 9, aI V 900 fy9), (y 19, .inr (4, o4_rrrrrr (y 2) (y 20) (y 21) (y 22) (y 23) (y 24))), (y 20, aI V 2000 f_46), (y 21, aI V 6 f_47), (y 22, aI V 64 f_48), (y 0, .inr (9, o9_rirrrrrrrrrviii (y 1) py0_1 (y 2) (y 10) (y 19) (y 25) (y 26) (y 30) (y 31) (y 32) (Yw 0) o11 py0_12 py0_13 py0_14)), (y 2, .inr (1, o1_iiiiiirrrrrrriiiii py2_0 py2_1 py2_2 py2_3 py2_4 py2_5 (y 3) (y 4) (y 5) (y 6) (y 7) (y 8) (y 9) py2_13 py2_14 py2_15 py2_16 py2_17)), (Yw 0, .inr (8, o8_iirrriirrrrrrriii v_49 (nI n) (Yw 1) (Yw 2) wa_44 v_50 v_51 (y 19) (Yw 4) (Yw 5) (Yw 6) (Yw 7) (Yw 8) wb_45 v_52 v_53 v_54)), (Yw 1, aI V n f_55), (Yw 2, aI V n f_56), (wa_44, aI V n f_57), (Yw 4, aI V L f_58), (Yw 5, aI V n f_59), (Yw 6, aI V (n * 4) f_60), (Yw 7, aI V n f_61), (Yw 8, aI V 4 f_62), (wb_45, aI V n f_63)] H := hP
          have hD := cpD hP hD
          rw [← eW]
          refine lv_astore (lv' := [(4, .ref (Yw 0)), (0, .ref (y 0)), (1, .int a1), (2, .int a2), (3, .int a3)]) hx hb dX9_rows_38 hl (by decide) rfl (fun ls hl => ?_)
          refine lv_aload hx hb dX9_rows_40 (lv_at hl 0 rfl) ?_
          refine lv_iload_n hx hb dX9_rows_42 rfl (lv_at hl 4 rfl) ?_
          refine lv_iconst (v := 1) hx hb dX9_rows_43 (by decide) ?_
          refine jnV (wr := [(y 3, aI V 4 fy3), (y 9, aI V 900 fy9), (y 19, .inr (4, o4_rrrrrr (y 2) (y 20) (y 21) (y 22) (y 23) (y 24))), (y 20, aI V 2000 f_46), (y 21, aI V 6 f_47), (y 22, aI V 64 f_48), (y 0, .inr (9, o9_rirrrrrrrrrviii (y 1) py0_1 (y 2) (y 10) (y 19) (y 25) (y 26) (y 30) (y 31) (y 32) (Yw 0) o11 py0_12 py0_13 py0_14)), (y 2, .inr (1, o1_iiiiiirrrrrrriiiii py2_0 py2_1 py2_2 py2_3 py2_4 py2_5 (y 3) (y 4) (y 5) (y 6) (y 7) (y 8) (y 9) py2_13 py2_14 py2_15 py2_16 py2_17)), (Yw 1, aI V n f_55), (Yw 4, aI V L f_58), (Yw 5, aI V n f_59), (Yw 7, aI V n f_61), (Yw 8, aI V 4 f_62)]) (rnV (rest := []) ⟨hx, hb, hml, hown, hg⟩ (k_X8_spread_0 l V n Yw y a3 1 v_49 wa_44 v_50 v_51 wb_45 v_52 v_53 v_54 f_56 f_57 f_60 f_63 hn bv_49 bv_50 bv_51 bv_52 bv_53 bv_54 tf_60) mt_X8_spread q_4_164 ⟨Nat.le_of_ble_eq_true rfl, Nat.le_of_ble_eq_true rfl⟩ hK hP hD hS hA hE [8, 10, 11, 14, 17] rfl rfl 8 rfl rfl rfl rfl hl.1 rfl (Nat.le_of_ble_eq_true rfl) dX9_rows_44 ⟨Nat.le_of_ble_eq_true rfl, Nat.le_of_ble_eq_true rfl⟩) hP hD hS hA [8, 10, 11, 14, 17] [0, 1, 2, 3, 4, 5, 6, 7, 9, 12, 13, 15, 16] rfl rfl rfl (by decide) (fun  w H locs hw hP hD hS => ?_)
          obtain ⟨wa_70, wb_71, f_72, f_73, rfl⟩ := hw
          have hP : va_P V.1 vwCl [(y 3, aI V 4 fy3), (y 9, aI V 900 fy9), (y 19, .inr (4, o4_rrrrrr (y 2) (y 20) (y 21) (y 22) (y 23) (y 24))), (y 20, aI V 2000 f_46), (y 21, aI V 6 f_47), (y 22, aI V 64 f_48), (y 0, .inr (9, o9_rirrrrrrrrrviii (y 1) py0_1 (y 2) (y 10) (y 19) (y 25) (y 26) (y 30) (y 31) (y 32) (Yw 0) o11 py0_12 py0_13 py0_14)), (y 2, .inr (1, o1_iiiiiirrrrrrriiiii py2_0 py2_1 py2_2 py2_3 py2_4 py2_5 (y 3) (y 4) (y 5) (y 6) (y 7) (y 8) (y 9) py2_13 py2_14 py2_15 py2_16 py2_17)), (Yw 1, aI V n f_55), (Yw 4, aI V L f_58), (Yw 5, aI V n f_59), (Yw 7, aI V n f_61), (Yw 8, aI V 4 f_62), (Yw 0, .inr (8, o8_iirrriirrrrrrriii v_49 (nI n) (Yw 1) (Yw 2) wa_70 v_50 v_51 (y 19) (Yw 4) (Yw 5) (Yw 6) (Yw 7) (Yw 8) wb_71 v_52 v_53 v_54)), (Yw 2, aI V n f_56), (wa_70, aI V n f_72), (Yw 6, aI V (n * 4) f_60), (wb_71, aI V n f_73)] H := hP
          have hD := cpD hP hD
          refine lv_aload hx hb dX9_rows_47 (lv_at hl 0 rfl) ?_
          refine lv_iload_n hx hb dX9_rows_49 rfl (lv_at hl 2 rfl) ?_
          refine lv_iload_n hx hb dX9_rows_50 rfl (lv_at hl 3 rfl) ?_
          refine lv_iload_n hx hb dX9_rows_51 rfl (lv_at hl 3 rfl) ?_
          refine jnI (wr := [(y 3, aI V 4 fy3), (y 9, aI V 900 fy9), (y 19, .inr (4, o4_rrrrrr (y 2) (y 20) (y 21) (y 22) (y 23) (y 24))), (y 20, aI V 2000 f_46), (y 21, aI V 6 f_47), (y 22, aI V 64 f_48), (y 0, .inr (9, o9_rirrrrrrrrrviii (y 1) py0_1 (y 2) (y 10) (y 19) (y 25) (y 26) (y 30) (y 31) (y 32) (Yw 0) o11 py0_12 py0_13 py0_14)), (y 2, .inr (1, o1_iiiiiirrrrrrriiiii py2_0 py2_1 py2_2 py2_3 py2_4 py2_5 (y 3) (y 4) (y 5) (y 6) (y 7) (y 8) (y 9) py2_13 py2_14 py2_15 py2_16 py2_17)), (Yw 4, aI V L f_58), (Yw 5, aI V n f_59), (Yw 7, aI V n f_61), (Yw 8, aI V 4 f_62), (Yw 2, aI V n f_56), (Yw 6, aI V (n * 4) f_60), (wb_71, aI V n f_73)]) (rnV (rest := []) ⟨hx, hb, hml, hown, hg⟩ (k_X8_weightOf_0 l V n L Yw y a1 a2 a2 v_49 wa_70 v_50 v_51 wb_71 v_52 v_53 v_54 f_55 f_72 hn hL b_17 bv_49 bv_50 bv_51 bv_52 bv_53 bv_54 tf_55) mt_X8_weightOf q_4_186 ⟨Nat.le_of_ble_eq_true rfl, Nat.le_of_ble_eq_true rfl⟩ hK hP hD hS hA hE [13, 8, 15] rfl rfl 13 rfl rfl rfl rfl hl.1 rfl (Nat.le_of_ble_eq_true rfl) dX9_rows_52 ⟨Nat.le_of_ble_eq_true rfl, Nat.le_of_ble_eq_true rfl⟩) hP hD hS hA [13, 8, 15] [0, 1, 2, 3, 4, 5, 6, 7, 9, 10, 11, 12, 14, 16, 17] rfl rfl rfl (by decide) (fun r_74 w H locs hw hP hD hS => ?_)
          subst hw
          have hP : va_P V.1 vwCl [(y 3, aI V 4 fy3), (y 9, aI V 900 fy9), (y 19, .inr (4, o4_rrrrrr (y 2) (y 20) (y 21) (y 22) (y 23) (y 24))), (y 20, aI V 2000 f_46), (y 21, aI V 6 f_47), (y 22, aI V 64 f_48), (y 0, .inr (9, o9_rirrrrrrrrrviii (y 1) py0_1 (y 2) (y 10) (y 19) (y 25) (y 26) (y 30) (y 31) (y 32) (Yw 0) o11 py0_12 py0_13 py0_14)), (y 2, .inr (1, o1_iiiiiirrrrrrriiiii py2_0 py2_1 py2_2 py2_3 py2_4 py2_5 (y 3) (y 4) (y 5) (y 6) (y 7) (y 8) (y 9) py2_13 py2_14 py2_15 py2_16 py2_17)), (Yw 4, aI V L f_58), (Yw 5, aI V n f_59), (Yw 7, aI V n f_61), (Yw 8, aI V 4 f_62), (Yw 2, aI V n f_56), (Yw 6, aI V (n * 4) f_60), (wb_71, aI V n f_73), (Yw 0, .inr (8, o8_iirrriirrrrrrriii v_49 (nI n) (Yw 1) (Yw 2) wa_70 v_50 v_51 (y 19) (Yw 4) (Yw 5) (Yw 6) (Yw 7) (Yw 8) wb_71 v_52 v_53 v_54)), (Yw 1, aI V n f_55), (wa_70, aI V n f_72)] H := hP
          have hD := cpD hP hD
          refine lv_i2l hx hb dX9_rows_55 rfl ?_
          refine lv_topl (fun j_75 ej_75 => ?_)
          have hP := subP (ws' := [(y 0, .inr (9, o9_rirrrrrrrrrviii (y 1) py0_1 (y 2) (y 10) (y 19) (y 25) (y 26) (y 30) (y 31) (y 32) (Yw 0) o11 py0_12 py0_13 py0_14)), (y 2, .inr (1, o1_iiiiiirrrrrrriiiii py2_0 py2_1 py2_2 py2_3 py2_4 py2_5 (y 3) (y 4) (y 5) (y 6) (y 7) (y 8) (y 9) py2_13 py2_14 py2_15 py2_16 py2_17)), (y 3, aI V 4 fy3), (y 9, aI V 900 fy9), (y 19, .inr (4, o4_rrrrrr (y 2) (y 20) (y 21) (y 22) (y 23) (y 24))), (y 20, aI V 2000 f_46), (y 21, aI V 6 f_47), (y 22, aI V 64 f_48), (Yw 4, aI V L f_58), (Yw 5, aI V n f_59), (Yw 7, aI V n f_61), (Yw 8, aI V 4 f_62), (Yw 2, aI V n f_56), (Yw 6, aI V (n * 4) f_60), (wb_71, aI V n f_73), (Yw 0, .inr (8, o8_iirrriirrrrrrriii v_49 (nI n) (Yw 1) (Yw 2) wa_70 v_50 v_51 (y 19) (Yw 4) (Yw 5) (Yw 6) (Yw 7) (Yw 8) wb_71 v_52 v_53 v_54)), (Yw 1, aI V n f_55), (wa_70, aI V n f_72)]) hP [6, 7, 0, 1, 2, 3, 4, 5, 8, 9, 10, 11, 12, 13, 14, 15, 16, 17] rfl
          have hD := subD hP hD [6, 7, 0, 1, 2, 3, 4, 5, 8, 9, 10, 11, 12, 13, 14, 15, 16, 17] rfl rfl
          exact fiL hx hb hr hlk hK (subP (ws' := [(y 0, .inr (9, o9_rirrrrrrrrrviii (y 1) py0_1 (y 2) (y 10) (y 19) (y 25) (y 26) (y 30) (y 31) (y 32) (Yw 0) o11 py0_12 py0_13 py0_14)), (y 2, .inr (1, o1_iiiiiirrrrrrriiiii py2_0 py2_1 py2_2 py2_3 py2_4 py2_5 (y 3) (y 4) (y 5) (y 6) (y 7) (y 8) (y 9) py2_13 py2_14 py2_15 py2_16 py2_17)), (y 3, aI V 4 fy3), (y 9, aI V 900 fy9), (y 19, .inr (4, o4_rrrrrr (y 2) (y 20) (y 21) (y 22) (y 23) (y 24))), (y 20, aI V 2000 f_46), (y 21, aI V 6 f_47), (y 22, aI V 64 f_48), (Yw 0, .inr (8, o8_iirrriirrrrrrriii v_49 (nI n) (Yw 1) (Yw 2) wa_70 v_50 v_51 (y 19) (Yw 4) (Yw 5) (Yw 6) (Yw 7) (Yw 8) wb_71 v_52 v_53 v_54)), (Yw 1, aI V n f_55), (Yw 2, aI V n f_56), (wa_70, aI V n f_72), (Yw 4, aI V L f_58), (Yw 5, aI V n f_59), (Yw 6, aI V (n * 4) f_60), (Yw 7, aI V n f_61), (Yw 8, aI V 4 f_62), (wb_71, aI V n f_73)]) hP [0, 1, 2, 3, 4, 5, 6, 7, 15, 16, 12, 17, 8, 9, 13, 10, 11, 14] rfl) (hD.sub [0, 1, 2, 3, 4, 5, 6, 7, 15, 16, 12, 17, 8, 9, 13, 10, 11, 14] rfl rfl) hS dX9_rows_56 (Nat.le_of_ble_eq_true rfl) (Nat.le_of_ble_eq_true rfl) (⟨n, L, Yw, wa_70, wb_71, f_46, f_47, f_48, v_49, v_50, v_51, v_52, v_53, v_54, f_55, f_56, f_72, f_58, f_59, f_60, f_61, f_62, f_73, hn, hL, tf_46, bv_49, bv_50, bv_51, bv_52, bv_53, bv_54, tf_55, tf_58, tf_59, tf_60, tf_61, g_64, g_65, g_66, g_68, kn_69, rfl⟩)
        · have b_76 : iv 13 2147483647 a3 := iv_l2 (Int32.not_le.mp c_41) (iv_c (12 : Int32) (a := 12) (b := 12) (by decide)) b_40 (by first | decide | omega)
          refine lv_ldc2 (v := (-3)) hx hb hown (hg _ q_4_163) dX9_rows_29 ?_
          have z_0 := Int32.le_iff_toInt_le.mp (Int32.not_lt.mp c_7)
          have z_1 := Int32.lt_iff_toInt_lt.mp (Int32.not_le.mp c_8)
          have z_2 := Int32.le_iff_toInt_le.mp (Int32.not_lt.mp c_25)
          have z_3 := Int32.le_iff_toInt_le.mp (Int32.not_lt.mp c_26)
          have z_4 := Int32.le_iff_toInt_le.mp (Int32.not_lt.mp c_38)
          have z_5 := Int32.lt_iff_toInt_lt.mp (Int32.not_le.mp c_41)
          have k_0 : (0 : Int32).toInt = 0 := (by decide)
          have k_4 : (4 : Int32).toInt = 4 := (by decide)
          have k_12 : (12 : Int32).toInt = 12 := (by decide)
          exfalso
          have g_0 := hf0
          have g_1 := hf1
          have g_2 := hf2
          have g_3 := hf3
          have g_4 := hf4
          have g_5 := hf5
          omega
