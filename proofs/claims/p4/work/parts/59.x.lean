theorem dX10_isHill_0 : decode cX10_isHill 0 = .ok (.lload_n 1, 1) := by decide +kernel
theorem dX10_isHill_1 : decode cX10_isHill 1 = .ok (.lconst 0, 1) := by decide +kernel
theorem dX10_isHill_2 : decode cX10_isHill 2 = .ok (.aload_n 0, 1) := by decide +kernel
theorem dX10_isHill_3 : decode cX10_isHill 3 = .ok (.getfield 13, 3) := by decide +kernel
theorem dX10_isHill_6 : decode cX10_isHill 6 = .ok (.iconst 1, 1) := by decide +kernel
theorem dX10_isHill_7 : decode cX10_isHill 7 = .ok (.iaload, 1) := by decide +kernel
theorem dX10_isHill_8 : decode cX10_isHill 8 = .ok (.iconst 1, 1) := by decide +kernel
theorem dX10_isHill_9 : decode cX10_isHill 9 = .ok (.isub, 1) := by decide +kernel
theorem dX10_isHill_10 : decode cX10_isHill 10 = .ok (.i2l, 1) := by decide +kernel
theorem dX10_isHill_11 : decode cX10_isHill 11 = .ok (.invokestatic 159, 3) := by decide +kernel
theorem dX10_isHill_14 : decode cX10_isHill 14 = .ok (.ireturn, 1) := by decide +kernel
set_option maxHeartbeats 4000000 in
set_option maxRecDepth 100000 in
theorem k_X10_isHill_0 (l : Launch) (V : GV) (z : Nat → Nat) (k1 : Int64) (pz0_0 : Int32) (pz0_5 : Int32) (pz0_6 : Int32) (pz0_7 : Int32) (pz0_8 : Int32) (pz0_9 : Int32) (pz0_10 : Int32) (pz0_11 : Int32) (pz0_12 : Int32) (pz0_13 : Int32) (pz0_14 : Int32) (pz0_18 : Int32) (pz0_19 : Int32) (pz0_22 : Int32) (pz0_23 : Int32) (pz0_29 : Int32) (fz1 : Nat → Int32) (bpz0_5 : iv 0 900 pz0_5) (bpz0_6 : iv 0 900 pz0_6) (bpz0_7 : iv 0 900 pz0_7) (bpz0_8 : iv 0 900 pz0_8) (bpz0_10 : iv 0 999 pz0_10) (bpz0_11 : iv 0 4 pz0_11) (bpz0_12 : iv 0 900 pz0_12) (bpz0_13 : iv 0 4 pz0_13) (bpz0_14 : iv (-1) 900 pz0_14) (bpz0_18 : iv 0 2 pz0_18) (bpz0_22 : iv 0 9999 pz0_22) (bpz0_29 : iv 0 10000 pz0_29) (tfz1 : ivT tA fz1) : Ct l V yX10_isHill (.code yX10_isHill cX10_isHill 3 (some .boolean)) 2 [.ref (z 0), .long k1] [(z 0, .inr (10, mo z pz0_0 pz0_5 pz0_6 pz0_7 pz0_8 pz0_9 pz0_10 pz0_11 pz0_12 pz0_13 pz0_14 pz0_18 pz0_19 pz0_22 pz0_23 pz0_29)), (z 1, aI V 3075 fz1)] 0 0 (QI V (fun (r : Int32) (w : va_W) => iv 0 1 r ∧ (r = 1 → ivL 0 3 k1) ∧ w = [(z 0, .inr (10, mo z pz0_0 pz0_5 pz0_6 pz0_7 pz0_8 pz0_9 pz0_10 pz0_11 pz0_12 pz0_13 pz0_14 pz0_18 pz0_19 pz0_22 pz0_23 pz0_29)), (z 1, aI V 3075 fz1)])) := by
  refine Ct.of (by decide) (Nat.le_of_ble_eq_true rfl) (fun p e s m below meth c A ls hx hb hr hml hown hlk hnm hg hP hK hD hE hA hS hl => ?_)
  have hl : lv_has ls 3 [(0, .ref (z 0)), (1, .long k1)] := hl
  refine lv_lload_n hx hb dX10_isHill_0 rfl (lv_at hl 1 rfl) ?_
  refine lv_lconst (v := 0) hx hb dX10_isHill_1 (by decide) ?_
  refine lv_aload_n hx hb dX10_isHill_2 rfl (lv_at hl 0 rfl) ?_
  refine va_get (ci := 10) (v := .ref (z 1)) (C := RX10) (T := TX10) (N := 40) hx hb hg inX10 hown hK hP 0 rfl rfl 1 (by decide) (hg _ q_5_225) (fun _ h9 => h9) rfl dX10_isHill_3 ?_
  refine lv_iconst (v := 1) hx hb dX10_isHill_6 (by decide) ?_
  refine va_iald hx hb hK hP 1 0 rfl rfl (vin (by decide +kernel)) dX10_isHill_7 ?_
  refine lv_topi (fun x_1 ex_1 => ?_)
  have bx_1 : iv 0 4 x_1 := by rw [ex_1]; exact rdT (a := 1) (n := 1) tfz1 (iv_c (1 : Int32) (a := 1) (b := 1) (by decide)) (by decide) (by decide +kernel)
  refine lv_iconst (v := 1) hx hb dX10_isHill_8 (by decide) ?_
  refine lv_isub hx hb dX10_isHill_9 ?_
  refine lv_topi (fun x_2 ex_2 => ?_)
  have bx_2 : iv (-1) 3 x_2 := by rw [ex_2]; exact iv_sub bx_1 (iv_c (1 : Int32) (a := 1) (b := 1) (by decide)) (by decide)
  refine lv_i2l hx hb dX10_isHill_10 rfl ?_
  refine lv_topl (fun j_3 ej_3 => ?_)
  have bj_3 : ivL (-1) 3 j_3 := by rw [ej_3]; exact ivL_of bx_2
  refine jnI (wr := [(z 0, .inr (10, mo z pz0_0 pz0_5 pz0_6 pz0_7 pz0_8 pz0_9 pz0_10 pz0_11 pz0_12 pz0_13 pz0_14 pz0_18 pz0_19 pz0_22 pz0_23 pz0_29)), (z 1, aI V 3075 fz1)]) (rnS (rest := []) ⟨hx, hb, hml, hown, hg⟩ (k_X10_within_0 l V k1 0 j_3) mt_X10_within q_6_114 ⟨Nat.le_of_ble_eq_true rfl, Nat.le_of_ble_eq_true rfl⟩ hK hP hD hS hA hE [] rfl rfl rfl hl.1 rfl (Nat.le_of_ble_eq_true rfl) dX10_isHill_11 ⟨Nat.le_of_ble_eq_true rfl, Nat.le_of_ble_eq_true rfl⟩) hP hD hS hA [] [0, 1] rfl rfl rfl (by decide) (fun r_4 w H locs hw hP hD hS => ?_)
  obtain ⟨br_4, g_5, g_6, g_7, rfl⟩ := hw
  have hP : va_P V.1 vwCl [(z 0, .inr (10, mo z pz0_0 pz0_5 pz0_6 pz0_7 pz0_8 pz0_9 pz0_10 pz0_11 pz0_12 pz0_13 pz0_14 pz0_18 pz0_19 pz0_22 pz0_23 pz0_29)), (z 1, aI V 3075 fz1)] H := hP
  have hD : va_D A [(z 0, .inr (10, mo z pz0_0 pz0_5 pz0_6 pz0_7 pz0_8 pz0_9 pz0_10 pz0_11 pz0_12 pz0_13 pz0_14 pz0_18 pz0_19 pz0_22 pz0_23 pz0_29)), (z 1, aI V 3075 fz1)] := hD
  have c_8 : r_4 = 0 ∨ r_4 = 1 := by have q9 := br_4; unfold iv at q9; simp only [tI_eq, (by decide : (0 : Int32).toInt = 0), (by decide : (1 : Int32).toInt = 1)]; omega
  rcases c_8 with rfl | rfl
  · exact fiZ rfl hx hb hr hlk hK hP hD hS dX10_isHill_14 (Nat.le_of_ble_eq_true rfl) (Nat.le_of_ble_eq_true rfl) (⟨(iv_c (0 : Int32) (by decide)), (fun q9 => absurd q9 (by decide)), rfl⟩)
  · have c_9 : (0 : Int64) ≤ k1 := (g_6 rfl)
    have b_10 : ivL 0 9223372036854775807 k1 := ivL_e2 c_9 (ivL_c (0 : Int64) (a := 0) (b := 0) (by decide)) (ivL_top k1) (by decide)
    have c_11 : k1 ≤ j_3 := (g_7 rfl)
    have b_12 : ivL 0 3 k1 := ivL_e1 c_11 b_10 bj_3 (by decide)
    have b_13 : ivL 0 3 j_3 := ivL_e2 c_11 b_10 bj_3 (by decide)
    have b_14 : iv 0 3 x_2 := iv_cap (ivL_i ej_3 b_13) bx_2 (by decide)
    exact fiZ rfl hx hb hr hlk hK hP hD hS dX10_isHill_14 (Nat.le_of_ble_eq_true rfl) (Nat.le_of_ble_eq_true rfl) (⟨(iv_c (1 : Int32) (by decide)), (fun _ => b_12), rfl⟩)
theorem dX10_hill_0 : decode cX10_hill 0 = .ok (.aload_n 0, 1) := by decide +kernel
theorem dX10_hill_1 : decode cX10_hill 1 = .ok (.iconst 0, 1) := by decide +kernel
theorem dX10_hill_2 : decode cX10_hill 2 = .ok (.putfield 1, 3) := by decide +kernel
theorem dX10_hill_5 : decode cX10_hill 5 = .ok (.aload_n 0, 1) := by decide +kernel
theorem dX10_hill_6 : decode cX10_hill 6 = .ok (.iload_n 1, 1) := by decide +kernel
theorem dX10_hill_7 : decode cX10_hill 7 = .ok (.i2l, 1) := by decide +kernel
theorem q_6_238 : Cond.code yX10_isHill prog_12_method_36_code 3 (some FieldType.boolean) ∈ gw := gw_6 (i := 238) (rfl) rfl
theorem q_6_237 : Cond.instanceMethod yX10_isHill ∈ gw := gw_6 (i := 237) (by decide +kernel) rfl
theorem q_s_79 : Cond.selects "BeaconDelayModel" yX10_isHill yX10_isHill ∈ gw := gw_s (i := 79) (by decide +kernel) rfl
theorem mt_X10_isHill : MtV yX10_isHill cX10_isHill 3 (some .boolean) 1 := ⟨⟨q_6_238, q_1_9, by decide +kernel, by decide +kernel, by decide +kernel⟩, q_6_237, q_s_79⟩
theorem q_6_235 : Cond.methodLink "BeaconDelayModel" 262 yX10_isHill ∈ gw := gw_6 (i := 235) (by decide +kernel) rfl
theorem dX10_hill_8 : decode cX10_hill 8 = .ok (.invokevirtual 262, 3) := by decide +kernel
theorem dX10_hill_11 : decode cX10_hill 11 = .ok (.ifCond .ne 6, 3) := by decide +kernel
theorem dX10_hill_17 : decode cX10_hill 17 = .ok (.iload_n 2, 1) := by decide +kernel
theorem dX10_hill_18 : decode cX10_hill 18 = .ok (.tableswitch 72 0 3 #[30, 40, 50, 62], 30) := by decide +kernel
theorem dX10_hill_48 : decode cX10_hill 48 = .ok (.aload_n 0, 1) := by decide +kernel
theorem dX10_hill_49 : decode cX10_hill 49 = .ok (.getfield 13, 3) := by decide +kernel
theorem dX10_hill_52 : decode cX10_hill 52 = .ok (.bipush 46, 2) := by decide +kernel
theorem dX10_hill_54 : decode cX10_hill 54 = .ok (.iload_n 1, 1) := by decide +kernel
theorem dX10_hill_55 : decode cX10_hill 55 = .ok (.iadd, 1) := by decide +kernel
theorem dX10_hill_56 : decode cX10_hill 56 = .ok (.iaload, 1) := by decide +kernel
theorem dX10_hill_57 : decode cX10_hill 57 = .ok (.ireturn, 1) := by decide +kernel
theorem dX10_hill_58 : decode cX10_hill 58 = .ok (.aload_n 0, 1) := by decide +kernel
theorem dX10_hill_59 : decode cX10_hill 59 = .ok (.getfield 13, 3) := by decide +kernel
theorem dX10_hill_62 : decode cX10_hill 62 = .ok (.bipush 10, 2) := by decide +kernel
theorem dX10_hill_64 : decode cX10_hill 64 = .ok (.iload_n 1, 1) := by decide +kernel
theorem dX10_hill_65 : decode cX10_hill 65 = .ok (.iadd, 1) := by decide +kernel
theorem dX10_hill_66 : decode cX10_hill 66 = .ok (.iaload, 1) := by decide +kernel
theorem dX10_hill_67 : decode cX10_hill 67 = .ok (.ireturn, 1) := by decide +kernel
theorem dX10_hill_68 : decode cX10_hill 68 = .ok (.aload_n 0, 1) := by decide +kernel
theorem dX10_hill_69 : decode cX10_hill 69 = .ok (.getfield 13, 3) := by decide +kernel
theorem dX10_hill_72 : decode cX10_hill 72 = .ok (.bipush 50, 2) := by decide +kernel
theorem dX10_hill_74 : decode cX10_hill 74 = .ok (.iaload, 1) := by decide +kernel
theorem dX10_hill_75 : decode cX10_hill 75 = .ok (.iload_n 1, 1) := by decide +kernel
theorem dX10_hill_76 : decode cX10_hill 76 = .ok (.ishr, 1) := by decide +kernel
theorem dX10_hill_77 : decode cX10_hill 77 = .ok (.iconst 1, 1) := by decide +kernel
theorem dX10_hill_78 : decode cX10_hill 78 = .ok (.iand, 1) := by decide +kernel
theorem dX10_hill_79 : decode cX10_hill 79 = .ok (.ireturn, 1) := by decide +kernel
theorem dX10_hill_80 : decode cX10_hill 80 = .ok (.aload_n 0, 1) := by decide +kernel
theorem dX10_hill_81 : decode cX10_hill 81 = .ok (.getfield 13, 3) := by decide +kernel
theorem dX10_hill_84 : decode cX10_hill 84 = .ok (.bipush 14, 2) := by decide +kernel
theorem dX10_hill_86 : decode cX10_hill 86 = .ok (.iload_n 1, 1) := by decide +kernel
theorem dX10_hill_87 : decode cX10_hill 87 = .ok (.iadd, 1) := by decide +kernel
theorem dX10_hill_88 : decode cX10_hill 88 = .ok (.iaload, 1) := by decide +kernel
theorem dX10_hill_89 : decode cX10_hill 89 = .ok (.ireturn, 1) := by decide +kernel
theorem dX10_hill_90 : decode cX10_hill 90 = .ok (.bipush (-2), 2) := by decide +kernel
theorem dX10_hill_92 : decode cX10_hill 92 = .ok (.ireturn, 1) := by decide +kernel
theorem dX10_hill_14 : decode cX10_hill 14 = .ok (.bipush (-2), 2) := by decide +kernel
theorem dX10_hill_16 : decode cX10_hill 16 = .ok (.ireturn, 1) := by decide +kernel
set_option maxHeartbeats 4000000 in
set_option maxRecDepth 100000 in
theorem k_X10_hill_0 (l : Launch) (V : GV) (z : Nat → Nat) (a1 : Int32) (a2 : Int32) (pz0_0 : Int32) (pz0_5 : Int32) (pz0_6 : Int32) (pz0_7 : Int32) (pz0_8 : Int32) (pz0_9 : Int32) (pz0_10 : Int32) (pz0_11 : Int32) (pz0_12 : Int32) (pz0_13 : Int32) (pz0_14 : Int32) (pz0_18 : Int32) (pz0_19 : Int32) (pz0_22 : Int32) (pz0_23 : Int32) (pz0_29 : Int32) (fz1 : Nat → Int32) (bpz0_5 : iv 0 900 pz0_5) (bpz0_6 : iv 0 900 pz0_6) (bpz0_7 : iv 0 900 pz0_7) (bpz0_8 : iv 0 900 pz0_8) (bpz0_10 : iv 0 999 pz0_10) (bpz0_11 : iv 0 4 pz0_11) (bpz0_12 : iv 0 900 pz0_12) (bpz0_13 : iv 0 4 pz0_13) (bpz0_14 : iv (-1) 900 pz0_14) (bpz0_18 : iv 0 2 pz0_18) (bpz0_22 : iv 0 9999 pz0_22) (bpz0_29 : iv 0 10000 pz0_29) (tfz1 : ivT tA fz1) : Ct l V yX10_hill (.code yX10_hill cX10_hill 3 (some .int)) 3 [.ref (z 0), .int a1, .int a2] [(z 0, .inr (10, mo z pz0_0 pz0_5 pz0_6 pz0_7 pz0_8 pz0_9 pz0_10 pz0_11 pz0_12 pz0_13 pz0_14 pz0_18 pz0_19 pz0_22 pz0_23 pz0_29)), (z 1, aI V 3075 fz1)] 0 0 (QI V (fun (r : Int32) (w : va_W) => ∃ (v0 : Int32), iv (-2) 9 r ∧ w = [(z 0, .inr (10, mo z v0 pz0_5 pz0_6 pz0_7 pz0_8 pz0_9 pz0_10 pz0_11 pz0_12 pz0_13 pz0_14 pz0_18 pz0_19 pz0_22 pz0_23 pz0_29)), (z 1, aI V 3075 fz1)])) := by
  refine Ct.of (by decide) (Nat.le_of_ble_eq_true rfl) (fun p e s m below meth c A ls hx hb hr hml hown hlk hnm hg hP hK hD hE hA hS hl => ?_)
  have hl : lv_has ls 3 [(0, .ref (z 0)), (1, .int a1), (2, .int a2)] := hl
  refine lv_aload_n hx hb dX10_hill_0 rfl (lv_at hl 0 rfl) ?_
  refine lv_iconst (v := 0) hx hb dX10_hill_1 (by decide) ?_
  refine va_put (ci := 10) (v := .int 0) (ty := .int) (C := RX10) (T := TX10) (N := 40) hx hb hg inX10 tyX10 tyX10_ok nmX10 hown hK hP hD hS 0 rfl rfl 0 (by decide) (hg _ q_5_224) (fun _ h9 => h9) rfl (by decide +kernel) rfl rfl (Nat.le_of_ble_eq_true rfl) dX10_hill_2 (fun H locs hP hD hS => ?_)
  have hP : va_P V.1 vwCl [(z 0, .inr (10, mo z 0 pz0_5 pz0_6 pz0_7 pz0_8 pz0_9 pz0_10 pz0_11 pz0_12 pz0_13 pz0_14 pz0_18 pz0_19 pz0_22 pz0_23 pz0_29)), (z 1, aI V 3075 fz1)] H := hP
  have hD : va_D A [(z 0, .inr (10, mo z 0 pz0_5 pz0_6 pz0_7 pz0_8 pz0_9 pz0_10 pz0_11 pz0_12 pz0_13 pz0_14 pz0_18 pz0_19 pz0_22 pz0_23 pz0_29)), (z 1, aI V 3075 fz1)] := hD
  refine lv_aload_n hx hb dX10_hill_5 rfl (lv_at hl 0 rfl) ?_
  refine lv_iload_n hx hb dX10_hill_6 rfl (lv_at hl 1 rfl) ?_
  refine lv_i2l hx hb dX10_hill_7 rfl ?_
  refine lv_topl (fun j_1 ej_1 => ?_)
  refine jnI (wr := []) (rnV (rest := []) ⟨hx, hb, hml, hown, hg⟩ (k_X10_isHill_0 l V z j_1 0 pz0_5 pz0_6 pz0_7 pz0_8 pz0_9 pz0_10 pz0_11 pz0_12 pz0_13 pz0_14 pz0_18 pz0_19 pz0_22 pz0_23 pz0_29 fz1 bpz0_5 bpz0_6 bpz0_7 bpz0_8 bpz0_10 bpz0_11 bpz0_12 bpz0_13 bpz0_14 bpz0_18 bpz0_22 bpz0_29 tfz1) mt_X10_isHill q_6_235 ⟨Nat.le_of_ble_eq_true rfl, Nat.le_of_ble_eq_true rfl⟩ hK hP hD hS hA hE [0, 1] rfl rfl 0 rfl rfl rfl rfl hl.1 rfl (Nat.le_of_ble_eq_true rfl) dX10_hill_8 ⟨Nat.le_of_ble_eq_true rfl, Nat.le_of_ble_eq_true rfl⟩) hP hD hS hA [0, 1] [] rfl rfl rfl (by decide) (fun r_2 w H locs hw hP hD hS => ?_)
  obtain ⟨br_2, g_3, rfl⟩ := hw
  have hP : va_P V.1 vwCl [(z 0, .inr (10, mo z 0 pz0_5 pz0_6 pz0_7 pz0_8 pz0_9 pz0_10 pz0_11 pz0_12 pz0_13 pz0_14 pz0_18 pz0_19 pz0_22 pz0_23 pz0_29)), (z 1, aI V 3075 fz1)] H := hP
  have hD : va_D A [(z 0, .inr (10, mo z 0 pz0_5 pz0_6 pz0_7 pz0_8 pz0_9 pz0_10 pz0_11 pz0_12 pz0_13 pz0_14 pz0_18 pz0_19 pz0_22 pz0_23 pz0_29)), (z 1, aI V 3075 fz1)] := hD
  refine lv_if_ne (tgt := 17) hx hb dX10_hill_11 (by decide) (fun c_4 => ?_) (fun c_4 => ?_)
  · have b_5 : iv 1 1 r_2 := iv_n0 c_4 br_2 (iv_c (0 : Int32) (a := 0) (b := 0) (by decide)) (by decide)
    have b_6 : ivL 0 3 j_1 := ivL_cap (g_3 (iv_eqp b_5 (iv_c (1 : Int32) (by decide)))) (ivL_top j_1) (by decide)
    have b_7 : iv 0 3 a1 := iv_cap (ivL_i ej_1 b_6) (iv_top a1) (by decide)
    refine lv_iload_n hx hb dX10_hill_17 rfl (lv_at hl 2 rfl) ?_
    by_cases c_8 : a2 = 0
    · refine lv_tableIn (off := 30) (tgt := 48) hx hb dX10_hill_18 (by rw [c_8]; decide) (by rw [c_8]; decide) (by rw [c_8]; rfl) (by decide) ?_
      refine lv_aload_n hx hb dX10_hill_48 rfl (lv_at hl 0 rfl) ?_
      refine va_get (ci := 10) (v := .ref (z 1)) (C := RX10) (T := TX10) (N := 40) hx hb hg inX10 hown hK hP 0 rfl rfl 1 (by decide) (hg _ q_5_225) (fun _ h9 => h9) rfl dX10_hill_49 ?_
      refine lv_bipush (v := 46) hx hb dX10_hill_52 (by decide) ?_
      refine lv_iload_n hx hb dX10_hill_54 rfl (lv_at hl 1 rfl) ?_
      refine lv_iadd hx hb dX10_hill_55 ?_
      refine lv_topi (fun x_9 ex_9 => ?_)
      have bx_9 : iv 46 49 x_9 := by rw [ex_9]; exact iv_add (iv_c (46 : Int32) (a := 46) (b := 46) (by decide)) b_7 (by decide)
      refine va_iald hx hb hK hP 1 0 rfl rfl (iv_in bx_9 (by decide)) dX10_hill_56 ?_
      refine lv_topi (fun x_10 ex_10 => ?_)
      have bx_10 : iv 0 4 x_10 := by rw [ex_10]; exact rdT (a := 46) (n := 4) tfz1 bx_9 (by decide) (by decide +kernel)
      exact fiI hx hb hr hlk hK hP hD hS dX10_hill_57 (Nat.le_of_ble_eq_true rfl) (Nat.le_of_ble_eq_true rfl) (⟨0, (iv_w bx_10 (by decide)), rfl⟩)
    · by_cases c_11 : a2 = 1
      · refine lv_tableIn (off := 40) (tgt := 58) hx hb dX10_hill_18 (by rw [c_11]; decide) (by rw [c_11]; decide) (by rw [c_11]; rfl) (by decide) ?_
        refine lv_aload_n hx hb dX10_hill_58 rfl (lv_at hl 0 rfl) ?_
        refine va_get (ci := 10) (v := .ref (z 1)) (C := RX10) (T := TX10) (N := 40) hx hb hg inX10 hown hK hP 0 rfl rfl 1 (by decide) (hg _ q_5_225) (fun _ h9 => h9) rfl dX10_hill_59 ?_
        refine lv_bipush (v := 10) hx hb dX10_hill_62 (by decide) ?_
        refine lv_iload_n hx hb dX10_hill_64 rfl (lv_at hl 1 rfl) ?_
        refine lv_iadd hx hb dX10_hill_65 ?_
        refine lv_topi (fun x_12 ex_12 => ?_)
        have bx_12 : iv 10 13 x_12 := by rw [ex_12]; exact iv_add (iv_c (10 : Int32) (a := 10) (b := 10) (by decide)) b_7 (by decide)
        refine va_iald hx hb hK hP 1 0 rfl rfl (iv_in bx_12 (by decide)) dX10_hill_66 ?_
        refine lv_topi (fun x_13 ex_13 => ?_)
        have bx_13 : iv 0 9 x_13 := by rw [ex_13]; exact rdT (a := 10) (n := 4) tfz1 bx_12 (by decide) (by decide +kernel)
        exact fiI hx hb hr hlk hK hP hD hS dX10_hill_67 (Nat.le_of_ble_eq_true rfl) (Nat.le_of_ble_eq_true rfl) (⟨0, (iv_w bx_13 (by decide)), rfl⟩)
      · by_cases c_14 : a2 = 2
        · refine lv_tableIn (off := 50) (tgt := 68) hx hb dX10_hill_18 (by rw [c_14]; decide) (by rw [c_14]; decide) (by rw [c_14]; rfl) (by decide) ?_
          refine lv_aload_n hx hb dX10_hill_68 rfl (lv_at hl 0 rfl) ?_
          refine va_get (ci := 10) (v := .ref (z 1)) (C := RX10) (T := TX10) (N := 40) hx hb hg inX10 hown hK hP 0 rfl rfl 1 (by decide) (hg _ q_5_225) (fun _ h9 => h9) rfl dX10_hill_69 ?_
          refine lv_bipush (v := 50) hx hb dX10_hill_72 (by decide) ?_
          refine va_iald hx hb hK hP 1 0 rfl rfl (vin (by decide +kernel)) dX10_hill_74 ?_
          refine lv_topi (fun x_15 ex_15 => ?_)
          have bx_15 : iv 0 15 x_15 := by rw [ex_15]; exact rdT (a := 50) (n := 1) tfz1 (iv_c (50 : Int32) (a := 50) (b := 50) (by decide)) (by decide) (by decide +kernel)
          refine lv_iload_n hx hb dX10_hill_75 rfl (lv_at hl 1 rfl) ?_
          refine lv_ishr hx hb dX10_hill_76 ?_
          refine lv_topi (fun x_16 ex_16 => ?_)
          refine lv_iconst (v := 1) hx hb dX10_hill_77 (by decide) ?_
          refine lv_iand hx hb dX10_hill_78 ?_
          refine lv_topi (fun x_17 ex_17 => ?_)
          have bx_17 : iv 0 1 x_17 := by rw [ex_17]; exact iv_and1 _
          exact fiI hx hb hr hlk hK hP hD hS dX10_hill_79 (Nat.le_of_ble_eq_true rfl) (Nat.le_of_ble_eq_true rfl) (⟨0, (iv_w bx_17 (by decide)), rfl⟩)
        · by_cases c_18 : a2 = 3
          · refine lv_tableIn (off := 62) (tgt := 80) hx hb dX10_hill_18 (by rw [c_18]; decide) (by rw [c_18]; decide) (by rw [c_18]; rfl) (by decide) ?_
            refine lv_aload_n hx hb dX10_hill_80 rfl (lv_at hl 0 rfl) ?_
            refine va_get (ci := 10) (v := .ref (z 1)) (C := RX10) (T := TX10) (N := 40) hx hb hg inX10 hown hK hP 0 rfl rfl 1 (by decide) (hg _ q_5_225) (fun _ h9 => h9) rfl dX10_hill_81 ?_
            refine lv_bipush (v := 14) hx hb dX10_hill_84 (by decide) ?_
            refine lv_iload_n hx hb dX10_hill_86 rfl (lv_at hl 1 rfl) ?_
            refine lv_iadd hx hb dX10_hill_87 ?_
            refine lv_topi (fun x_19 ex_19 => ?_)
            have bx_19 : iv 14 17 x_19 := by rw [ex_19]; exact iv_add (iv_c (14 : Int32) (a := 14) (b := 14) (by decide)) b_7 (by decide)
            refine va_iald hx hb hK hP 1 0 rfl rfl (iv_in bx_19 (by decide)) dX10_hill_88 ?_
            refine lv_topi (fun x_20 ex_20 => ?_)
            have bx_20 : iv 0 9 x_20 := by rw [ex_20]; exact rdT (a := 14) (n := 4) tfz1 bx_19 (by decide) (by decide +kernel)
            exact fiI hx hb hr hlk hK hP hD hS dX10_hill_89 (Nat.le_of_ble_eq_true rfl) (Nat.le_of_ble_eq_true rfl) (⟨0, (iv_w bx_20 (by decide)), rfl⟩)
          · refine lv_tableOut (tgt := 90) hx hb dX10_hill_18 ((Int.lt_or_le a2.toInt 0).elim Or.inl (fun c_21 => Or.inr (by simp only [tI_eq, (by decide : (0 : Int32).toInt = 0), (by decide : (1 : Int32).toInt = 1), (by decide : (2 : Int32).toInt = 2), (by decide : (3 : Int32).toInt = 3)] at c_8 c_11 c_14 c_18; omega))) (by decide) ?_
            refine lv_bipush (v := (-2)) hx hb dX10_hill_90 (by decide) ?_
            exact fiI hx hb hr hlk hK hP hD hS dX10_hill_92 (Nat.le_of_ble_eq_true rfl) (Nat.le_of_ble_eq_true rfl) (⟨0, (iv_c ((-2) : Int32) (by decide)), rfl⟩)
  · have b_22 : iv 0 0 r_2 := iv_q c_4 (iv_c (0 : Int32) (a := 0) (b := 0) (by decide))
    refine lv_bipush (v := (-2)) hx hb dX10_hill_14 (by decide) ?_
    exact fiI hx hb hr hlk hK hP hD hS dX10_hill_16 (Nat.le_of_ble_eq_true rfl) (Nat.le_of_ble_eq_true rfl) (⟨0, (iv_c ((-2) : Int32) (by decide)), rfl⟩)
theorem dX10_village_0 : decode cX10_village 0 = .ok (.aload_n 0, 1) := by decide +kernel
theorem dX10_village_1 : decode cX10_village 1 = .ok (.iconst 0, 1) := by decide +kernel
theorem dX10_village_2 : decode cX10_village 2 = .ok (.putfield 1, 3) := by decide +kernel
theorem dX10_village_5 : decode cX10_village 5 = .ok (.iload_n 1, 1) := by decide +kernel
theorem dX10_village_6 : decode cX10_village 6 = .ok (.i2l, 1) := by decide +kernel
theorem dX10_village_7 : decode cX10_village 7 = .ok (.lconst 0, 1) := by decide +kernel
theorem dX10_village_8 : decode cX10_village 8 = .ok (.aload_n 0, 1) := by decide +kernel
theorem dX10_village_9 : decode cX10_village 9 = .ok (.getfield 13, 3) := by decide +kernel
theorem dX10_village_12 : decode cX10_village 12 = .ok (.iconst 2, 1) := by decide +kernel
theorem dX10_village_13 : decode cX10_village 13 = .ok (.iaload, 1) := by decide +kernel
theorem dX10_village_14 : decode cX10_village 14 = .ok (.iconst 1, 1) := by decide +kernel
theorem dX10_village_15 : decode cX10_village 15 = .ok (.isub, 1) := by decide +kernel
theorem dX10_village_16 : decode cX10_village 16 = .ok (.i2l, 1) := by decide +kernel
theorem dX10_village_17 : decode cX10_village 17 = .ok (.invokestatic 159, 3) := by decide +kernel
theorem dX10_village_20 : decode cX10_village 20 = .ok (.ifCond .eq 15, 3) := by decide +kernel
theorem dX10_village_35 : decode cX10_village 35 = .ok (.bipush (-2), 2) := by decide +kernel
theorem dX10_village_37 : decode cX10_village 37 = .ok (.ireturn, 1) := by decide +kernel
theorem dX10_village_23 : decode cX10_village 23 = .ok (.aload_n 0, 1) := by decide +kernel
theorem dX10_village_24 : decode cX10_village 24 = .ok (.getfield 13, 3) := by decide +kernel
theorem dX10_village_27 : decode cX10_village 27 = .ok (.bipush 18, 2) := by decide +kernel
theorem dX10_village_29 : decode cX10_village 29 = .ok (.iload_n 1, 1) := by decide +kernel
theorem dX10_village_30 : decode cX10_village 30 = .ok (.iadd, 1) := by decide +kernel
theorem dX10_village_31 : decode cX10_village 31 = .ok (.iaload, 1) := by decide +kernel
theorem dX10_village_32 : decode cX10_village 32 = .ok (.goto 5, 3) := by decide +kernel
set_option maxHeartbeats 4000000 in
set_option maxRecDepth 100000 in
theorem k_X10_village_0 (l : Launch) (V : GV) (z : Nat → Nat) (a1 : Int32) (pz0_0 : Int32) (pz0_5 : Int32) (pz0_6 : Int32) (pz0_7 : Int32) (pz0_8 : Int32) (pz0_9 : Int32) (pz0_10 : Int32) (pz0_11 : Int32) (pz0_12 : Int32) (pz0_13 : Int32) (pz0_14 : Int32) (pz0_18 : Int32) (pz0_19 : Int32) (pz0_22 : Int32) (pz0_23 : Int32) (pz0_29 : Int32) (fz1 : Nat → Int32) (bpz0_5 : iv 0 900 pz0_5) (bpz0_6 : iv 0 900 pz0_6) (bpz0_7 : iv 0 900 pz0_7) (bpz0_8 : iv 0 900 pz0_8) (bpz0_10 : iv 0 999 pz0_10) (bpz0_11 : iv 0 4 pz0_11) (bpz0_12 : iv 0 900 pz0_12) (bpz0_13 : iv 0 4 pz0_13) (bpz0_14 : iv (-1) 900 pz0_14) (bpz0_18 : iv 0 2 pz0_18) (bpz0_22 : iv 0 9999 pz0_22) (bpz0_29 : iv 0 10000 pz0_29) (tfz1 : ivT tA fz1) : Ct l V yX10_village (.code yX10_village cX10_village 2 (some .int)) 2 [.ref (z 0), .int a1] [(z 0, .inr (10, mo z pz0_0 pz0_5 pz0_6 pz0_7 pz0_8 pz0_9 pz0_10 pz0_11 pz0_12 pz0_13 pz0_14 pz0_18 pz0_19 pz0_22 pz0_23 pz0_29)), (z 1, aI V 3075 fz1)] 0 0 (QI V (fun (r : Int32) (w : va_W) => ∃ (v0 : Int32), iv (-2) 9 r ∧ w = [(z 0, .inr (10, mo z v0 pz0_5 pz0_6 pz0_7 pz0_8 pz0_9 pz0_10 pz0_11 pz0_12 pz0_13 pz0_14 pz0_18 pz0_19 pz0_22 pz0_23 pz0_29)), (z 1, aI V 3075 fz1)])) := by
  refine Ct.of (by decide) (Nat.le_of_ble_eq_true rfl) (fun p e s m below meth c A ls hx hb hr hml hown hlk hnm hg hP hK hD hE hA hS hl => ?_)
  have hl : lv_has ls 2 [(0, .ref (z 0)), (1, .int a1)] := hl
  refine lv_aload_n hx hb dX10_village_0 rfl (lv_at hl 0 rfl) ?_
  refine lv_iconst (v := 0) hx hb dX10_village_1 (by decide) ?_
  refine va_put (ci := 10) (v := .int 0) (ty := .int) (C := RX10) (T := TX10) (N := 40) hx hb hg inX10 tyX10 tyX10_ok nmX10 hown hK hP hD hS 0 rfl rfl 0 (by decide) (hg _ q_5_224) (fun _ h9 => h9) rfl (by decide +kernel) rfl rfl (Nat.le_of_ble_eq_true rfl) dX10_village_2 (fun H locs hP hD hS => ?_)
  have hP : va_P V.1 vwCl [(z 0, .inr (10, mo z 0 pz0_5 pz0_6 pz0_7 pz0_8 pz0_9 pz0_10 pz0_11 pz0_12 pz0_13 pz0_14 pz0_18 pz0_19 pz0_22 pz0_23 pz0_29)), (z 1, aI V 3075 fz1)] H := hP
  have hD : va_D A [(z 0, .inr (10, mo z 0 pz0_5 pz0_6 pz0_7 pz0_8 pz0_9 pz0_10 pz0_11 pz0_12 pz0_13 pz0_14 pz0_18 pz0_19 pz0_22 pz0_23 pz0_29)), (z 1, aI V 3075 fz1)] := hD
  refine lv_iload_n hx hb dX10_village_5 rfl (lv_at hl 1 rfl) ?_
  refine lv_i2l hx hb dX10_village_6 rfl ?_
  refine lv_topl (fun j_1 ej_1 => ?_)
  refine lv_lconst (v := 0) hx hb dX10_village_7 (by decide) ?_
  refine lv_aload_n hx hb dX10_village_8 rfl (lv_at hl 0 rfl) ?_
  refine va_get (ci := 10) (v := .ref (z 1)) (C := RX10) (T := TX10) (N := 40) hx hb hg inX10 hown hK hP 0 rfl rfl 1 (by decide) (hg _ q_5_225) (fun _ h9 => h9) rfl dX10_village_9 ?_
  refine lv_iconst (v := 2) hx hb dX10_village_12 (by decide) ?_
  refine va_iald hx hb hK hP 1 0 rfl rfl (vin (by decide +kernel)) dX10_village_13 ?_
  refine lv_topi (fun x_2 ex_2 => ?_)
  have bx_2 : iv 0 4 x_2 := by rw [ex_2]; exact rdT (a := 2) (n := 1) tfz1 (iv_c (2 : Int32) (a := 2) (b := 2) (by decide)) (by decide) (by decide +kernel)
  refine lv_iconst (v := 1) hx hb dX10_village_14 (by decide) ?_
  refine lv_isub hx hb dX10_village_15 ?_
  refine lv_topi (fun x_3 ex_3 => ?_)
  have bx_3 : iv (-1) 3 x_3 := by rw [ex_3]; exact iv_sub bx_2 (iv_c (1 : Int32) (a := 1) (b := 1) (by decide)) (by decide)
  refine lv_i2l hx hb dX10_village_16 rfl ?_
  refine lv_topl (fun j_4 ej_4 => ?_)
  have bj_4 : ivL (-1) 3 j_4 := by rw [ej_4]; exact ivL_of bx_3
  refine jnI (wr := [(z 0, .inr (10, mo z 0 pz0_5 pz0_6 pz0_7 pz0_8 pz0_9 pz0_10 pz0_11 pz0_12 pz0_13 pz0_14 pz0_18 pz0_19 pz0_22 pz0_23 pz0_29)), (z 1, aI V 3075 fz1)]) (rnS (rest := []) ⟨hx, hb, hml, hown, hg⟩ (k_X10_within_0 l V j_1 0 j_4) mt_X10_within q_6_114 ⟨Nat.le_of_ble_eq_true rfl, Nat.le_of_ble_eq_true rfl⟩ hK hP hD hS hA hE [] rfl rfl rfl hl.1 rfl (Nat.le_of_ble_eq_true rfl) dX10_village_17 ⟨Nat.le_of_ble_eq_true rfl, Nat.le_of_ble_eq_true rfl⟩) hP hD hS hA [] [0, 1] rfl rfl rfl (by decide) (fun r_5 w H locs hw hP hD hS => ?_)
  obtain ⟨br_5, g_6, g_7, g_8, rfl⟩ := hw
  have hP : va_P V.1 vwCl [(z 0, .inr (10, mo z 0 pz0_5 pz0_6 pz0_7 pz0_8 pz0_9 pz0_10 pz0_11 pz0_12 pz0_13 pz0_14 pz0_18 pz0_19 pz0_22 pz0_23 pz0_29)), (z 1, aI V 3075 fz1)] H := hP
  have hD : va_D A [(z 0, .inr (10, mo z 0 pz0_5 pz0_6 pz0_7 pz0_8 pz0_9 pz0_10 pz0_11 pz0_12 pz0_13 pz0_14 pz0_18 pz0_19 pz0_22 pz0_23 pz0_29)), (z 1, aI V 3075 fz1)] := hD
  refine lv_if_eq (tgt := 35) hx hb dX10_village_20 (by decide) (fun c_9 => ?_) (fun c_9 => ?_)
  · have b_10 : iv 0 0 r_5 := iv_q c_9 (iv_c (0 : Int32) (a := 0) (b := 0) (by decide))
    refine lv_bipush (v := (-2)) hx hb dX10_village_35 (by decide) ?_
    exact fiI hx hb hr hlk hK hP hD hS dX10_village_37 (Nat.le_of_ble_eq_true rfl) (Nat.le_of_ble_eq_true rfl) (⟨0, (iv_c ((-2) : Int32) (by decide)), rfl⟩)
  · have b_11 : iv 1 1 r_5 := iv_n0 c_9 br_5 (iv_c (0 : Int32) (a := 0) (b := 0) (by decide)) (by decide)
    have c_12 : (0 : Int64) ≤ j_1 := (g_7 (iv_eqp b_11 (iv_c (1 : Int32) (by decide))))
    have b_13 : ivL 0 9223372036854775807 j_1 := ivL_e2 c_12 (ivL_c (0 : Int64) (a := 0) (b := 0) (by decide)) (ivL_top j_1) (by decide)
    have b_14 : iv 0 2147483647 a1 := iv_cap (ivL_i ej_1 b_13) (iv_top a1) (by decide)
    have c_15 : j_1 ≤ j_4 := (g_8 (iv_eqp b_11 (iv_c (1 : Int32) (by decide))))
    have b_16 : ivL 0 3 j_1 := ivL_e1 c_15 b_13 bj_4 (by decide)
    have b_17 : iv 0 3 a1 := iv_cap (ivL_i ej_1 b_16) b_14 (by decide)
    have b_18 : ivL 0 3 j_4 := ivL_e2 c_15 b_13 bj_4 (by decide)
    have b_19 : iv 0 3 x_3 := iv_cap (ivL_i ej_4 b_18) bx_3 (by decide)
    refine lv_aload_n hx hb dX10_village_23 rfl (lv_at hl 0 rfl) ?_
    refine va_get (ci := 10) (v := .ref (z 1)) (C := RX10) (T := TX10) (N := 40) hx hb hg inX10 hown hK hP 0 rfl rfl 1 (by decide) (hg _ q_5_225) (fun _ h9 => h9) rfl dX10_village_24 ?_
    refine lv_bipush (v := 18) hx hb dX10_village_27 (by decide) ?_
    refine lv_iload_n hx hb dX10_village_29 rfl (lv_at hl 1 rfl) ?_
    refine lv_iadd hx hb dX10_village_30 ?_
    refine lv_topi (fun x_20 ex_20 => ?_)
    have bx_20 : iv 18 21 x_20 := by rw [ex_20]; exact iv_add (iv_c (18 : Int32) (a := 18) (b := 18) (by decide)) b_17 (by decide)
    refine va_iald hx hb hK hP 1 0 rfl rfl (iv_in bx_20 (by decide)) dX10_village_31 ?_
    refine lv_topi (fun x_21 ex_21 => ?_)
    have bx_21 : iv 0 9 x_21 := by rw [ex_21]; exact rdT (a := 18) (n := 4) tfz1 bx_20 (by decide) (by decide +kernel)
    refine lv_goto (tgt := 37) hx hb dX10_village_32 (by decide) ?_
    exact fiI hx hb hr hlk hK hP hD hS dX10_village_37 (Nat.le_of_ble_eq_true rfl) (Nat.le_of_ble_eq_true rfl) (⟨0, (iv_w bx_21 (by decide)), rfl⟩)
theorem dX10_isNight_0 : decode cX10_isNight 0 = .ok (.lload_n 1, 1) := by decide +kernel
theorem dX10_isNight_1 : decode cX10_isNight 1 = .ok (.lconst 0, 1) := by decide +kernel
theorem dX10_isNight_2 : decode cX10_isNight 2 = .ok (.lcmp, 1) := by decide +kernel
theorem dX10_isNight_3 : decode cX10_isNight 3 = .ok (.ifCond .eq 20, 3) := by decide +kernel
theorem dX10_isNight_23 : decode cX10_isNight 23 = .ok (.iconst 1, 1) := by decide +kernel
theorem dX10_isNight_24 : decode cX10_isNight 24 = .ok (.goto 4, 3) := by decide +kernel
theorem dX10_isNight_28 : decode cX10_isNight 28 = .ok (.ireturn, 1) := by decide +kernel
theorem dX10_isNight_6 : decode cX10_isNight 6 = .ok (.lload_n 1, 1) := by decide +kernel
theorem dX10_isNight_7 : decode cX10_isNight 7 = .ok (.lconst 1, 1) := by decide +kernel
theorem dX10_isNight_8 : decode cX10_isNight 8 = .ok (.aload_n 0, 1) := by decide +kernel
theorem dX10_isNight_9 : decode cX10_isNight 9 = .ok (.getfield 13, 3) := by decide +kernel
theorem dX10_isNight_12 : decode cX10_isNight 12 = .ok (.iconst 1, 1) := by decide +kernel
theorem dX10_isNight_13 : decode cX10_isNight 13 = .ok (.iaload, 1) := by decide +kernel
theorem dX10_isNight_14 : decode cX10_isNight 14 = .ok (.iconst 1, 1) := by decide +kernel
theorem dX10_isNight_15 : decode cX10_isNight 15 = .ok (.isub, 1) := by decide +kernel
theorem dX10_isNight_16 : decode cX10_isNight 16 = .ok (.i2l, 1) := by decide +kernel
theorem dX10_isNight_17 : decode cX10_isNight 17 = .ok (.invokestatic 159, 3) := by decide +kernel
theorem dX10_isNight_20 : decode cX10_isNight 20 = .ok (.ifCond .eq 7, 3) := by decide +kernel
theorem dX10_isNight_27 : decode cX10_isNight 27 = .ok (.iconst 0, 1) := by decide +kernel
set_option maxHeartbeats 4000000 in
set_option maxRecDepth 100000 in
theorem k_X10_isNight_0 (l : Launch) (V : GV) (z : Nat → Nat) (k1 : Int64) (pz0_0 : Int32) (pz0_5 : Int32) (pz0_6 : Int32) (pz0_7 : Int32) (pz0_8 : Int32) (pz0_9 : Int32) (pz0_10 : Int32) (pz0_11 : Int32) (pz0_12 : Int32) (pz0_13 : Int32) (pz0_14 : Int32) (pz0_18 : Int32) (pz0_19 : Int32) (pz0_22 : Int32) (pz0_23 : Int32) (pz0_29 : Int32) (fz1 : Nat → Int32) (bpz0_5 : iv 0 900 pz0_5) (bpz0_6 : iv 0 900 pz0_6) (bpz0_7 : iv 0 900 pz0_7) (bpz0_8 : iv 0 900 pz0_8) (bpz0_10 : iv 0 999 pz0_10) (bpz0_11 : iv 0 4 pz0_11) (bpz0_12 : iv 0 900 pz0_12) (bpz0_13 : iv 0 4 pz0_13) (bpz0_14 : iv (-1) 900 pz0_14) (bpz0_18 : iv 0 2 pz0_18) (bpz0_22 : iv 0 9999 pz0_22) (bpz0_29 : iv 0 10000 pz0_29) (tfz1 : ivT tA fz1) : Ct l V yX10_isNight (.code yX10_isNight cX10_isNight 3 (some .boolean)) 2 [.ref (z 0), .long k1] [(z 0, .inr (10, mo z pz0_0 pz0_5 pz0_6 pz0_7 pz0_8 pz0_9 pz0_10 pz0_11 pz0_12 pz0_13 pz0_14 pz0_18 pz0_19 pz0_22 pz0_23 pz0_29)), (z 1, aI V 3075 fz1)] 0 0 (QI V (fun (r : Int32) (w : va_W) => iv 0 1 r ∧ (r = 1 → ivL 0 3 k1) ∧ w = [(z 0, .inr (10, mo z pz0_0 pz0_5 pz0_6 pz0_7 pz0_8 pz0_9 pz0_10 pz0_11 pz0_12 pz0_13 pz0_14 pz0_18 pz0_19 pz0_22 pz0_23 pz0_29)), (z 1, aI V 3075 fz1)])) := by
  refine Ct.of (by decide) (Nat.le_of_ble_eq_true rfl) (fun p e s m below meth c A ls hx hb hr hml hown hlk hnm hg hP hK hD hE hA hS hl => ?_)
  have hl : lv_has ls 3 [(0, .ref (z 0)), (1, .long k1)] := hl
  refine lv_lload_n hx hb dX10_isNight_0 rfl (lv_at hl 1 rfl) ?_
  refine lv_lconst (v := 0) hx hb dX10_isNight_1 (by decide) ?_
  refine W.lcmp hx hb dX10_isNight_2 ?_
  refine lv_if_eq (tgt := 23) hx hb dX10_isNight_3 (by decide) (fun c_1 => ?_) (fun c_1 => ?_)
  · replace c_1 : k1 = (0 : Int64) := (lg_cmp_eq _ _).mp c_1
    have b_2 : ivL 0 0 k1 := ivL_q c_1 (ivL_c (0 : Int64) (a := 0) (b := 0) (by decide))
    refine lv_iconst (v := 1) hx hb dX10_isNight_23 (by decide) ?_
    refine lv_goto (tgt := 28) hx hb dX10_isNight_24 (by decide) ?_
    exact fiZ rfl hx hb hr hlk hK hP hD hS dX10_isNight_28 (Nat.le_of_ble_eq_true rfl) (Nat.le_of_ble_eq_true rfl) (⟨(iv_c (1 : Int32) (by decide)), (fun _ => (ivL_w b_2 (by decide))), rfl⟩)
  · replace c_1 : ¬ k1 = (0 : Int64) := fun z => c_1 ((lg_cmp_eq _ _).mpr z)
    refine lv_lload_n hx hb dX10_isNight_6 rfl (lv_at hl 1 rfl) ?_
    refine lv_lconst (v := 1) hx hb dX10_isNight_7 (by decide) ?_
    refine lv_aload_n hx hb dX10_isNight_8 rfl (lv_at hl 0 rfl) ?_
    refine va_get (ci := 10) (v := .ref (z 1)) (C := RX10) (T := TX10) (N := 40) hx hb hg inX10 hown hK hP 0 rfl rfl 1 (by decide) (hg _ q_5_225) (fun _ h9 => h9) rfl dX10_isNight_9 ?_
    refine lv_iconst (v := 1) hx hb dX10_isNight_12 (by decide) ?_
    refine va_iald hx hb hK hP 1 0 rfl rfl (vin (by decide +kernel)) dX10_isNight_13 ?_
    refine lv_topi (fun x_3 ex_3 => ?_)
    have bx_3 : iv 0 4 x_3 := by rw [ex_3]; exact rdT (a := 1) (n := 1) tfz1 (iv_c (1 : Int32) (a := 1) (b := 1) (by decide)) (by decide) (by decide +kernel)
    refine lv_iconst (v := 1) hx hb dX10_isNight_14 (by decide) ?_
    refine lv_isub hx hb dX10_isNight_15 ?_
    refine lv_topi (fun x_4 ex_4 => ?_)
    have bx_4 : iv (-1) 3 x_4 := by rw [ex_4]; exact iv_sub bx_3 (iv_c (1 : Int32) (a := 1) (b := 1) (by decide)) (by decide)
    refine lv_i2l hx hb dX10_isNight_16 rfl ?_
    refine lv_topl (fun j_5 ej_5 => ?_)
    have bj_5 : ivL (-1) 3 j_5 := by rw [ej_5]; exact ivL_of bx_4
    refine jnI (wr := [(z 0, .inr (10, mo z pz0_0 pz0_5 pz0_6 pz0_7 pz0_8 pz0_9 pz0_10 pz0_11 pz0_12 pz0_13 pz0_14 pz0_18 pz0_19 pz0_22 pz0_23 pz0_29)), (z 1, aI V 3075 fz1)]) (rnS (rest := []) ⟨hx, hb, hml, hown, hg⟩ (k_X10_within_0 l V k1 1 j_5) mt_X10_within q_6_114 ⟨Nat.le_of_ble_eq_true rfl, Nat.le_of_ble_eq_true rfl⟩ hK hP hD hS hA hE [] rfl rfl rfl hl.1 rfl (Nat.le_of_ble_eq_true rfl) dX10_isNight_17 ⟨Nat.le_of_ble_eq_true rfl, Nat.le_of_ble_eq_true rfl⟩) hP hD hS hA [] [0, 1] rfl rfl rfl (by decide) (fun r_6 w H locs hw hP hD hS => ?_)
    obtain ⟨br_6, g_7, g_8, g_9, rfl⟩ := hw
    have hP : va_P V.1 vwCl [(z 0, .inr (10, mo z pz0_0 pz0_5 pz0_6 pz0_7 pz0_8 pz0_9 pz0_10 pz0_11 pz0_12 pz0_13 pz0_14 pz0_18 pz0_19 pz0_22 pz0_23 pz0_29)), (z 1, aI V 3075 fz1)] H := hP
    have hD : va_D A [(z 0, .inr (10, mo z pz0_0 pz0_5 pz0_6 pz0_7 pz0_8 pz0_9 pz0_10 pz0_11 pz0_12 pz0_13 pz0_14 pz0_18 pz0_19 pz0_22 pz0_23 pz0_29)), (z 1, aI V 3075 fz1)] := hD
    refine lv_if_eq (tgt := 27) hx hb dX10_isNight_20 (by decide) (fun c_10 => ?_) (fun c_10 => ?_)
    · have b_11 : iv 0 0 r_6 := iv_q c_10 (iv_c (0 : Int32) (a := 0) (b := 0) (by decide))
      refine lv_iconst (v := 0) hx hb dX10_isNight_27 (by decide) ?_
      exact fiZ rfl hx hb hr hlk hK hP hD hS dX10_isNight_28 (Nat.le_of_ble_eq_true rfl) (Nat.le_of_ble_eq_true rfl) (⟨(iv_c (0 : Int32) (by decide)), (fun q9 => absurd q9 (by decide)), rfl⟩)
    · have b_12 : iv 1 1 r_6 := iv_n0 c_10 br_6 (iv_c (0 : Int32) (a := 0) (b := 0) (by decide)) (by decide)
      have c_13 : (1 : Int64) ≤ k1 := (g_8 (iv_eqp b_12 (iv_c (1 : Int32) (by decide))))
      have b_14 : ivL 1 9223372036854775807 k1 := ivL_e2 c_13 (ivL_c (1 : Int64) (a := 1) (b := 1) (by decide)) (ivL_top k1) (by decide)
      have c_15 : k1 ≤ j_5 := (g_9 (iv_eqp b_12 (iv_c (1 : Int32) (by decide))))
      have b_16 : ivL 1 3 k1 := ivL_e1 c_15 b_14 bj_5 (by decide)
      have b_17 : ivL 1 3 j_5 := ivL_e2 c_15 b_14 bj_5 (by decide)
      have b_18 : iv 1 3 x_4 := iv_cap (ivL_i ej_5 b_17) bx_4 (by decide)
      refine lv_iconst (v := 1) hx hb dX10_isNight_23 (by decide) ?_
      refine lv_goto (tgt := 28) hx hb dX10_isNight_24 (by decide) ?_
      exact fiZ rfl hx hb hr hlk hK hP hD hS dX10_isNight_28 (Nat.le_of_ble_eq_true rfl) (Nat.le_of_ble_eq_true rfl) (⟨(iv_c (1 : Int32) (by decide)), (fun _ => (ivL_w b_16 (by decide))), rfl⟩)
theorem dX10_digitOf_0 : decode cX10_digitOf 0 = .ok (.iload_n 0, 1) := by decide +kernel
theorem dX10_digitOf_1 : decode cX10_digitOf 1 = .ok (.ifCond .ne 7, 3) := by decide +kernel
theorem dX10_digitOf_8 : decode cX10_digitOf 8 = .ok (.iload_n 0, 1) := by decide +kernel
theorem dX10_digitOf_9 : decode cX10_digitOf 9 = .ok (.iconst 1, 1) := by decide +kernel
theorem dX10_digitOf_10 : decode cX10_digitOf 10 = .ok (.if_icmp .ne 7, 3) := by decide +kernel
theorem dX10_digitOf_17 : decode cX10_digitOf 17 = .ok (.iload_n 0, 1) := by decide +kernel
theorem dX10_digitOf_18 : decode cX10_digitOf 18 = .ok (.iconst 2, 1) := by decide +kernel
theorem dX10_digitOf_19 : decode cX10_digitOf 19 = .ok (.if_icmp .ne 8, 3) := by decide +kernel
theorem dX10_digitOf_27 : decode cX10_digitOf 27 = .ok (.bipush 125, 2) := by decide +kernel
theorem dX10_digitOf_29 : decode cX10_digitOf 29 = .ok (.ireturn, 1) := by decide +kernel
theorem dX10_digitOf_22 : decode cX10_digitOf 22 = .ok (.bipush 25, 2) := by decide +kernel
theorem dX10_digitOf_24 : decode cX10_digitOf 24 = .ok (.goto 5, 3) := by decide +kernel
theorem dX10_digitOf_13 : decode cX10_digitOf 13 = .ok (.iconst 5, 1) := by decide +kernel
theorem dX10_digitOf_14 : decode cX10_digitOf 14 = .ok (.goto 15, 3) := by decide +kernel
theorem dX10_digitOf_4 : decode cX10_digitOf 4 = .ok (.iconst 1, 1) := by decide +kernel
theorem dX10_digitOf_5 : decode cX10_digitOf 5 = .ok (.goto 24, 3) := by decide +kernel
set_option maxHeartbeats 4000000 in
set_option maxRecDepth 100000 in
theorem k_X10_digitOf_0 (l : Launch) (V : GV) (a0 : Int32) (ba0 : iv 0 3 a0) : Ct l V yX10_digitOf (.code yX10_digitOf cX10_digitOf 1 (some .int)) 1 [.int a0] [] 0 0 (QI V (fun (r : Int32) (w : va_W) => ((¬ a0 = 0) ∧ (¬ a0 = 1) ∧ (¬ a0 = 2) ∧ r = 125 ∧ w = []) ∨ ((¬ a0 = 0) ∧ (¬ a0 = 1) ∧ (a0 = 2) ∧ r = 25 ∧ w = []) ∨ ((¬ a0 = 0) ∧ (a0 = 1) ∧ r = 5 ∧ w = []) ∨ ((a0 = 0) ∧ r = 1 ∧ w = []))) := by
  refine Ct.of (by decide) (Nat.le_of_ble_eq_true rfl) (fun p e s m below meth c A ls hx hb hr hml hown hlk hnm hg hP hK hD hE hA hS hl => ?_)
  have hl : lv_has ls 1 [(0, .int a0)] := hl
  refine lv_iload_n hx hb dX10_digitOf_0 rfl (lv_at hl 0 rfl) ?_
  refine lv_if_ne (tgt := 8) hx hb dX10_digitOf_1 (by decide) (fun c_1 => ?_) (fun c_1 => ?_)
  · have b_2 : iv 1 3 a0 := iv_n0 c_1 ba0 (iv_c (0 : Int32) (a := 0) (b := 0) (by decide)) (by decide)
    refine lv_iload_n hx hb dX10_digitOf_8 rfl (lv_at hl 0 rfl) ?_
    refine lv_iconst (v := 1) hx hb dX10_digitOf_9 (by decide) ?_
    refine lv_icmp_ne (tgt := 17) hx hb dX10_digitOf_10 (by decide) (fun c_3 => ?_) (fun c_3 => ?_)
    · have b_4 : iv 2 3 a0 := iv_n0 c_3 b_2 (iv_c (1 : Int32) (a := 1) (b := 1) (by decide)) (by decide)
      refine lv_iload_n hx hb dX10_digitOf_17 rfl (lv_at hl 0 rfl) ?_
      refine lv_iconst (v := 2) hx hb dX10_digitOf_18 (by decide) ?_
      refine lv_icmp_ne (tgt := 27) hx hb dX10_digitOf_19 (by decide) (fun c_5 => ?_) (fun c_5 => ?_)
      · have b_6 : iv 3 3 a0 := iv_n0 c_5 b_4 (iv_c (2 : Int32) (a := 2) (b := 2) (by decide)) (by decide)
        refine lv_bipush (v := 125) hx hb dX10_digitOf_27 (by decide) ?_
        exact fiI hx hb hr hlk hK hP hD hS dX10_digitOf_29 (Nat.le_of_ble_eq_true rfl) (Nat.le_of_ble_eq_true rfl) (Or.inl ⟨c_1, c_3, c_5, rfl, rfl⟩)
      · have b_7 : iv 2 2 a0 := iv_q c_5 (iv_c (2 : Int32) (a := 2) (b := 2) (by decide))
        refine lv_bipush (v := 25) hx hb dX10_digitOf_22 (by decide) ?_
        refine lv_goto (tgt := 29) hx hb dX10_digitOf_24 (by decide) ?_
        exact fiI hx hb hr hlk hK hP hD hS dX10_digitOf_29 (Nat.le_of_ble_eq_true rfl) (Nat.le_of_ble_eq_true rfl) (Or.inr (Or.inl ⟨c_1, c_3, c_5, rfl, rfl⟩))
    · have b_8 : iv 1 1 a0 := iv_q c_3 (iv_c (1 : Int32) (a := 1) (b := 1) (by decide))
      refine lv_iconst (v := 5) hx hb dX10_digitOf_13 (by decide) ?_
      refine lv_goto (tgt := 29) hx hb dX10_digitOf_14 (by decide) ?_
      exact fiI hx hb hr hlk hK hP hD hS dX10_digitOf_29 (Nat.le_of_ble_eq_true rfl) (Nat.le_of_ble_eq_true rfl) (Or.inr (Or.inr (Or.inl ⟨c_1, c_3, rfl, rfl⟩)))
  · have b_9 : iv 0 0 a0 := iv_q c_1 (iv_c (0 : Int32) (a := 0) (b := 0) (by decide))
    refine lv_iconst (v := 1) hx hb dX10_digitOf_4 (by decide) ?_
    refine lv_goto (tgt := 29) hx hb dX10_digitOf_5 (by decide) ?_
    exact fiI hx hb hr hlk hK hP hD hS dX10_digitOf_29 (Nat.le_of_ble_eq_true rfl) (Nat.le_of_ble_eq_true rfl) (Or.inr (Or.inr (Or.inr (⟨c_1, rfl, rfl⟩))))
theorem dX10_standNow_0 : decode cX10_standNow 0 = .ok (.sipush 625, 3) := by decide +kernel
theorem dX10_standNow_3 : decode cX10_standNow 3 = .ok (.aload_n 0, 1) := by decide +kernel
theorem dX10_standNow_4 : decode cX10_standNow 4 = .ok (.getfield 13, 3) := by decide +kernel
theorem dX10_standNow_7 : decode cX10_standNow 7 = .ok (.bipush 50, 2) := by decide +kernel
theorem dX10_standNow_9 : decode cX10_standNow 9 = .ok (.iaload, 1) := by decide +kernel
theorem dX10_standNow_10 : decode cX10_standNow 10 = .ok (.imul, 1) := by decide +kernel
theorem dX10_standNow_11 : decode cX10_standNow 11 = .ok (.istore_n 1, 1) := by decide +kernel
theorem dX10_standNow_12 : decode cX10_standNow 12 = .ok (.iconst 0, 1) := by decide +kernel
theorem dX10_standNow_13 : decode cX10_standNow 13 = .ok (.istore_n 2, 1) := by decide +kernel
theorem dX10_standNow_14 : decode cX10_standNow 14 = .ok (.iload_n 2, 1) := by decide +kernel
theorem dX10_standNow_15 : decode cX10_standNow 15 = .ok (.aload_n 0, 1) := by decide +kernel
theorem dX10_standNow_16 : decode cX10_standNow 16 = .ok (.getfield 13, 3) := by decide +kernel
theorem dX10_standNow_19 : decode cX10_standNow 19 = .ok (.iconst 1, 1) := by decide +kernel
theorem dX10_standNow_20 : decode cX10_standNow 20 = .ok (.iaload, 1) := by decide +kernel
theorem dX10_standNow_21 : decode cX10_standNow 21 = .ok (.if_icmp .ge 26, 3) := by decide +kernel
theorem dX10_standNow_47 : decode cX10_standNow 47 = .ok (.iload_n 1, 1) := by decide +kernel
theorem dX10_standNow_48 : decode cX10_standNow 48 = .ok (.ireturn, 1) := by decide +kernel
theorem dX10_standNow_24 : decode cX10_standNow 24 = .ok (.iload_n 1, 1) := by decide +kernel
theorem dX10_standNow_25 : decode cX10_standNow 25 = .ok (.iload_n 2, 1) := by decide +kernel
theorem q_7_17 : Cond.code yX10_digitOf prog_12_method_37_code 1 (some FieldType.int) ∈ gw := gw_7 (i := 17) (rfl) rfl
theorem q_7_16 : Cond.static yX10_digitOf ∈ gw := gw_7 (i := 16) (by decide +kernel) rfl
theorem mt_X10_digitOf : MtS yX10_digitOf cX10_digitOf 1 (some .int) 1 := ⟨⟨q_7_17, q_1_9, by decide +kernel, by decide +kernel, by decide +kernel⟩, q_7_16⟩
theorem q_7_15 : Cond.methodLink "BeaconDelayModel" 228 yX10_digitOf ∈ gw := gw_7 (i := 15) (by decide +kernel) rfl
theorem dX10_standNow_26 : decode cX10_standNow 26 = .ok (.invokestatic 228, 3) := by decide +kernel
theorem dX10_standNow_29 : decode cX10_standNow 29 = .ok (.aload_n 0, 1) := by decide +kernel
theorem dX10_standNow_30 : decode cX10_standNow 30 = .ok (.getfield 13, 3) := by decide +kernel
theorem dX10_standNow_33 : decode cX10_standNow 33 = .ok (.bipush 46, 2) := by decide +kernel
theorem dX10_standNow_35 : decode cX10_standNow 35 = .ok (.iload_n 2, 1) := by decide +kernel
theorem dX10_standNow_36 : decode cX10_standNow 36 = .ok (.iadd, 1) := by decide +kernel
theorem dX10_standNow_37 : decode cX10_standNow 37 = .ok (.iaload, 1) := by decide +kernel
theorem dX10_standNow_38 : decode cX10_standNow 38 = .ok (.imul, 1) := by decide +kernel
theorem dX10_standNow_39 : decode cX10_standNow 39 = .ok (.iadd, 1) := by decide +kernel
theorem dX10_standNow_40 : decode cX10_standNow 40 = .ok (.istore_n 1, 1) := by decide +kernel
theorem dX10_standNow_41 : decode cX10_standNow 41 = .ok (.iinc 2 1, 3) := by decide +kernel
theorem dX10_standNow_44 : decode cX10_standNow 44 = .ok (.goto (-30), 3) := by decide +kernel
set_option maxHeartbeats 4000000 in
set_option maxRecDepth 100000 in
theorem k_X10_standNow_0 (l : Launch) (V : GV) (z : Nat → Nat) (pz0_0 : Int32) (pz0_5 : Int32) (pz0_6 : Int32) (pz0_7 : Int32) (pz0_8 : Int32) (pz0_9 : Int32) (pz0_10 : Int32) (pz0_11 : Int32) (pz0_12 : Int32) (pz0_13 : Int32) (pz0_14 : Int32) (pz0_18 : Int32) (pz0_19 : Int32) (pz0_22 : Int32) (pz0_23 : Int32) (pz0_29 : Int32) (fz1 : Nat → Int32) (bpz0_5 : iv 0 900 pz0_5) (bpz0_6 : iv 0 900 pz0_6) (bpz0_7 : iv 0 900 pz0_7) (bpz0_8 : iv 0 900 pz0_8) (bpz0_10 : iv 0 999 pz0_10) (bpz0_11 : iv 0 4 pz0_11) (bpz0_12 : iv 0 900 pz0_12) (bpz0_13 : iv 0 4 pz0_13) (bpz0_14 : iv (-1) 900 pz0_14) (bpz0_18 : iv 0 2 pz0_18) (bpz0_22 : iv 0 9999 pz0_22) (bpz0_29 : iv 0 10000 pz0_29) (tfz1 : ivT tA fz1) : Ct l V yX10_standNow (.code yX10_standNow cX10_standNow 3 (some .int)) 2 [.ref (z 0)] [(z 0, .inr (10, mo z pz0_0 pz0_5 pz0_6 pz0_7 pz0_8 pz0_9 pz0_10 pz0_11 pz0_12 pz0_13 pz0_14 pz0_18 pz0_19 pz0_22 pz0_23 pz0_29)), (z 1, aI V 3075 fz1)] 0 0 (QI V (fun (r : Int32) (w : va_W) => iv 0 9999 r ∧ r = snF fz1 ∧ w = [(z 0, .inr (10, mo z pz0_0 pz0_5 pz0_6 pz0_7 pz0_8 pz0_9 pz0_10 pz0_11 pz0_12 pz0_13 pz0_14 pz0_18 pz0_19 pz0_22 pz0_23 pz0_29)), (z 1, aI V 3075 fz1)])) := by
  refine Ct.of (by decide) (Nat.le_of_ble_eq_true rfl) (fun p e s m below meth c A ls hx hb hr hml hown hlk hnm hg hP hK hD hE hA hS hl => ?_)
  have hl : lv_has ls 3 [(0, .ref (z 0))] := hl
  refine lv_sipush (v := 625) hx hb dX10_standNow_0 (by decide) ?_
  refine lv_aload_n hx hb dX10_standNow_3 rfl (lv_at hl 0 rfl) ?_
  refine va_get (ci := 10) (v := .ref (z 1)) (C := RX10) (T := TX10) (N := 40) hx hb hg inX10 hown hK hP 0 rfl rfl 1 (by decide) (hg _ q_5_225) (fun _ h9 => h9) rfl dX10_standNow_4 ?_
  refine lv_bipush (v := 50) hx hb dX10_standNow_7 (by decide) ?_
  refine va_iald hx hb hK hP 1 0 rfl rfl (vin (by decide +kernel)) dX10_standNow_9 ?_
  refine lv_topi (fun x_1 ex_1 => ?_)
  have bx_1 : iv 0 15 x_1 := by rw [ex_1]; exact rdT (a := 50) (n := 1) tfz1 (iv_c (50 : Int32) (a := 50) (b := 50) (by decide)) (by decide) (by decide +kernel)
  refine lv_imul hx hb dX10_standNow_10 ?_
  refine lv_topi (fun x_2 ex_2 => ?_)
  have bx_2 : iv 0 9375 x_2 := by rw [ex_2]; exact iv_cmul (iv_c (625 : Int32) (a := 625) (b := 625) (by decide)) bx_1 (by decide)
  refine lv_istore_n (lv' := [(1, .int x_2), (0, .ref (z 0))]) hx hb dX10_standNow_11 rfl hl (by decide) rfl (fun ls hl => ?_)
  refine lv_iconst (v := 0) hx hb dX10_standNow_12 (by decide) ?_
  refine lv_istore_n (lv' := [(2, .int 0), (1, .int x_2), (0, .ref (z 0))]) hx hb dX10_standNow_13 rfl hl (by decide) rfl (fun ls hl => ?_)
  refine lv_iload_n hx hb dX10_standNow_14 rfl (lv_at hl 0 rfl) ?_
  refine lv_aload_n hx hb dX10_standNow_15 rfl (lv_at hl 2 rfl) ?_
  refine va_get (ci := 10) (v := .ref (z 1)) (C := RX10) (T := TX10) (N := 40) hx hb hg inX10 hown hK hP 0 rfl rfl 1 (by decide) (hg _ q_5_225) (fun _ h9 => h9) rfl dX10_standNow_16 ?_
  refine lv_iconst (v := 1) hx hb dX10_standNow_19 (by decide) ?_
  refine va_iald hx hb hK hP 1 0 rfl rfl (vin (by decide +kernel)) dX10_standNow_20 ?_
  refine lv_topi (fun x_3 ex_3 => ?_)
  have bx_3 : iv 0 4 x_3 := by rw [ex_3]; exact rdT (a := 1) (n := 1) tfz1 (iv_c (1 : Int32) (a := 1) (b := 1) (by decide)) (by decide) (by decide +kernel)
  refine lv_icmp_ge (tgt := 47) hx hb dX10_standNow_21 (by decide) (fun c_4 => ?_) (fun c_4 => ?_)
  · have b_5 : iv 0 0 x_3 := iv_e1 c_4 bx_3 (iv_c (0 : Int32) (a := 0) (b := 0) (by decide)) (by decide)
    refine lv_iload_n hx hb dX10_standNow_47 rfl (lv_at hl 1 rfl) ?_
    exact fiI hx hb hr hlk hK hP hD hS dX10_standNow_48 (Nat.le_of_ble_eq_true rfl) (Nat.le_of_ble_eq_true rfl) (⟨(iv_w bx_2 (by decide)), (by rw [snF_0 (show fz1 1 = 0 from (ex_3.symm.trans (iv_eqp b_5 (iv_c (0 : Int32) (by decide))))), ex_2, ex_1]; rfl), rfl⟩)
  · have b_6 : iv 1 4 x_3 := iv_l2 (Int32.not_le.mp c_4) (iv_c (0 : Int32) (a := 0) (b := 0) (by decide)) bx_3 (by decide)
    refine lv_iload_n hx hb dX10_standNow_24 rfl (lv_at hl 1 rfl) ?_
    refine lv_iload_n hx hb dX10_standNow_25 rfl (lv_at hl 0 rfl) ?_
    refine jnI (wr := [(z 0, .inr (10, mo z pz0_0 pz0_5 pz0_6 pz0_7 pz0_8 pz0_9 pz0_10 pz0_11 pz0_12 pz0_13 pz0_14 pz0_18 pz0_19 pz0_22 pz0_23 pz0_29)), (z 1, aI V 3075 fz1)]) (rnS (rest := [.int x_2]) ⟨hx, hb, hml, hown, hg⟩ (k_X10_digitOf_0 l V 0 (iv_c (0 : Int32) (by decide))) mt_X10_digitOf q_7_15 ⟨Nat.le_of_ble_eq_true rfl, Nat.le_of_ble_eq_true rfl⟩ hK hP hD hS hA hE [] rfl rfl rfl hl.1 rfl (Nat.le_of_ble_eq_true rfl) dX10_standNow_26 ⟨Nat.le_of_ble_eq_true rfl, Nat.le_of_ble_eq_true rfl⟩) hP hD hS hA [] [0, 1] rfl rfl rfl (by decide) (fun r_7 w H locs hw hP hD hS => ?_)
    rcases hw with ⟨c_8, c_9, c_10, rfl, rfl⟩ | ⟨c_11, c_12, c_13, rfl, rfl⟩ | ⟨c_14, c_15, rfl, rfl⟩ | ⟨c_16, rfl, rfl⟩
    · have hP : va_P V.1 vwCl [(z 0, .inr (10, mo z pz0_0 pz0_5 pz0_6 pz0_7 pz0_8 pz0_9 pz0_10 pz0_11 pz0_12 pz0_13 pz0_14 pz0_18 pz0_19 pz0_22 pz0_23 pz0_29)), (z 1, aI V 3075 fz1)] H := hP
      have hD : va_D A [(z 0, .inr (10, mo z pz0_0 pz0_5 pz0_6 pz0_7 pz0_8 pz0_9 pz0_10 pz0_11 pz0_12 pz0_13 pz0_14 pz0_18 pz0_19 pz0_22 pz0_23 pz0_29)), (z 1, aI V 3075 fz1)] := hD
      exact absurd c_8 (by decide)
    · have hP : va_P V.1 vwCl [(z 0, .inr (10, mo z pz0_0 pz0_5 pz0_6 pz0_7 pz0_8 pz0_9 pz0_10 pz0_11 pz0_12 pz0_13 pz0_14 pz0_18 pz0_19 pz0_22 pz0_23 pz0_29)), (z 1, aI V 3075 fz1)] H := hP
      have hD : va_D A [(z 0, .inr (10, mo z pz0_0 pz0_5 pz0_6 pz0_7 pz0_8 pz0_9 pz0_10 pz0_11 pz0_12 pz0_13 pz0_14 pz0_18 pz0_19 pz0_22 pz0_23 pz0_29)), (z 1, aI V 3075 fz1)] := hD
      exact absurd c_11 (by decide)
    · have hP : va_P V.1 vwCl [(z 0, .inr (10, mo z pz0_0 pz0_5 pz0_6 pz0_7 pz0_8 pz0_9 pz0_10 pz0_11 pz0_12 pz0_13 pz0_14 pz0_18 pz0_19 pz0_22 pz0_23 pz0_29)), (z 1, aI V 3075 fz1)] H := hP
      have hD : va_D A [(z 0, .inr (10, mo z pz0_0 pz0_5 pz0_6 pz0_7 pz0_8 pz0_9 pz0_10 pz0_11 pz0_12 pz0_13 pz0_14 pz0_18 pz0_19 pz0_22 pz0_23 pz0_29)), (z 1, aI V 3075 fz1)] := hD
      exact absurd c_14 (by decide)
    · have hP : va_P V.1 vwCl [(z 0, .inr (10, mo z pz0_0 pz0_5 pz0_6 pz0_7 pz0_8 pz0_9 pz0_10 pz0_11 pz0_12 pz0_13 pz0_14 pz0_18 pz0_19 pz0_22 pz0_23 pz0_29)), (z 1, aI V 3075 fz1)] H := hP
      have hD : va_D A [(z 0, .inr (10, mo z pz0_0 pz0_5 pz0_6 pz0_7 pz0_8 pz0_9 pz0_10 pz0_11 pz0_12 pz0_13 pz0_14 pz0_18 pz0_19 pz0_22 pz0_23 pz0_29)), (z 1, aI V 3075 fz1)] := hD
      refine lv_aload_n hx hb dX10_standNow_29 rfl (lv_at hl 2 rfl) ?_
      refine va_get (ci := 10) (v := .ref (z 1)) (C := RX10) (T := TX10) (N := 40) hx hb hg inX10 hown hK hP 0 rfl rfl 1 (by decide) (hg _ q_5_225) (fun _ h9 => h9) rfl dX10_standNow_30 ?_
      refine lv_bipush (v := 46) hx hb dX10_standNow_33 (by decide) ?_
      refine lv_iload_n hx hb dX10_standNow_35 rfl (lv_at hl 0 rfl) ?_
      refine lv_iadd hx hb dX10_standNow_36 ?_
      refine tpi (y := 46) (by decide +kernel) ?_
      refine va_iald hx hb hK hP 1 0 rfl rfl (vin (by decide +kernel)) dX10_standNow_37 ?_
      refine lv_topi (fun x_17 ex_17 => ?_)
      have bx_17 : iv 0 4 x_17 := by rw [ex_17]; exact rdT (a := 46) (n := 1) tfz1 (iv_c (46 : Int32) (a := 46) (b := 46) (by decide)) (by decide) (by decide +kernel)
      refine lv_imul hx hb dX10_standNow_38 ?_
      refine lv_topi (fun x_18 ex_18 => ?_)
      have bx_18 : iv 0 4 x_18 := by rw [ex_18]; exact iv_cmul (iv_c (1 : Int32) (a := 1) (b := 1) (by decide)) bx_17 (by decide)
      refine lv_iadd hx hb dX10_standNow_39 ?_
      refine lv_topi (fun x_19 ex_19 => ?_)
      have bx_19 : iv 0 9379 x_19 := by rw [ex_19]; exact iv_add bx_2 bx_18 (by decide)
      refine lv_istore_n (lv' := [(1, .int x_19), (2, .int 0), (0, .ref (z 0))]) hx hb dX10_standNow_40 rfl hl (by decide) rfl (fun ls hl => ?_)
      refine lv_iinc (v := 1) (lv' := [(2, .int 1), (1, .int x_19), (0, .ref (z 0))]) hx hb dX10_standNow_41 hl (k := 1) rfl (by decide +kernel) (by decide) rfl (fun ls hl => ?_)
      refine lv_goto (tgt := 14) hx hb dX10_standNow_44 (by decide) ?_
      refine lv_iload_n hx hb dX10_standNow_14 rfl (lv_at hl 0 rfl) ?_
      refine lv_aload_n hx hb dX10_standNow_15 rfl (lv_at hl 2 rfl) ?_
      refine va_get (ci := 10) (v := .ref (z 1)) (C := RX10) (T := TX10) (N := 40) hx hb hg inX10 hown hK hP 0 rfl rfl 1 (by decide) (hg _ q_5_225) (fun _ h9 => h9) rfl dX10_standNow_16 ?_
      refine lv_iconst (v := 1) hx hb dX10_standNow_19 (by decide) ?_
      refine va_iald hx hb hK hP 1 0 rfl rfl (vin (by decide +kernel)) dX10_standNow_20 ?_
      refine tpi (y := x_3) ex_3.symm ?_
      refine lv_icmp_ge (tgt := 47) hx hb dX10_standNow_21 (by decide) (fun c_20 => ?_) (fun c_20 => ?_)
      · have b_21 : iv 1 1 x_3 := iv_e1 c_20 b_6 (iv_c (1 : Int32) (a := 1) (b := 1) (by decide)) (by decide)
        refine lv_iload_n hx hb dX10_standNow_47 rfl (lv_at hl 1 rfl) ?_
        exact fiI hx hb hr hlk hK hP hD hS dX10_standNow_48 (Nat.le_of_ble_eq_true rfl) (Nat.le_of_ble_eq_true rfl) (⟨(iv_w bx_19 (by decide)), (by rw [snF_1 (show fz1 1 = 1 from (ex_3.symm.trans (iv_eqp b_21 (iv_c (1 : Int32) (by decide))))), ex_19, ex_18, ex_17, ex_2, ex_1]; rfl), rfl⟩)
      · have b_22 : iv 2 4 x_3 := iv_l2 (Int32.not_le.mp c_20) (iv_c (1 : Int32) (a := 1) (b := 1) (by decide)) b_6 (by decide)
        refine lv_iload_n hx hb dX10_standNow_24 rfl (lv_at hl 1 rfl) ?_
        refine lv_iload_n hx hb dX10_standNow_25 rfl (lv_at hl 0 rfl) ?_
        refine jnI (wr := [(z 0, .inr (10, mo z pz0_0 pz0_5 pz0_6 pz0_7 pz0_8 pz0_9 pz0_10 pz0_11 pz0_12 pz0_13 pz0_14 pz0_18 pz0_19 pz0_22 pz0_23 pz0_29)), (z 1, aI V 3075 fz1)]) (rnS (rest := [.int x_19]) ⟨hx, hb, hml, hown, hg⟩ (k_X10_digitOf_0 l V 1 (iv_c (1 : Int32) (by decide))) mt_X10_digitOf q_7_15 ⟨Nat.le_of_ble_eq_true rfl, Nat.le_of_ble_eq_true rfl⟩ hK hP hD hS hA hE [] rfl rfl rfl hl.1 rfl (Nat.le_of_ble_eq_true rfl) dX10_standNow_26 ⟨Nat.le_of_ble_eq_true rfl, Nat.le_of_ble_eq_true rfl⟩) hP hD hS hA [] [0, 1] rfl rfl rfl (by decide) (fun r_23 w H locs hw hP hD hS => ?_)
        rcases hw with ⟨c_24, c_25, c_26, rfl, rfl⟩ | ⟨c_27, c_28, c_29, rfl, rfl⟩ | ⟨c_30, c_31, rfl, rfl⟩ | ⟨c_32, rfl, rfl⟩
        · have hP : va_P V.1 vwCl [(z 0, .inr (10, mo z pz0_0 pz0_5 pz0_6 pz0_7 pz0_8 pz0_9 pz0_10 pz0_11 pz0_12 pz0_13 pz0_14 pz0_18 pz0_19 pz0_22 pz0_23 pz0_29)), (z 1, aI V 3075 fz1)] H := hP
          have hD : va_D A [(z 0, .inr (10, mo z pz0_0 pz0_5 pz0_6 pz0_7 pz0_8 pz0_9 pz0_10 pz0_11 pz0_12 pz0_13 pz0_14 pz0_18 pz0_19 pz0_22 pz0_23 pz0_29)), (z 1, aI V 3075 fz1)] := hD
          exact absurd c_25 (by decide)
        · have hP : va_P V.1 vwCl [(z 0, .inr (10, mo z pz0_0 pz0_5 pz0_6 pz0_7 pz0_8 pz0_9 pz0_10 pz0_11 pz0_12 pz0_13 pz0_14 pz0_18 pz0_19 pz0_22 pz0_23 pz0_29)), (z 1, aI V 3075 fz1)] H := hP
          have hD : va_D A [(z 0, .inr (10, mo z pz0_0 pz0_5 pz0_6 pz0_7 pz0_8 pz0_9 pz0_10 pz0_11 pz0_12 pz0_13 pz0_14 pz0_18 pz0_19 pz0_22 pz0_23 pz0_29)), (z 1, aI V 3075 fz1)] := hD
          exact absurd c_28 (by decide)
        · have hP : va_P V.1 vwCl [(z 0, .inr (10, mo z pz0_0 pz0_5 pz0_6 pz0_7 pz0_8 pz0_9 pz0_10 pz0_11 pz0_12 pz0_13 pz0_14 pz0_18 pz0_19 pz0_22 pz0_23 pz0_29)), (z 1, aI V 3075 fz1)] H := hP
          have hD : va_D A [(z 0, .inr (10, mo z pz0_0 pz0_5 pz0_6 pz0_7 pz0_8 pz0_9 pz0_10 pz0_11 pz0_12 pz0_13 pz0_14 pz0_18 pz0_19 pz0_22 pz0_23 pz0_29)), (z 1, aI V 3075 fz1)] := hD
          refine lv_aload_n hx hb dX10_standNow_29 rfl (lv_at hl 2 rfl) ?_
          refine va_get (ci := 10) (v := .ref (z 1)) (C := RX10) (T := TX10) (N := 40) hx hb hg inX10 hown hK hP 0 rfl rfl 1 (by decide) (hg _ q_5_225) (fun _ h9 => h9) rfl dX10_standNow_30 ?_
          refine lv_bipush (v := 46) hx hb dX10_standNow_33 (by decide) ?_
          refine lv_iload_n hx hb dX10_standNow_35 rfl (lv_at hl 0 rfl) ?_
          refine lv_iadd hx hb dX10_standNow_36 ?_
          refine tpi (y := 47) (by decide +kernel) ?_
          refine va_iald hx hb hK hP 1 0 rfl rfl (vin (by decide +kernel)) dX10_standNow_37 ?_
          refine lv_topi (fun x_33 ex_33 => ?_)
          have bx_33 : iv 0 4 x_33 := by rw [ex_33]; exact rdT (a := 47) (n := 1) tfz1 (iv_c (47 : Int32) (a := 47) (b := 47) (by decide)) (by decide) (by decide +kernel)
          refine lv_imul hx hb dX10_standNow_38 ?_
          refine lv_topi (fun x_34 ex_34 => ?_)
          have bx_34 : iv 0 20 x_34 := by rw [ex_34]; exact iv_cmul (iv_c (5 : Int32) (a := 5) (b := 5) (by decide)) bx_33 (by decide)
          refine lv_iadd hx hb dX10_standNow_39 ?_
          refine lv_topi (fun x_35 ex_35 => ?_)
          have bx_35 : iv 0 9399 x_35 := by rw [ex_35]; exact iv_add bx_19 bx_34 (by decide)
          refine lv_istore_n (lv' := [(1, .int x_35), (2, .int 1), (0, .ref (z 0))]) hx hb dX10_standNow_40 rfl hl (by decide) rfl (fun ls hl => ?_)
          refine lv_iinc (v := 2) (lv' := [(2, .int 2), (1, .int x_35), (0, .ref (z 0))]) hx hb dX10_standNow_41 hl (k := 1) rfl (by decide +kernel) (by decide) rfl (fun ls hl => ?_)
          refine lv_goto (tgt := 14) hx hb dX10_standNow_44 (by decide) ?_
          refine lv_iload_n hx hb dX10_standNow_14 rfl (lv_at hl 0 rfl) ?_
          refine lv_aload_n hx hb dX10_standNow_15 rfl (lv_at hl 2 rfl) ?_
          refine va_get (ci := 10) (v := .ref (z 1)) (C := RX10) (T := TX10) (N := 40) hx hb hg inX10 hown hK hP 0 rfl rfl 1 (by decide) (hg _ q_5_225) (fun _ h9 => h9) rfl dX10_standNow_16 ?_
          refine lv_iconst (v := 1) hx hb dX10_standNow_19 (by decide) ?_
          refine va_iald hx hb hK hP 1 0 rfl rfl (vin (by decide +kernel)) dX10_standNow_20 ?_
          refine tpi (y := x_3) ex_3.symm ?_
          refine lv_icmp_ge (tgt := 47) hx hb dX10_standNow_21 (by decide) (fun c_36 => ?_) (fun c_36 => ?_)
          · have b_37 : iv 2 2 x_3 := iv_e1 c_36 b_22 (iv_c (2 : Int32) (a := 2) (b := 2) (by decide)) (by decide)
            refine lv_iload_n hx hb dX10_standNow_47 rfl (lv_at hl 1 rfl) ?_
            exact fiI hx hb hr hlk hK hP hD hS dX10_standNow_48 (Nat.le_of_ble_eq_true rfl) (Nat.le_of_ble_eq_true rfl) (⟨(iv_w bx_35 (by decide)), (by rw [snF_2 (show fz1 1 = 2 from (ex_3.symm.trans (iv_eqp b_37 (iv_c (2 : Int32) (by decide))))), ex_35, ex_34, ex_33, ex_19, ex_18, ex_17, ex_2, ex_1]; rfl), rfl⟩)
          · have b_38 : iv 3 4 x_3 := iv_l2 (Int32.not_le.mp c_36) (iv_c (2 : Int32) (a := 2) (b := 2) (by decide)) b_22 (by decide)
            refine lv_iload_n hx hb dX10_standNow_24 rfl (lv_at hl 1 rfl) ?_
            refine lv_iload_n hx hb dX10_standNow_25 rfl (lv_at hl 0 rfl) ?_
            refine jnI (wr := [(z 0, .inr (10, mo z pz0_0 pz0_5 pz0_6 pz0_7 pz0_8 pz0_9 pz0_10 pz0_11 pz0_12 pz0_13 pz0_14 pz0_18 pz0_19 pz0_22 pz0_23 pz0_29)), (z 1, aI V 3075 fz1)]) (rnS (rest := [.int x_35]) ⟨hx, hb, hml, hown, hg⟩ (k_X10_digitOf_0 l V 2 (iv_c (2 : Int32) (by decide))) mt_X10_digitOf q_7_15 ⟨Nat.le_of_ble_eq_true rfl, Nat.le_of_ble_eq_true rfl⟩ hK hP hD hS hA hE [] rfl rfl rfl hl.1 rfl (Nat.le_of_ble_eq_true rfl) dX10_standNow_26 ⟨Nat.le_of_ble_eq_true rfl, Nat.le_of_ble_eq_true rfl⟩) hP hD hS hA [] [0, 1] rfl rfl rfl (by decide) (fun r_39 w H locs hw hP hD hS => ?_)
            rcases hw with ⟨c_40, c_41, c_42, rfl, rfl⟩ | ⟨c_43, c_44, c_45, rfl, rfl⟩ | ⟨c_46, c_47, rfl, rfl⟩ | ⟨c_48, rfl, rfl⟩
            · have hP : va_P V.1 vwCl [(z 0, .inr (10, mo z pz0_0 pz0_5 pz0_6 pz0_7 pz0_8 pz0_9 pz0_10 pz0_11 pz0_12 pz0_13 pz0_14 pz0_18 pz0_19 pz0_22 pz0_23 pz0_29)), (z 1, aI V 3075 fz1)] H := hP
              have hD : va_D A [(z 0, .inr (10, mo z pz0_0 pz0_5 pz0_6 pz0_7 pz0_8 pz0_9 pz0_10 pz0_11 pz0_12 pz0_13 pz0_14 pz0_18 pz0_19 pz0_22 pz0_23 pz0_29)), (z 1, aI V 3075 fz1)] := hD
              exact absurd c_42 (by decide)
            · have hP : va_P V.1 vwCl [(z 0, .inr (10, mo z pz0_0 pz0_5 pz0_6 pz0_7 pz0_8 pz0_9 pz0_10 pz0_11 pz0_12 pz0_13 pz0_14 pz0_18 pz0_19 pz0_22 pz0_23 pz0_29)), (z 1, aI V 3075 fz1)] H := hP
              have hD : va_D A [(z 0, .inr (10, mo z pz0_0 pz0_5 pz0_6 pz0_7 pz0_8 pz0_9 pz0_10 pz0_11 pz0_12 pz0_13 pz0_14 pz0_18 pz0_19 pz0_22 pz0_23 pz0_29)), (z 1, aI V 3075 fz1)] := hD
              refine lv_aload_n hx hb dX10_standNow_29 rfl (lv_at hl 2 rfl) ?_
              refine va_get (ci := 10) (v := .ref (z 1)) (C := RX10) (T := TX10) (N := 40) hx hb hg inX10 hown hK hP 0 rfl rfl 1 (by decide) (hg _ q_5_225) (fun _ h9 => h9) rfl dX10_standNow_30 ?_
              refine lv_bipush (v := 46) hx hb dX10_standNow_33 (by decide) ?_
              refine lv_iload_n hx hb dX10_standNow_35 rfl (lv_at hl 0 rfl) ?_
              refine lv_iadd hx hb dX10_standNow_36 ?_
              refine tpi (y := 48) (by decide +kernel) ?_
              refine va_iald hx hb hK hP 1 0 rfl rfl (vin (by decide +kernel)) dX10_standNow_37 ?_
              refine lv_topi (fun x_49 ex_49 => ?_)
              have bx_49 : iv 0 4 x_49 := by rw [ex_49]; exact rdT (a := 48) (n := 1) tfz1 (iv_c (48 : Int32) (a := 48) (b := 48) (by decide)) (by decide) (by decide +kernel)
              refine lv_imul hx hb dX10_standNow_38 ?_
              refine lv_topi (fun x_50 ex_50 => ?_)
              have bx_50 : iv 0 100 x_50 := by rw [ex_50]; exact iv_cmul (iv_c (25 : Int32) (a := 25) (b := 25) (by decide)) bx_49 (by decide)
              refine lv_iadd hx hb dX10_standNow_39 ?_
              refine lv_topi (fun x_51 ex_51 => ?_)
              have bx_51 : iv 0 9499 x_51 := by rw [ex_51]; exact iv_add bx_35 bx_50 (by decide)
              refine lv_istore_n (lv' := [(1, .int x_51), (2, .int 2), (0, .ref (z 0))]) hx hb dX10_standNow_40 rfl hl (by decide) rfl (fun ls hl => ?_)
              refine lv_iinc (v := 3) (lv' := [(2, .int 3), (1, .int x_51), (0, .ref (z 0))]) hx hb dX10_standNow_41 hl (k := 1) rfl (by decide +kernel) (by decide) rfl (fun ls hl => ?_)
              refine lv_goto (tgt := 14) hx hb dX10_standNow_44 (by decide) ?_
              refine lv_iload_n hx hb dX10_standNow_14 rfl (lv_at hl 0 rfl) ?_
              refine lv_aload_n hx hb dX10_standNow_15 rfl (lv_at hl 2 rfl) ?_
              refine va_get (ci := 10) (v := .ref (z 1)) (C := RX10) (T := TX10) (N := 40) hx hb hg inX10 hown hK hP 0 rfl rfl 1 (by decide) (hg _ q_5_225) (fun _ h9 => h9) rfl dX10_standNow_16 ?_
              refine lv_iconst (v := 1) hx hb dX10_standNow_19 (by decide) ?_
              refine va_iald hx hb hK hP 1 0 rfl rfl (vin (by decide +kernel)) dX10_standNow_20 ?_
              refine tpi (y := x_3) ex_3.symm ?_
              refine lv_icmp_ge (tgt := 47) hx hb dX10_standNow_21 (by decide) (fun c_52 => ?_) (fun c_52 => ?_)
              · have b_53 : iv 3 3 x_3 := iv_e1 c_52 b_38 (iv_c (3 : Int32) (a := 3) (b := 3) (by decide)) (by decide)
                refine lv_iload_n hx hb dX10_standNow_47 rfl (lv_at hl 1 rfl) ?_
                exact fiI hx hb hr hlk hK hP hD hS dX10_standNow_48 (Nat.le_of_ble_eq_true rfl) (Nat.le_of_ble_eq_true rfl) (⟨(iv_w bx_51 (by decide)), (by rw [snF_3 (show fz1 1 = 3 from (ex_3.symm.trans (iv_eqp b_53 (iv_c (3 : Int32) (by decide))))), ex_51, ex_50, ex_49, ex_35, ex_34, ex_33, ex_19, ex_18, ex_17, ex_2, ex_1]; rfl), rfl⟩)
              · have b_54 : iv 4 4 x_3 := iv_l2 (Int32.not_le.mp c_52) (iv_c (3 : Int32) (a := 3) (b := 3) (by decide)) b_38 (by decide)
                refine lv_iload_n hx hb dX10_standNow_24 rfl (lv_at hl 1 rfl) ?_
                refine lv_iload_n hx hb dX10_standNow_25 rfl (lv_at hl 0 rfl) ?_
                refine jnI (wr := [(z 0, .inr (10, mo z pz0_0 pz0_5 pz0_6 pz0_7 pz0_8 pz0_9 pz0_10 pz0_11 pz0_12 pz0_13 pz0_14 pz0_18 pz0_19 pz0_22 pz0_23 pz0_29)), (z 1, aI V 3075 fz1)]) (rnS (rest := [.int x_51]) ⟨hx, hb, hml, hown, hg⟩ (k_X10_digitOf_0 l V 3 (iv_c (3 : Int32) (by decide))) mt_X10_digitOf q_7_15 ⟨Nat.le_of_ble_eq_true rfl, Nat.le_of_ble_eq_true rfl⟩ hK hP hD hS hA hE [] rfl rfl rfl hl.1 rfl (Nat.le_of_ble_eq_true rfl) dX10_standNow_26 ⟨Nat.le_of_ble_eq_true rfl, Nat.le_of_ble_eq_true rfl⟩) hP hD hS hA [] [0, 1] rfl rfl rfl (by decide) (fun r_55 w H locs hw hP hD hS => ?_)
                rcases hw with ⟨c_56, c_57, c_58, rfl, rfl⟩ | ⟨c_59, c_60, c_61, rfl, rfl⟩ | ⟨c_62, c_63, rfl, rfl⟩ | ⟨c_64, rfl, rfl⟩
                · have hP : va_P V.1 vwCl [(z 0, .inr (10, mo z pz0_0 pz0_5 pz0_6 pz0_7 pz0_8 pz0_9 pz0_10 pz0_11 pz0_12 pz0_13 pz0_14 pz0_18 pz0_19 pz0_22 pz0_23 pz0_29)), (z 1, aI V 3075 fz1)] H := hP
                  have hD : va_D A [(z 0, .inr (10, mo z pz0_0 pz0_5 pz0_6 pz0_7 pz0_8 pz0_9 pz0_10 pz0_11 pz0_12 pz0_13 pz0_14 pz0_18 pz0_19 pz0_22 pz0_23 pz0_29)), (z 1, aI V 3075 fz1)] := hD
                  refine lv_aload_n hx hb dX10_standNow_29 rfl (lv_at hl 2 rfl) ?_
                  refine va_get (ci := 10) (v := .ref (z 1)) (C := RX10) (T := TX10) (N := 40) hx hb hg inX10 hown hK hP 0 rfl rfl 1 (by decide) (hg _ q_5_225) (fun _ h9 => h9) rfl dX10_standNow_30 ?_
                  refine lv_bipush (v := 46) hx hb dX10_standNow_33 (by decide) ?_
                  refine lv_iload_n hx hb dX10_standNow_35 rfl (lv_at hl 0 rfl) ?_
                  refine lv_iadd hx hb dX10_standNow_36 ?_
                  refine tpi (y := 49) (by decide +kernel) ?_
                  refine va_iald hx hb hK hP 1 0 rfl rfl (vin (by decide +kernel)) dX10_standNow_37 ?_
                  refine lv_topi (fun x_65 ex_65 => ?_)
                  have bx_65 : iv 0 4 x_65 := by rw [ex_65]; exact rdT (a := 49) (n := 1) tfz1 (iv_c (49 : Int32) (a := 49) (b := 49) (by decide)) (by decide) (by decide +kernel)
                  refine lv_imul hx hb dX10_standNow_38 ?_
                  refine lv_topi (fun x_66 ex_66 => ?_)
                  have bx_66 : iv 0 500 x_66 := by rw [ex_66]; exact iv_cmul (iv_c (125 : Int32) (a := 125) (b := 125) (by decide)) bx_65 (by decide)
                  refine lv_iadd hx hb dX10_standNow_39 ?_
                  refine lv_topi (fun x_67 ex_67 => ?_)
                  have bx_67 : iv 0 9999 x_67 := by rw [ex_67]; exact iv_add bx_51 bx_66 (by decide)
                  refine lv_istore_n (lv' := [(1, .int x_67), (2, .int 3), (0, .ref (z 0))]) hx hb dX10_standNow_40 rfl hl (by decide) rfl (fun ls hl => ?_)
                  refine lv_iinc (v := 4) (lv' := [(2, .int 4), (1, .int x_67), (0, .ref (z 0))]) hx hb dX10_standNow_41 hl (k := 1) rfl (by decide +kernel) (by decide) rfl (fun ls hl => ?_)
                  refine lv_goto (tgt := 14) hx hb dX10_standNow_44 (by decide) ?_
                  refine lv_iload_n hx hb dX10_standNow_14 rfl (lv_at hl 0 rfl) ?_
                  refine lv_aload_n hx hb dX10_standNow_15 rfl (lv_at hl 2 rfl) ?_
                  refine va_get (ci := 10) (v := .ref (z 1)) (C := RX10) (T := TX10) (N := 40) hx hb hg inX10 hown hK hP 0 rfl rfl 1 (by decide) (hg _ q_5_225) (fun _ h9 => h9) rfl dX10_standNow_16 ?_
                  refine lv_iconst (v := 1) hx hb dX10_standNow_19 (by decide) ?_
                  refine va_iald hx hb hK hP 1 0 rfl rfl (vin (by decide +kernel)) dX10_standNow_20 ?_
                  refine tpi (y := x_3) ex_3.symm ?_
                  refine lv_icmp_ge (tgt := 47) hx hb dX10_standNow_21 (by decide) (fun _ => ?_) (fun c_68 => absurd (iv_le b_54 (iv_c (4 : Int32) (a := 4) (b := 4) (by decide)) (by decide)) c_68)
                  refine lv_iload_n hx hb dX10_standNow_47 rfl (lv_at hl 1 rfl) ?_
                  exact fiI hx hb hr hlk hK hP hD hS dX10_standNow_48 (Nat.le_of_ble_eq_true rfl) (Nat.le_of_ble_eq_true rfl) (⟨bx_67, (by rw [snF_4 (show fz1 1 = 4 from (ex_3.symm.trans (iv_eqp b_54 (iv_c (4 : Int32) (by decide))))), ex_67, ex_66, ex_65, ex_51, ex_50, ex_49, ex_35, ex_34, ex_33, ex_19, ex_18, ex_17, ex_2, ex_1]; rfl), rfl⟩)
                · have hP : va_P V.1 vwCl [(z 0, .inr (10, mo z pz0_0 pz0_5 pz0_6 pz0_7 pz0_8 pz0_9 pz0_10 pz0_11 pz0_12 pz0_13 pz0_14 pz0_18 pz0_19 pz0_22 pz0_23 pz0_29)), (z 1, aI V 3075 fz1)] H := hP
                  have hD : va_D A [(z 0, .inr (10, mo z pz0_0 pz0_5 pz0_6 pz0_7 pz0_8 pz0_9 pz0_10 pz0_11 pz0_12 pz0_13 pz0_14 pz0_18 pz0_19 pz0_22 pz0_23 pz0_29)), (z 1, aI V 3075 fz1)] := hD
                  exact absurd c_61 (by decide)
                · have hP : va_P V.1 vwCl [(z 0, .inr (10, mo z pz0_0 pz0_5 pz0_6 pz0_7 pz0_8 pz0_9 pz0_10 pz0_11 pz0_12 pz0_13 pz0_14 pz0_18 pz0_19 pz0_22 pz0_23 pz0_29)), (z 1, aI V 3075 fz1)] H := hP
                  have hD : va_D A [(z 0, .inr (10, mo z pz0_0 pz0_5 pz0_6 pz0_7 pz0_8 pz0_9 pz0_10 pz0_11 pz0_12 pz0_13 pz0_14 pz0_18 pz0_19 pz0_22 pz0_23 pz0_29)), (z 1, aI V 3075 fz1)] := hD
                  exact absurd c_63 (by decide)
                · have hP : va_P V.1 vwCl [(z 0, .inr (10, mo z pz0_0 pz0_5 pz0_6 pz0_7 pz0_8 pz0_9 pz0_10 pz0_11 pz0_12 pz0_13 pz0_14 pz0_18 pz0_19 pz0_22 pz0_23 pz0_29)), (z 1, aI V 3075 fz1)] H := hP
                  have hD : va_D A [(z 0, .inr (10, mo z pz0_0 pz0_5 pz0_6 pz0_7 pz0_8 pz0_9 pz0_10 pz0_11 pz0_12 pz0_13 pz0_14 pz0_18 pz0_19 pz0_22 pz0_23 pz0_29)), (z 1, aI V 3075 fz1)] := hD
                  exact absurd c_64 (by decide)
            · have hP : va_P V.1 vwCl [(z 0, .inr (10, mo z pz0_0 pz0_5 pz0_6 pz0_7 pz0_8 pz0_9 pz0_10 pz0_11 pz0_12 pz0_13 pz0_14 pz0_18 pz0_19 pz0_22 pz0_23 pz0_29)), (z 1, aI V 3075 fz1)] H := hP
              have hD : va_D A [(z 0, .inr (10, mo z pz0_0 pz0_5 pz0_6 pz0_7 pz0_8 pz0_9 pz0_10 pz0_11 pz0_12 pz0_13 pz0_14 pz0_18 pz0_19 pz0_22 pz0_23 pz0_29)), (z 1, aI V 3075 fz1)] := hD
              exact absurd c_47 (by decide)
            · have hP : va_P V.1 vwCl [(z 0, .inr (10, mo z pz0_0 pz0_5 pz0_6 pz0_7 pz0_8 pz0_9 pz0_10 pz0_11 pz0_12 pz0_13 pz0_14 pz0_18 pz0_19 pz0_22 pz0_23 pz0_29)), (z 1, aI V 3075 fz1)] H := hP
              have hD : va_D A [(z 0, .inr (10, mo z pz0_0 pz0_5 pz0_6 pz0_7 pz0_8 pz0_9 pz0_10 pz0_11 pz0_12 pz0_13 pz0_14 pz0_18 pz0_19 pz0_22 pz0_23 pz0_29)), (z 1, aI V 3075 fz1)] := hD
              exact absurd c_48 (by decide)
        · have hP : va_P V.1 vwCl [(z 0, .inr (10, mo z pz0_0 pz0_5 pz0_6 pz0_7 pz0_8 pz0_9 pz0_10 pz0_11 pz0_12 pz0_13 pz0_14 pz0_18 pz0_19 pz0_22 pz0_23 pz0_29)), (z 1, aI V 3075 fz1)] H := hP
          have hD : va_D A [(z 0, .inr (10, mo z pz0_0 pz0_5 pz0_6 pz0_7 pz0_8 pz0_9 pz0_10 pz0_11 pz0_12 pz0_13 pz0_14 pz0_18 pz0_19 pz0_22 pz0_23 pz0_29)), (z 1, aI V 3075 fz1)] := hD
          exact absurd c_32 (by decide)
theorem dX10_stackIn_0 : decode cX10_stackIn 0 = .ok (.iload_n 0, 1) := by decide +kernel
theorem dX10_stackIn_1 : decode cX10_stackIn 1 = .ok (.sipush 625, 3) := by decide +kernel
theorem dX10_stackIn_4 : decode cX10_stackIn 4 = .ok (.irem, 1) := by decide +kernel
theorem dX10_stackIn_5 : decode cX10_stackIn 5 = .ok (.iload_n 1, 1) := by decide +kernel
theorem dX10_stackIn_6 : decode cX10_stackIn 6 = .ok (.invokestatic 228, 3) := by decide +kernel
theorem dX10_stackIn_9 : decode cX10_stackIn 9 = .ok (.idiv, 1) := by decide +kernel
theorem dX10_stackIn_10 : decode cX10_stackIn 10 = .ok (.iconst 5, 1) := by decide +kernel
theorem dX10_stackIn_11 : decode cX10_stackIn 11 = .ok (.irem, 1) := by decide +kernel
theorem dX10_stackIn_12 : decode cX10_stackIn 12 = .ok (.ireturn, 1) := by decide +kernel
set_option maxHeartbeats 4000000 in
set_option maxRecDepth 100000 in
theorem k_X10_stackIn_0 (l : Launch) (V : GV) (a0 : Int32) (a1 : Int32) (ba0 : iv 0 9999 a0) (ba1 : iv 0 3 a1) : Ct l V yX10_stackIn (.code yX10_stackIn cX10_stackIn 2 (some .int)) 2 [.int a0, .int a1] [] 0 0 (QI V (fun (r : Int32) (w : va_W) => iv 0 4 r ∧ r = stF a0 a1 ∧ w = [])) := by
  refine Ct.of (by decide) (Nat.le_of_ble_eq_true rfl) (fun p e s m below meth c A ls hx hb hr hml hown hlk hnm hg hP hK hD hE hA hS hl => ?_)
  have hl : lv_has ls 2 [(0, .int a0), (1, .int a1)] := hl
  refine lv_iload_n hx hb dX10_stackIn_0 rfl (lv_at hl 0 rfl) ?_
  refine lv_sipush (v := 625) hx hb dX10_stackIn_1 (by decide) ?_
  refine lv_irem hx hb dX10_stackIn_4 (by decide) ?_
  refine lv_topi (fun x_1 ex_1 => ?_)
  have bx_1 : iv 0 624 x_1 := by rw [ex_1]; exact iv_remp ba0 (k := 625) (by decide) (by decide)
  refine lv_iload_n hx hb dX10_stackIn_5 rfl (lv_at hl 1 rfl) ?_
  refine jnI (wr := []) (rnS (rest := [.int x_1]) ⟨hx, hb, hml, hown, hg⟩ (k_X10_digitOf_0 l V a1 ba1) mt_X10_digitOf q_7_15 ⟨Nat.le_of_ble_eq_true rfl, Nat.le_of_ble_eq_true rfl⟩ hK hP hD hS hA hE [] rfl rfl rfl hl.1 rfl (Nat.le_of_ble_eq_true rfl) dX10_stackIn_6 ⟨Nat.le_of_ble_eq_true rfl, Nat.le_of_ble_eq_true rfl⟩) hP hD hS hA [] [] rfl rfl rfl (by decide) (fun r_2 w H locs hw hP hD hS => ?_)
  rcases hw with ⟨c_3, c_4, c_5, rfl, rfl⟩ | ⟨c_6, c_7, c_8, rfl, rfl⟩ | ⟨c_9, c_10, rfl, rfl⟩ | ⟨c_11, rfl, rfl⟩
  · have hP : va_P V.1 vwCl [] H := hP
    have hD : va_D A [] := hD
    have b_12 : iv 1 3 a1 := iv_n0 c_3 ba1 (iv_c (0 : Int32) (a := 0) (b := 0) (by decide)) (by decide)
    have b_13 : iv 2 3 a1 := iv_n0 c_4 b_12 (iv_c (1 : Int32) (a := 1) (b := 1) (by decide)) (by decide)
    have b_14 : iv 3 3 a1 := iv_n0 c_5 b_13 (iv_c (2 : Int32) (a := 2) (b := 2) (by decide)) (by decide)
    refine lv_idiv hx hb dX10_stackIn_9 (by decide) ?_
    refine lv_topi (fun x_15 ex_15 => ?_)
    have bx_15 : iv 0 4 x_15 := by rw [ex_15]; exact iv_divp bx_1 (k := 125) (by decide) (by decide)
    refine lv_iconst (v := 5) hx hb dX10_stackIn_10 (by decide) ?_
    refine lv_irem hx hb dX10_stackIn_11 (by decide) ?_
    refine lv_topi (fun x_16 ex_16 => ?_)
    have bx_16 : iv 0 4 x_16 := by rw [ex_16]; exact iv_remp bx_15 (k := 5) (by decide) (by decide)
    exact fiI hx hb hr hlk hK hP hD hS dX10_stackIn_12 (Nat.le_of_ble_eq_true rfl) (Nat.le_of_ble_eq_true rfl) (⟨bx_16, (stF_e (dgF_3 c_3 c_4 c_5) ex_1 ex_15 ex_16), rfl⟩)
  · have hP : va_P V.1 vwCl [] H := hP
    have hD : va_D A [] := hD
    have b_17 : iv 1 3 a1 := iv_n0 c_6 ba1 (iv_c (0 : Int32) (a := 0) (b := 0) (by decide)) (by decide)
    have b_18 : iv 2 3 a1 := iv_n0 c_7 b_17 (iv_c (1 : Int32) (a := 1) (b := 1) (by decide)) (by decide)
    have b_19 : iv 2 2 a1 := iv_q c_8 (iv_c (2 : Int32) (a := 2) (b := 2) (by decide))
    refine lv_idiv hx hb dX10_stackIn_9 (by decide) ?_
    refine lv_topi (fun x_20 ex_20 => ?_)
    have bx_20 : iv 0 24 x_20 := by rw [ex_20]; exact iv_divp bx_1 (k := 25) (by decide) (by decide)
    refine lv_iconst (v := 5) hx hb dX10_stackIn_10 (by decide) ?_
    refine lv_irem hx hb dX10_stackIn_11 (by decide) ?_
    refine lv_topi (fun x_21 ex_21 => ?_)
    have bx_21 : iv 0 4 x_21 := by rw [ex_21]; exact iv_remp bx_20 (k := 5) (by decide) (by decide)
    exact fiI hx hb hr hlk hK hP hD hS dX10_stackIn_12 (Nat.le_of_ble_eq_true rfl) (Nat.le_of_ble_eq_true rfl) (⟨bx_21, (stF_e (dgF_2 c_8) ex_1 ex_20 ex_21), rfl⟩)
  · have hP : va_P V.1 vwCl [] H := hP
    have hD : va_D A [] := hD
    have b_22 : iv 1 3 a1 := iv_n0 c_9 ba1 (iv_c (0 : Int32) (a := 0) (b := 0) (by decide)) (by decide)
    have b_23 : iv 1 1 a1 := iv_q c_10 (iv_c (1 : Int32) (a := 1) (b := 1) (by decide))
    refine lv_idiv hx hb dX10_stackIn_9 (by decide) ?_
    refine lv_topi (fun x_24 ex_24 => ?_)
    have bx_24 : iv 0 124 x_24 := by rw [ex_24]; exact iv_divp bx_1 (k := 5) (by decide) (by decide)
    refine lv_iconst (v := 5) hx hb dX10_stackIn_10 (by decide) ?_
    refine lv_irem hx hb dX10_stackIn_11 (by decide) ?_
    refine lv_topi (fun x_25 ex_25 => ?_)
    have bx_25 : iv 0 4 x_25 := by rw [ex_25]; exact iv_remp bx_24 (k := 5) (by decide) (by decide)
    exact fiI hx hb hr hlk hK hP hD hS dX10_stackIn_12 (Nat.le_of_ble_eq_true rfl) (Nat.le_of_ble_eq_true rfl) (⟨bx_25, (stF_e (dgF_1 c_10) ex_1 ex_24 ex_25), rfl⟩)
  · have hP : va_P V.1 vwCl [] H := hP
    have hD : va_D A [] := hD
    have b_26 : iv 0 0 a1 := iv_q c_11 (iv_c (0 : Int32) (a := 0) (b := 0) (by decide))
    refine lv_idiv hx hb dX10_stackIn_9 (by decide) ?_
    refine lv_topi (fun x_27 ex_27 => ?_)
    have bx_27 : iv 0 624 x_27 := by rw [ex_27]; exact iv_divp bx_1 (k := 1) (by decide) (by decide)
    refine lv_iconst (v := 5) hx hb dX10_stackIn_10 (by decide) ?_
    refine lv_irem hx hb dX10_stackIn_11 (by decide) ?_
    refine lv_topi (fun x_28 ex_28 => ?_)
    have bx_28 : iv 0 4 x_28 := by rw [ex_28]; exact iv_remp bx_27 (k := 5) (by decide) (by decide)
    exact fiI hx hb hr hlk hK hP hD hS dX10_stackIn_12 (Nat.le_of_ble_eq_true rfl) (Nat.le_of_ble_eq_true rfl) (⟨bx_28, (stF_e (dgF_0 c_11) ex_1 ex_27 ex_28), rfl⟩)
theorem dX10_tookIn_0 : decode cX10_tookIn 0 = .ok (.iload_n 0, 1) := by decide +kernel
theorem dX10_tookIn_1 : decode cX10_tookIn 1 = .ok (.sipush 625, 3) := by decide +kernel
theorem dX10_tookIn_4 : decode cX10_tookIn 4 = .ok (.idiv, 1) := by decide +kernel
theorem dX10_tookIn_5 : decode cX10_tookIn 5 = .ok (.ireturn, 1) := by decide +kernel
set_option maxHeartbeats 4000000 in
set_option maxRecDepth 100000 in
theorem k_X10_tookIn_0 (l : Launch) (V : GV) (a0 : Int32) (ba0 : iv 0 9999 a0) : Ct l V yX10_tookIn (.code yX10_tookIn cX10_tookIn 1 (some .int)) 1 [.int a0] [] 0 0 (QI V (fun (r : Int32) (w : va_W) => iv 0 15 r ∧ w = [])) := by
  refine Ct.of (by decide) (Nat.le_of_ble_eq_true rfl) (fun p e s m below meth c A ls hx hb hr hml hown hlk hnm hg hP hK hD hE hA hS hl => ?_)
  have hl : lv_has ls 1 [(0, .int a0)] := hl
  refine lv_iload_n hx hb dX10_tookIn_0 rfl (lv_at hl 0 rfl) ?_
  refine lv_sipush (v := 625) hx hb dX10_tookIn_1 (by decide) ?_
  refine lv_idiv hx hb dX10_tookIn_4 (by decide) ?_
  refine lv_topi (fun x_1 ex_1 => ?_)
  have bx_1 : iv 0 15 x_1 := by rw [ex_1]; exact iv_divp ba0 (k := 625) (by decide) (by decide)
  exact fiI hx hb hr hlk hK hP hD hS dX10_tookIn_5 (Nat.le_of_ble_eq_true rfl) (Nat.le_of_ble_eq_true rfl) (⟨bx_1, rfl⟩)
theorem dX10_isIn_0 : decode cX10_isIn 0 = .ok (.lload_n 0, 1) := by decide +kernel
theorem dX10_isIn_1 : decode cX10_isIn 1 = .ok (.iload_n 2, 1) := by decide +kernel
theorem dX10_isIn_2 : decode cX10_isIn 2 = .ok (.lshr, 1) := by decide +kernel
theorem dX10_isIn_3 : decode cX10_isIn 3 = .ok (.lconst 1, 1) := by decide +kernel
theorem dX10_isIn_4 : decode cX10_isIn 4 = .ok (.land, 1) := by decide +kernel
theorem dX10_isIn_5 : decode cX10_isIn 5 = .ok (.lconst 1, 1) := by decide +kernel
theorem dX10_isIn_6 : decode cX10_isIn 6 = .ok (.lcmp, 1) := by decide +kernel
theorem dX10_isIn_7 : decode cX10_isIn 7 = .ok (.ifCond .ne 7, 3) := by decide +kernel
theorem dX10_isIn_14 : decode cX10_isIn 14 = .ok (.iconst 0, 1) := by decide +kernel
theorem dX10_isIn_15 : decode cX10_isIn 15 = .ok (.ireturn, 1) := by decide +kernel
theorem dX10_isIn_10 : decode cX10_isIn 10 = .ok (.iconst 1, 1) := by decide +kernel
theorem dX10_isIn_11 : decode cX10_isIn 11 = .ok (.goto 4, 3) := by decide +kernel
set_option maxHeartbeats 4000000 in
set_option maxRecDepth 100000 in
theorem k_X10_isIn_0 (l : Launch) (V : GV) (k0 : Int64) (a1 : Int32) (ba1 : iv 0 31 a1) : Ct l V yX10_isIn (.code yX10_isIn cX10_isIn 3 (some .boolean)) 1 [.long k0, .int a1] [] 0 0 (QI V (fun (r : Int32) (w : va_W) => iv 0 1 r ∧ w = [])) := by
  refine Ct.of (by decide) (Nat.le_of_ble_eq_true rfl) (fun p e s m below meth c A ls hx hb hr hml hown hlk hnm hg hP hK hD hE hA hS hl => ?_)
  have hl : lv_has ls 3 [(0, .long k0), (2, .int a1)] := hl
  refine lv_lload_n hx hb dX10_isIn_0 rfl (lv_at hl 0 rfl) ?_
  refine lv_iload_n hx hb dX10_isIn_1 rfl (lv_at hl 1 rfl) ?_
  refine lv_lshr hx hb dX10_isIn_2 rfl ?_
  refine lv_topl (fun j_1 ej_1 => ?_)
  refine lv_lconst (v := 1) hx hb dX10_isIn_3 (by decide) ?_
  refine lv_land hx hb dX10_isIn_4 ?_
  refine lv_topl (fun j_2 ej_2 => ?_)
  refine lv_lconst (v := 1) hx hb dX10_isIn_5 (by decide) ?_
  refine W.lcmp hx hb dX10_isIn_6 ?_
  refine lv_if_ne (tgt := 14) hx hb dX10_isIn_7 (by decide) (fun c_3 => ?_) (fun c_3 => ?_)
  · replace c_3 : ¬ j_2 = (1 : Int64) := fun z => c_3 ((lg_cmp_eq _ _).mpr z)
    refine lv_iconst (v := 0) hx hb dX10_isIn_14 (by decide) ?_
    exact fiZ rfl hx hb hr hlk hK hP hD hS dX10_isIn_15 (Nat.le_of_ble_eq_true rfl) (Nat.le_of_ble_eq_true rfl) (⟨(iv_c (0 : Int32) (by decide)), rfl⟩)
  · replace c_3 : j_2 = (1 : Int64) := (lg_cmp_eq _ _).mp c_3
    have b_4 : ivL 1 1 j_2 := ivL_q c_3 (ivL_c (1 : Int64) (a := 1) (b := 1) (by decide))
    refine lv_iconst (v := 1) hx hb dX10_isIn_10 (by decide) ?_
    refine lv_goto (tgt := 15) hx hb dX10_isIn_11 (by decide) ?_
    exact fiZ rfl hx hb hr hlk hK hP hD hS dX10_isIn_15 (Nat.le_of_ble_eq_true rfl) (Nat.le_of_ble_eq_true rfl) (⟨(iv_c (1 : Int32) (by decide)), rfl⟩)
theorem dX10_laysWords_0 : decode cX10_laysWords 0 = .ok (.aload_n 0, 1) := by decide +kernel
theorem q_6_0 : Cond.fieldLink "BeaconDelayModel" 33 "BeaconDelayModel" "words" "[I" ∈ gw := gw_6 (i := 0) (by decide +kernel) rfl
theorem dX10_laysWords_1 : decode cX10_laysWords 1 = .ok (.getfield 33, 3) := by decide +kernel
theorem dX10_laysWords_4 : decode cX10_laysWords 4 = .ok (.iconst 0, 1) := by decide +kernel
theorem dX10_laysWords_5 : decode cX10_laysWords 5 = .ok (.iload_n 2, 1) := by decide +kernel
theorem dX10_laysWords_6 : decode cX10_laysWords 6 = .ok (.iastore, 1) := by decide +kernel
theorem dX10_laysWords_7 : decode cX10_laysWords 7 = .ok (.aload_n 0, 1) := by decide +kernel
theorem dX10_laysWords_8 : decode cX10_laysWords 8 = .ok (.getfield 33, 3) := by decide +kernel
theorem dX10_laysWords_11 : decode cX10_laysWords 11 = .ok (.iconst 1, 1) := by decide +kernel
theorem dX10_laysWords_12 : decode cX10_laysWords 12 = .ok (.iload_n 1, 1) := by decide +kernel
theorem dX10_laysWords_13 : decode cX10_laysWords 13 = .ok (.iload_n 2, 1) := by decide +kernel
theorem q_7_28 : Cond.code yX10_stackIn prog_12_method_38_code 2 (some FieldType.int) ∈ gw := gw_7 (i := 28) (rfl) rfl
theorem q_7_27 : Cond.static yX10_stackIn ∈ gw := gw_7 (i := 27) (by decide +kernel) rfl
theorem mt_X10_stackIn : MtS yX10_stackIn cX10_stackIn 2 (some .int) 2 := ⟨⟨q_7_28, q_1_9, by decide +kernel, by decide +kernel, by decide +kernel⟩, q_7_27⟩
theorem q_7_26 : Cond.methodLink "BeaconDelayModel" 231 yX10_stackIn ∈ gw := gw_7 (i := 26) (by decide +kernel) rfl
theorem dX10_laysWords_14 : decode cX10_laysWords 14 = .ok (.invokestatic 231, 3) := by decide +kernel
theorem dX10_laysWords_17 : decode cX10_laysWords 17 = .ok (.iastore, 1) := by decide +kernel
theorem dX10_laysWords_18 : decode cX10_laysWords 18 = .ok (.aload_n 0, 1) := by decide +kernel
theorem dX10_laysWords_19 : decode cX10_laysWords 19 = .ok (.getfield 33, 3) := by decide +kernel
theorem dX10_laysWords_22 : decode cX10_laysWords 22 = .ok (.iconst 2, 1) := by decide +kernel
theorem dX10_laysWords_23 : decode cX10_laysWords 23 = .ok (.iload_n 2, 1) := by decide +kernel
theorem dX10_laysWords_24 : decode cX10_laysWords 24 = .ok (.ifCond .ne 7, 3) := by decide +kernel
theorem dX10_laysWords_31 : decode cX10_laysWords 31 = .ok (.iload_n 1, 1) := by decide +kernel
theorem dX10_laysWords_32 : decode cX10_laysWords 32 = .ok (.iload_n 2, 1) := by decide +kernel
theorem dX10_laysWords_33 : decode cX10_laysWords 33 = .ok (.iconst 1, 1) := by decide +kernel
theorem dX10_laysWords_34 : decode cX10_laysWords 34 = .ok (.isub, 1) := by decide +kernel
theorem dX10_laysWords_35 : decode cX10_laysWords 35 = .ok (.invokestatic 231, 3) := by decide +kernel
theorem dX10_laysWords_38 : decode cX10_laysWords 38 = .ok (.iastore, 1) := by decide +kernel
theorem dX10_laysWords_39 : decode cX10_laysWords 39 = .ok (.aload_n 0, 1) := by decide +kernel
theorem dX10_laysWords_40 : decode cX10_laysWords 40 = .ok (.getfield 33, 3) := by decide +kernel
theorem dX10_laysWords_43 : decode cX10_laysWords 43 = .ok (.iconst 3, 1) := by decide +kernel
theorem dX10_laysWords_44 : decode cX10_laysWords 44 = .ok (.iload_n 2, 1) := by decide +kernel
theorem dX10_laysWords_45 : decode cX10_laysWords 45 = .ok (.ifCond .le 26, 3) := by decide +kernel
theorem dX10_laysWords_48 : decode cX10_laysWords 48 = .ok (.iload_n 3, 1) := by decide +kernel
theorem dX10_laysWords_49 : decode cX10_laysWords 49 = .ok (.iload_n 2, 1) := by decide +kernel
theorem dX10_laysWords_50 : decode cX10_laysWords 50 = .ok (.if_icmp .eq 21, 3) := by decide +kernel
theorem dX10_laysWords_71 : decode cX10_laysWords 71 = .ok (.iconst 0, 1) := by decide +kernel
theorem dX10_laysWords_72 : decode cX10_laysWords 72 = .ok (.iastore, 1) := by decide +kernel
theorem dX10_laysWords_73 : decode cX10_laysWords 73 = .ok (.aload_n 0, 1) := by decide +kernel
theorem dX10_laysWords_74 : decode cX10_laysWords 74 = .ok (.getfield 33, 3) := by decide +kernel
theorem dX10_laysWords_77 : decode cX10_laysWords 77 = .ok (.iconst 4, 1) := by decide +kernel
theorem dX10_laysWords_78 : decode cX10_laysWords 78 = .ok (.aload_n 0, 1) := by decide +kernel
theorem dX10_laysWords_79 : decode cX10_laysWords 79 = .ok (.getfield 13, 3) := by decide +kernel
theorem dX10_laysWords_82 : decode cX10_laysWords 82 = .ok (.bipush 10, 2) := by decide +kernel
theorem dX10_laysWords_84 : decode cX10_laysWords 84 = .ok (.iload_n 2, 1) := by decide +kernel
theorem dX10_laysWords_85 : decode cX10_laysWords 85 = .ok (.iadd, 1) := by decide +kernel
theorem dX10_laysWords_86 : decode cX10_laysWords 86 = .ok (.iaload, 1) := by decide +kernel
theorem dX10_laysWords_87 : decode cX10_laysWords 87 = .ok (.iastore, 1) := by decide +kernel
theorem dX10_laysWords_88 : decode cX10_laysWords 88 = .ok (.aload_n 0, 1) := by decide +kernel
theorem dX10_laysWords_89 : decode cX10_laysWords 89 = .ok (.getfield 33, 3) := by decide +kernel
theorem dX10_laysWords_92 : decode cX10_laysWords 92 = .ok (.iconst 5, 1) := by decide +kernel
theorem dX10_laysWords_93 : decode cX10_laysWords 93 = .ok (.iload 4, 2) := by decide +kernel
theorem dX10_laysWords_95 : decode cX10_laysWords 95 = .ok (.iastore, 1) := by decide +kernel
theorem dX10_laysWords_96 : decode cX10_laysWords 96 = .ok (.return_, 1) := by decide +kernel
theorem dX10_laysWords_53 : decode cX10_laysWords 53 = .ok (.iload_n 1, 1) := by decide +kernel
theorem q_7_31 : Cond.code yX10_tookIn prog_12_method_39_code 1 (some FieldType.int) ∈ gw := gw_7 (i := 31) (rfl) rfl
theorem q_7_30 : Cond.static yX10_tookIn ∈ gw := gw_7 (i := 30) (by decide +kernel) rfl
theorem mt_X10_tookIn : MtS yX10_tookIn cX10_tookIn 1 (some .int) 1 := ⟨⟨q_7_31, q_1_9, by decide +kernel, by decide +kernel, by decide +kernel⟩, q_7_30⟩
theorem q_7_29 : Cond.methodLink "BeaconDelayModel" 234 yX10_tookIn ∈ gw := gw_7 (i := 29) (by decide +kernel) rfl
theorem dX10_laysWords_54 : decode cX10_laysWords 54 = .ok (.invokestatic 234, 3) := by decide +kernel
theorem dX10_laysWords_57 : decode cX10_laysWords 57 = .ok (.i2l, 1) := by decide +kernel
theorem dX10_laysWords_58 : decode cX10_laysWords 58 = .ok (.iload_n 2, 1) := by decide +kernel
theorem dX10_laysWords_59 : decode cX10_laysWords 59 = .ok (.iconst 1, 1) := by decide +kernel
theorem dX10_laysWords_60 : decode cX10_laysWords 60 = .ok (.isub, 1) := by decide +kernel
theorem q_7_34 : Cond.code yX10_isIn prog_12_method_15_code 3 (some FieldType.boolean) ∈ gw := gw_7 (i := 34) (rfl) rfl
theorem q_7_33 : Cond.static yX10_isIn ∈ gw := gw_7 (i := 33) (by decide +kernel) rfl
theorem mt_X10_isIn : MtS yX10_isIn cX10_isIn 3 (some .boolean) 2 := ⟨⟨q_7_34, q_1_9, by decide +kernel, by decide +kernel, by decide +kernel⟩, q_7_33⟩
theorem q_7_32 : Cond.methodLink "BeaconDelayModel" 244 yX10_isIn ∈ gw := gw_7 (i := 32) (by decide +kernel) rfl
theorem dX10_laysWords_61 : decode cX10_laysWords 61 = .ok (.invokestatic 244, 3) := by decide +kernel
theorem dX10_laysWords_64 : decode cX10_laysWords 64 = .ok (.ifCond .eq 7, 3) := by decide +kernel
theorem dX10_laysWords_67 : decode cX10_laysWords 67 = .ok (.iconst 1, 1) := by decide +kernel
theorem dX10_laysWords_68 : decode cX10_laysWords 68 = .ok (.goto 4, 3) := by decide +kernel
theorem dX10_laysWords_27 : decode cX10_laysWords 27 = .ok (.iconst 0, 1) := by decide +kernel
theorem dX10_laysWords_28 : decode cX10_laysWords 28 = .ok (.goto 10, 3) := by decide +kernel
set_option maxHeartbeats 4000000 in
set_option maxRecDepth 100000 in
theorem k_X10_laysWords_0 (l : Launch) (V : GV) (z : Nat → Nat) (a1 : Int32) (a2 : Int32) (a3 : Int32) (a4 : Int32) (fz16 : Nat → Int32) (pz0_0 : Int32) (pz0_5 : Int32) (pz0_6 : Int32) (pz0_7 : Int32) (pz0_8 : Int32) (pz0_9 : Int32) (pz0_10 : Int32) (pz0_11 : Int32) (pz0_12 : Int32) (pz0_13 : Int32) (pz0_14 : Int32) (pz0_18 : Int32) (pz0_19 : Int32) (pz0_22 : Int32) (pz0_23 : Int32) (pz0_29 : Int32) (fz1 : Nat → Int32) (ba1 : iv 0 9999 a1) (ba2 : iv 0 3 a2) (tfz16 : ivT tW fz16) (bpz0_5 : iv 0 900 pz0_5) (bpz0_6 : iv 0 900 pz0_6) (bpz0_7 : iv 0 900 pz0_7) (bpz0_8 : iv 0 900 pz0_8) (bpz0_10 : iv 0 999 pz0_10) (bpz0_11 : iv 0 4 pz0_11) (bpz0_12 : iv 0 900 pz0_12) (bpz0_13 : iv 0 4 pz0_13) (bpz0_14 : iv (-1) 900 pz0_14) (bpz0_18 : iv 0 2 pz0_18) (bpz0_22 : iv 0 9999 pz0_22) (bpz0_29 : iv 0 10000 pz0_29) (tfz1 : ivT tA fz1) : Ct l V yX10_laysWords (.code yX10_laysWords cX10_laysWords 5 none) 3 [.ref (z 0), .int a1, .int a2, .int a3, .int a4] [(z 16, aI V 6 fz16), (z 0, .inr (10, mo z pz0_0 pz0_5 pz0_6 pz0_7 pz0_8 pz0_9 pz0_10 pz0_11 pz0_12 pz0_13 pz0_14 pz0_18 pz0_19 pz0_22 pz0_23 pz0_29)), (z 1, aI V 3075 fz1)] 0 0 (QV V (fun (w : va_W) => ∃ (g0 : Nat → Int32), (ivT tW g0) ∧ w = [(z 16, aI V 6 g0), (z 0, .inr (10, mo z pz0_0 pz0_5 pz0_6 pz0_7 pz0_8 pz0_9 pz0_10 pz0_11 pz0_12 pz0_13 pz0_14 pz0_18 pz0_19 pz0_22 pz0_23 pz0_29)), (z 1, aI V 3075 fz1)])) := by
  refine Ct.of (by decide) (Nat.le_of_ble_eq_true rfl) (fun p e s m below meth c A ls hx hb hr hml hown hlk hnm hg hP hK hD hE hA hS hl => ?_)
  have hl : lv_has ls 5 [(0, .ref (z 0)), (1, .int a1), (2, .int a2), (3, .int a3), (4, .int a4)] := hl
  refine lv_aload_n hx hb dX10_laysWords_0 rfl (lv_at hl 0 rfl) ?_
  refine va_get (ci := 10) (v := .ref (z 16)) (C := RX10) (T := TX10) (N := 40) hx hb hg inX10 hown hK hP 1 rfl rfl 16 (by decide) (hg _ q_6_0) (fun _ h9 => h9) rfl dX10_laysWords_1 ?_
  refine lv_iconst (v := 0) hx hb dX10_laysWords_4 (by decide) ?_
  refine lv_iload_n hx hb dX10_laysWords_5 rfl (lv_at hl 2 rfl) ?_
  refine va_iast hx hb hK hP hD hS 0 0 rfl rfl (vin (by decide +kernel)) dX10_laysWords_6 (fun H locs hP hD hS => ?_)
  obtain ⟨f_1, ef_1, tf_1, hP, hD⟩ : ∃ f_1 : Nat → Int32, f_1 = (upd fz16 (0 : Int32).toNatClampNeg a2) ∧ (ivT tW f_1) ∧ va_P V.1 vwCl [(z 16, aI V 6 f_1), (z 0, .inr (10, mo z pz0_0 pz0_5 pz0_6 pz0_7 pz0_8 pz0_9 pz0_10 pz0_11 pz0_12 pz0_13 pz0_14 pz0_18 pz0_19 pz0_22 pz0_23 pz0_29)), (z 1, aI V 3075 fz1)] H ∧ va_D A [(z 16, aI V 6 f_1), (z 0, .inr (10, mo z pz0_0 pz0_5 pz0_6 pz0_7 pz0_8 pz0_9 pz0_10 pz0_11 pz0_12 pz0_13 pz0_14 pz0_18 pz0_19 pz0_22 pz0_23 pz0_29)), (z 1, aI V 3075 fz1)] := ⟨_, rfl, upT (lo := (-2147483648)) (hi := 2147483647) (a := 0) (n := 1) tfz16 (iv_c (0 : Int32) (a := 0) (b := 0) (by decide)) (by decide) (iv_w ba2 (by decide)) (by decide +kernel), hP, hD⟩
  refine lv_aload_n hx hb dX10_laysWords_7 rfl (lv_at hl 0 rfl) ?_
  refine va_get (ci := 10) (v := .ref (z 16)) (C := RX10) (T := TX10) (N := 40) hx hb hg inX10 hown hK hP 1 rfl rfl 16 (by decide) (hg _ q_6_0) (fun _ h9 => h9) rfl dX10_laysWords_8 ?_
  refine lv_iconst (v := 1) hx hb dX10_laysWords_11 (by decide) ?_
  refine lv_iload_n hx hb dX10_laysWords_12 rfl (lv_at hl 1 rfl) ?_
  refine lv_iload_n hx hb dX10_laysWords_13 rfl (lv_at hl 2 rfl) ?_
  refine jnI (wr := [(z 16, aI V 6 f_1), (z 0, .inr (10, mo z pz0_0 pz0_5 pz0_6 pz0_7 pz0_8 pz0_9 pz0_10 pz0_11 pz0_12 pz0_13 pz0_14 pz0_18 pz0_19 pz0_22 pz0_23 pz0_29)), (z 1, aI V 3075 fz1)]) (rnS (rest := [.int 1, .ref (z 16)]) ⟨hx, hb, hml, hown, hg⟩ (k_X10_stackIn_0 l V a1 a2 ba1 ba2) mt_X10_stackIn q_7_26 ⟨Nat.le_of_ble_eq_true rfl, Nat.le_of_ble_eq_true rfl⟩ hK hP hD hS hA hE [] rfl rfl rfl hl.1 rfl (Nat.le_of_ble_eq_true rfl) dX10_laysWords_14 ⟨Nat.le_of_ble_eq_true rfl, Nat.le_of_ble_eq_true rfl⟩) hP hD hS hA [] [0, 1, 2] rfl rfl rfl (by decide) (fun r_2 w H locs hw hP hD hS => ?_)
  obtain ⟨br_2, er_2, rfl⟩ := hw
  have hP : va_P V.1 vwCl [(z 16, aI V 6 f_1), (z 0, .inr (10, mo z pz0_0 pz0_5 pz0_6 pz0_7 pz0_8 pz0_9 pz0_10 pz0_11 pz0_12 pz0_13 pz0_14 pz0_18 pz0_19 pz0_22 pz0_23 pz0_29)), (z 1, aI V 3075 fz1)] H := hP
  have hD : va_D A [(z 16, aI V 6 f_1), (z 0, .inr (10, mo z pz0_0 pz0_5 pz0_6 pz0_7 pz0_8 pz0_9 pz0_10 pz0_11 pz0_12 pz0_13 pz0_14 pz0_18 pz0_19 pz0_22 pz0_23 pz0_29)), (z 1, aI V 3075 fz1)] := hD
  refine va_iast hx hb hK hP hD hS 0 0 rfl rfl (vin (by decide +kernel)) dX10_laysWords_17 (fun H locs hP hD hS => ?_)
  obtain ⟨f_3, ef_3, tf_3, hP, hD⟩ : ∃ f_3 : Nat → Int32, f_3 = (upd f_1 (1 : Int32).toNatClampNeg r_2) ∧ (ivT tW f_3) ∧ va_P V.1 vwCl [(z 16, aI V 6 f_3), (z 0, .inr (10, mo z pz0_0 pz0_5 pz0_6 pz0_7 pz0_8 pz0_9 pz0_10 pz0_11 pz0_12 pz0_13 pz0_14 pz0_18 pz0_19 pz0_22 pz0_23 pz0_29)), (z 1, aI V 3075 fz1)] H ∧ va_D A [(z 16, aI V 6 f_3), (z 0, .inr (10, mo z pz0_0 pz0_5 pz0_6 pz0_7 pz0_8 pz0_9 pz0_10 pz0_11 pz0_12 pz0_13 pz0_14 pz0_18 pz0_19 pz0_22 pz0_23 pz0_29)), (z 1, aI V 3075 fz1)] := ⟨_, rfl, upT (lo := 0) (hi := 4) (a := 1) (n := 1) tf_1 (iv_c (1 : Int32) (a := 1) (b := 1) (by decide)) (by decide) br_2 (by decide +kernel), hP, hD⟩
  refine lv_aload_n hx hb dX10_laysWords_18 rfl (lv_at hl 0 rfl) ?_
  refine va_get (ci := 10) (v := .ref (z 16)) (C := RX10) (T := TX10) (N := 40) hx hb hg inX10 hown hK hP 1 rfl rfl 16 (by decide) (hg _ q_6_0) (fun _ h9 => h9) rfl dX10_laysWords_19 ?_
  refine lv_iconst (v := 2) hx hb dX10_laysWords_22 (by decide) ?_
  refine lv_iload_n hx hb dX10_laysWords_23 rfl (lv_at hl 2 rfl) ?_
  refine lv_if_ne (tgt := 31) hx hb dX10_laysWords_24 (by decide) (fun c_4 => ?_) (fun c_4 => ?_)
  · have b_5 : iv 1 3 a2 := iv_n0 c_4 ba2 (iv_c (0 : Int32) (a := 0) (b := 0) (by decide)) (by decide)
    refine lv_iload_n hx hb dX10_laysWords_31 rfl (lv_at hl 1 rfl) ?_
    refine lv_iload_n hx hb dX10_laysWords_32 rfl (lv_at hl 2 rfl) ?_
    refine lv_iconst (v := 1) hx hb dX10_laysWords_33 (by decide) ?_
    refine lv_isub hx hb dX10_laysWords_34 ?_
    refine lv_topi (fun x_6 ex_6 => ?_)
    have bx_6 : iv 0 2 x_6 := by rw [ex_6]; exact iv_sub b_5 (iv_c (1 : Int32) (a := 1) (b := 1) (by decide)) (by decide)
    refine jnI (wr := [(z 16, aI V 6 f_3), (z 0, .inr (10, mo z pz0_0 pz0_5 pz0_6 pz0_7 pz0_8 pz0_9 pz0_10 pz0_11 pz0_12 pz0_13 pz0_14 pz0_18 pz0_19 pz0_22 pz0_23 pz0_29)), (z 1, aI V 3075 fz1)]) (rnS (rest := [.int 2, .ref (z 16)]) ⟨hx, hb, hml, hown, hg⟩ (k_X10_stackIn_0 l V a1 x_6 ba1 (iv_w bx_6 (by decide))) mt_X10_stackIn q_7_26 ⟨Nat.le_of_ble_eq_true rfl, Nat.le_of_ble_eq_true rfl⟩ hK hP hD hS hA hE [] rfl rfl rfl hl.1 rfl (Nat.le_of_ble_eq_true rfl) dX10_laysWords_35 ⟨Nat.le_of_ble_eq_true rfl, Nat.le_of_ble_eq_true rfl⟩) hP hD hS hA [] [0, 1, 2] rfl rfl rfl (by decide) (fun r_7 w H locs hw hP hD hS => ?_)
    obtain ⟨br_7, er_7, rfl⟩ := hw
    have hP : va_P V.1 vwCl [(z 16, aI V 6 f_3), (z 0, .inr (10, mo z pz0_0 pz0_5 pz0_6 pz0_7 pz0_8 pz0_9 pz0_10 pz0_11 pz0_12 pz0_13 pz0_14 pz0_18 pz0_19 pz0_22 pz0_23 pz0_29)), (z 1, aI V 3075 fz1)] H := hP
    have hD : va_D A [(z 16, aI V 6 f_3), (z 0, .inr (10, mo z pz0_0 pz0_5 pz0_6 pz0_7 pz0_8 pz0_9 pz0_10 pz0_11 pz0_12 pz0_13 pz0_14 pz0_18 pz0_19 pz0_22 pz0_23 pz0_29)), (z 1, aI V 3075 fz1)] := hD
    refine va_iast hx hb hK hP hD hS 0 0 rfl rfl (vin (by decide +kernel)) dX10_laysWords_38 (fun H locs hP hD hS => ?_)
    obtain ⟨f_8, ef_8, tf_8, hP, hD⟩ : ∃ f_8 : Nat → Int32, f_8 = (upd f_3 (2 : Int32).toNatClampNeg r_7) ∧ (ivT tW f_8) ∧ va_P V.1 vwCl [(z 16, aI V 6 f_8), (z 0, .inr (10, mo z pz0_0 pz0_5 pz0_6 pz0_7 pz0_8 pz0_9 pz0_10 pz0_11 pz0_12 pz0_13 pz0_14 pz0_18 pz0_19 pz0_22 pz0_23 pz0_29)), (z 1, aI V 3075 fz1)] H ∧ va_D A [(z 16, aI V 6 f_8), (z 0, .inr (10, mo z pz0_0 pz0_5 pz0_6 pz0_7 pz0_8 pz0_9 pz0_10 pz0_11 pz0_12 pz0_13 pz0_14 pz0_18 pz0_19 pz0_22 pz0_23 pz0_29)), (z 1, aI V 3075 fz1)] := ⟨_, rfl, upT (lo := (-2147483648)) (hi := 2147483647) (a := 2) (n := 1) tf_3 (iv_c (2 : Int32) (a := 2) (b := 2) (by decide)) (by decide) (iv_w br_7 (by decide)) (by decide +kernel), hP, hD⟩
    refine lv_aload_n hx hb dX10_laysWords_39 rfl (lv_at hl 0 rfl) ?_
    refine va_get (ci := 10) (v := .ref (z 16)) (C := RX10) (T := TX10) (N := 40) hx hb hg inX10 hown hK hP 1 rfl rfl 16 (by decide) (hg _ q_6_0) (fun _ h9 => h9) rfl dX10_laysWords_40 ?_
    refine lv_iconst (v := 3) hx hb dX10_laysWords_43 (by decide) ?_
    refine lv_iload_n hx hb dX10_laysWords_44 rfl (lv_at hl 2 rfl) ?_
    refine lv_if_le (tgt := 71) hx hb dX10_laysWords_45 (by decide) (fun c_9 => absurd c_9 (iv_nle b_5 (iv_c (0 : Int32) (a := 0) (b := 0) (by decide)) (by decide))) (fun _ => ?_)
    refine lv_iload_n hx hb dX10_laysWords_48 rfl (lv_at hl 3 rfl) ?_
    refine lv_iload_n hx hb dX10_laysWords_49 rfl (lv_at hl 2 rfl) ?_
    refine lv_icmp_eq (tgt := 71) hx hb dX10_laysWords_50 (by decide) (fun c_10 => ?_) (fun c_10 => ?_)
    · have b_11 : iv 1 3 a3 := iv_q c_10 b_5
      refine lv_iconst (v := 0) hx hb dX10_laysWords_71 (by decide) ?_
      refine va_iast hx hb hK hP hD hS 0 0 rfl rfl (vin (by decide +kernel)) dX10_laysWords_72 (fun H locs hP hD hS => ?_)
      obtain ⟨f_12, ef_12, tf_12, hP, hD⟩ : ∃ f_12 : Nat → Int32, f_12 = (upd f_8 (3 : Int32).toNatClampNeg 0) ∧ (ivT tW f_12) ∧ va_P V.1 vwCl [(z 16, aI V 6 f_12), (z 0, .inr (10, mo z pz0_0 pz0_5 pz0_6 pz0_7 pz0_8 pz0_9 pz0_10 pz0_11 pz0_12 pz0_13 pz0_14 pz0_18 pz0_19 pz0_22 pz0_23 pz0_29)), (z 1, aI V 3075 fz1)] H ∧ va_D A [(z 16, aI V 6 f_12), (z 0, .inr (10, mo z pz0_0 pz0_5 pz0_6 pz0_7 pz0_8 pz0_9 pz0_10 pz0_11 pz0_12 pz0_13 pz0_14 pz0_18 pz0_19 pz0_22 pz0_23 pz0_29)), (z 1, aI V 3075 fz1)] := ⟨_, rfl, upT (lo := (-2147483648)) (hi := 2147483647) (a := 3) (n := 1) tf_8 (iv_c (3 : Int32) (a := 3) (b := 3) (by decide)) (by decide) (iv_c (0 : Int32) (by decide)) (by decide +kernel), hP, hD⟩
      refine lv_aload_n hx hb dX10_laysWords_73 rfl (lv_at hl 0 rfl) ?_
      refine va_get (ci := 10) (v := .ref (z 16)) (C := RX10) (T := TX10) (N := 40) hx hb hg inX10 hown hK hP 1 rfl rfl 16 (by decide) (hg _ q_6_0) (fun _ h9 => h9) rfl dX10_laysWords_74 ?_
      refine lv_iconst (v := 4) hx hb dX10_laysWords_77 (by decide) ?_
      refine lv_aload_n hx hb dX10_laysWords_78 rfl (lv_at hl 0 rfl) ?_
      refine va_get (ci := 10) (v := .ref (z 1)) (C := RX10) (T := TX10) (N := 40) hx hb hg inX10 hown hK hP 1 rfl rfl 1 (by decide) (hg _ q_5_225) (fun _ h9 => h9) rfl dX10_laysWords_79 ?_
      refine lv_bipush (v := 10) hx hb dX10_laysWords_82 (by decide) ?_
      refine lv_iload_n hx hb dX10_laysWords_84 rfl (lv_at hl 2 rfl) ?_
      refine lv_iadd hx hb dX10_laysWords_85 ?_
      refine lv_topi (fun x_13 ex_13 => ?_)
      have bx_13 : iv 11 13 x_13 := by rw [ex_13]; exact iv_add (iv_c (10 : Int32) (a := 10) (b := 10) (by decide)) b_5 (by decide)
      refine va_iald hx hb hK hP 2 0 rfl rfl (iv_in bx_13 (by decide)) dX10_laysWords_86 ?_
      refine lv_topi (fun x_14 ex_14 => ?_)
      have bx_14 : iv 0 9 x_14 := by rw [ex_14]; exact rdT (a := 11) (n := 3) tfz1 bx_13 (by decide) (by decide +kernel)
      refine va_iast hx hb hK hP hD hS 0 0 rfl rfl (vin (by decide +kernel)) dX10_laysWords_87 (fun H locs hP hD hS => ?_)
      obtain ⟨f_15, ef_15, tf_15, hP, hD⟩ : ∃ f_15 : Nat → Int32, f_15 = (upd f_12 (4 : Int32).toNatClampNeg x_14) ∧ (ivT tW f_15) ∧ va_P V.1 vwCl [(z 16, aI V 6 f_15), (z 0, .inr (10, mo z pz0_0 pz0_5 pz0_6 pz0_7 pz0_8 pz0_9 pz0_10 pz0_11 pz0_12 pz0_13 pz0_14 pz0_18 pz0_19 pz0_22 pz0_23 pz0_29)), (z 1, aI V 3075 fz1)] H ∧ va_D A [(z 16, aI V 6 f_15), (z 0, .inr (10, mo z pz0_0 pz0_5 pz0_6 pz0_7 pz0_8 pz0_9 pz0_10 pz0_11 pz0_12 pz0_13 pz0_14 pz0_18 pz0_19 pz0_22 pz0_23 pz0_29)), (z 1, aI V 3075 fz1)] := ⟨_, rfl, upT (lo := (-2147483648)) (hi := 2147483647) (a := 4) (n := 1) tf_12 (iv_c (4 : Int32) (a := 4) (b := 4) (by decide)) (by decide) (iv_w bx_14 (by decide)) (by decide +kernel), hP, hD⟩
      refine lv_aload_n hx hb dX10_laysWords_88 rfl (lv_at hl 0 rfl) ?_
      refine va_get (ci := 10) (v := .ref (z 16)) (C := RX10) (T := TX10) (N := 40) hx hb hg inX10 hown hK hP 1 rfl rfl 16 (by decide) (hg _ q_6_0) (fun _ h9 => h9) rfl dX10_laysWords_89 ?_
      refine lv_iconst (v := 5) hx hb dX10_laysWords_92 (by decide) ?_
      refine lv_iload hx hb dX10_laysWords_93 (lv_at hl 4 rfl) ?_
      refine va_iast hx hb hK hP hD hS 0 0 rfl rfl (vin (by decide +kernel)) dX10_laysWords_95 (fun H locs hP hD hS => ?_)
      obtain ⟨f_16, ef_16, tf_16, hP, hD⟩ : ∃ f_16 : Nat → Int32, f_16 = (upd f_15 (5 : Int32).toNatClampNeg a4) ∧ (ivT tW f_16) ∧ va_P V.1 vwCl [(z 16, aI V 6 f_16), (z 0, .inr (10, mo z pz0_0 pz0_5 pz0_6 pz0_7 pz0_8 pz0_9 pz0_10 pz0_11 pz0_12 pz0_13 pz0_14 pz0_18 pz0_19 pz0_22 pz0_23 pz0_29)), (z 1, aI V 3075 fz1)] H ∧ va_D A [(z 16, aI V 6 f_16), (z 0, .inr (10, mo z pz0_0 pz0_5 pz0_6 pz0_7 pz0_8 pz0_9 pz0_10 pz0_11 pz0_12 pz0_13 pz0_14 pz0_18 pz0_19 pz0_22 pz0_23 pz0_29)), (z 1, aI V 3075 fz1)] := ⟨_, rfl, upT (lo := (-2147483648)) (hi := 2147483647) (a := 5) (n := 1) tf_15 (iv_c (5 : Int32) (a := 5) (b := 5) (by decide)) (by decide) (iv_top a4) (by decide +kernel), hP, hD⟩
      exact fiV hx hb hr hlk hK hP hD hS dX10_laysWords_96 (Nat.le_of_ble_eq_true rfl) (Nat.le_of_ble_eq_true rfl) (⟨f_16, tf_16, rfl⟩)
    · refine lv_iload_n hx hb dX10_laysWords_53 rfl (lv_at hl 1 rfl) ?_
      refine jnI (wr := [(z 16, aI V 6 f_8), (z 0, .inr (10, mo z pz0_0 pz0_5 pz0_6 pz0_7 pz0_8 pz0_9 pz0_10 pz0_11 pz0_12 pz0_13 pz0_14 pz0_18 pz0_19 pz0_22 pz0_23 pz0_29)), (z 1, aI V 3075 fz1)]) (rnS (rest := [.int 3, .ref (z 16)]) ⟨hx, hb, hml, hown, hg⟩ (k_X10_tookIn_0 l V a1 ba1) mt_X10_tookIn q_7_29 ⟨Nat.le_of_ble_eq_true rfl, Nat.le_of_ble_eq_true rfl⟩ hK hP hD hS hA hE [] rfl rfl rfl hl.1 rfl (Nat.le_of_ble_eq_true rfl) dX10_laysWords_54 ⟨Nat.le_of_ble_eq_true rfl, Nat.le_of_ble_eq_true rfl⟩) hP hD hS hA [] [0, 1, 2] rfl rfl rfl (by decide) (fun r_17 w H locs hw hP hD hS => ?_)
      obtain ⟨br_17, rfl⟩ := hw
      have hP : va_P V.1 vwCl [(z 16, aI V 6 f_8), (z 0, .inr (10, mo z pz0_0 pz0_5 pz0_6 pz0_7 pz0_8 pz0_9 pz0_10 pz0_11 pz0_12 pz0_13 pz0_14 pz0_18 pz0_19 pz0_22 pz0_23 pz0_29)), (z 1, aI V 3075 fz1)] H := hP
      have hD : va_D A [(z 16, aI V 6 f_8), (z 0, .inr (10, mo z pz0_0 pz0_5 pz0_6 pz0_7 pz0_8 pz0_9 pz0_10 pz0_11 pz0_12 pz0_13 pz0_14 pz0_18 pz0_19 pz0_22 pz0_23 pz0_29)), (z 1, aI V 3075 fz1)] := hD
      refine lv_i2l hx hb dX10_laysWords_57 rfl ?_
      refine lv_topl (fun j_18 ej_18 => ?_)
      have bj_18 : ivL 0 15 j_18 := by rw [ej_18]; exact ivL_of br_17
      refine lv_iload_n hx hb dX10_laysWords_58 rfl (lv_at hl 2 rfl) ?_
      refine lv_iconst (v := 1) hx hb dX10_laysWords_59 (by decide) ?_
      refine lv_isub hx hb dX10_laysWords_60 ?_
      refine tpi (y := x_6) ex_6.symm ?_
      refine jnI (wr := [(z 16, aI V 6 f_8), (z 0, .inr (10, mo z pz0_0 pz0_5 pz0_6 pz0_7 pz0_8 pz0_9 pz0_10 pz0_11 pz0_12 pz0_13 pz0_14 pz0_18 pz0_19 pz0_22 pz0_23 pz0_29)), (z 1, aI V 3075 fz1)]) (rnS (rest := [.int 3, .ref (z 16)]) ⟨hx, hb, hml, hown, hg⟩ (k_X10_isIn_0 l V j_18 x_6 (iv_w bx_6 (by decide))) mt_X10_isIn q_7_32 ⟨Nat.le_of_ble_eq_true rfl, Nat.le_of_ble_eq_true rfl⟩ hK hP hD hS hA hE [] rfl rfl rfl hl.1 rfl (Nat.le_of_ble_eq_true rfl) dX10_laysWords_61 ⟨Nat.le_of_ble_eq_true rfl, Nat.le_of_ble_eq_true rfl⟩) hP hD hS hA [] [0, 1, 2] rfl rfl rfl (by decide) (fun r_19 w H locs hw hP hD hS => ?_)
      obtain ⟨br_19, rfl⟩ := hw
      have hP : va_P V.1 vwCl [(z 16, aI V 6 f_8), (z 0, .inr (10, mo z pz0_0 pz0_5 pz0_6 pz0_7 pz0_8 pz0_9 pz0_10 pz0_11 pz0_12 pz0_13 pz0_14 pz0_18 pz0_19 pz0_22 pz0_23 pz0_29)), (z 1, aI V 3075 fz1)] H := hP
      have hD : va_D A [(z 16, aI V 6 f_8), (z 0, .inr (10, mo z pz0_0 pz0_5 pz0_6 pz0_7 pz0_8 pz0_9 pz0_10 pz0_11 pz0_12 pz0_13 pz0_14 pz0_18 pz0_19 pz0_22 pz0_23 pz0_29)), (z 1, aI V 3075 fz1)] := hD
      refine lv_if_eq (tgt := 71) hx hb dX10_laysWords_64 (by decide) (fun c_20 => ?_) (fun c_20 => ?_)
      · have b_21 : iv 0 0 r_19 := iv_q c_20 (iv_c (0 : Int32) (a := 0) (b := 0) (by decide))
        refine lv_iconst (v := 0) hx hb dX10_laysWords_71 (by decide) ?_
        refine va_iast hx hb hK hP hD hS 0 0 rfl rfl (vin (by decide +kernel)) dX10_laysWords_72 (fun H locs hP hD hS => ?_)
        obtain ⟨f_22, ef_22, tf_22, hP, hD⟩ : ∃ f_22 : Nat → Int32, f_22 = (upd f_8 (3 : Int32).toNatClampNeg 0) ∧ (ivT tW f_22) ∧ va_P V.1 vwCl [(z 16, aI V 6 f_22), (z 0, .inr (10, mo z pz0_0 pz0_5 pz0_6 pz0_7 pz0_8 pz0_9 pz0_10 pz0_11 pz0_12 pz0_13 pz0_14 pz0_18 pz0_19 pz0_22 pz0_23 pz0_29)), (z 1, aI V 3075 fz1)] H ∧ va_D A [(z 16, aI V 6 f_22), (z 0, .inr (10, mo z pz0_0 pz0_5 pz0_6 pz0_7 pz0_8 pz0_9 pz0_10 pz0_11 pz0_12 pz0_13 pz0_14 pz0_18 pz0_19 pz0_22 pz0_23 pz0_29)), (z 1, aI V 3075 fz1)] := ⟨_, rfl, upT (lo := (-2147483648)) (hi := 2147483647) (a := 3) (n := 1) tf_8 (iv_c (3 : Int32) (a := 3) (b := 3) (by decide)) (by decide) (iv_c (0 : Int32) (by decide)) (by decide +kernel), hP, hD⟩
        refine lv_aload_n hx hb dX10_laysWords_73 rfl (lv_at hl 0 rfl) ?_
        refine va_get (ci := 10) (v := .ref (z 16)) (C := RX10) (T := TX10) (N := 40) hx hb hg inX10 hown hK hP 1 rfl rfl 16 (by decide) (hg _ q_6_0) (fun _ h9 => h9) rfl dX10_laysWords_74 ?_
        refine lv_iconst (v := 4) hx hb dX10_laysWords_77 (by decide) ?_
        refine lv_aload_n hx hb dX10_laysWords_78 rfl (lv_at hl 0 rfl) ?_
        refine va_get (ci := 10) (v := .ref (z 1)) (C := RX10) (T := TX10) (N := 40) hx hb hg inX10 hown hK hP 1 rfl rfl 1 (by decide) (hg _ q_5_225) (fun _ h9 => h9) rfl dX10_laysWords_79 ?_
        refine lv_bipush (v := 10) hx hb dX10_laysWords_82 (by decide) ?_
        refine lv_iload_n hx hb dX10_laysWords_84 rfl (lv_at hl 2 rfl) ?_
        refine lv_iadd hx hb dX10_laysWords_85 ?_
        refine lv_topi (fun x_23 ex_23 => ?_)
        have bx_23 : iv 11 13 x_23 := by rw [ex_23]; exact iv_add (iv_c (10 : Int32) (a := 10) (b := 10) (by decide)) b_5 (by decide)
        refine va_iald hx hb hK hP 2 0 rfl rfl (iv_in bx_23 (by decide)) dX10_laysWords_86 ?_
        refine lv_topi (fun x_24 ex_24 => ?_)
        have bx_24 : iv 0 9 x_24 := by rw [ex_24]; exact rdT (a := 11) (n := 3) tfz1 bx_23 (by decide) (by decide +kernel)
        refine va_iast hx hb hK hP hD hS 0 0 rfl rfl (vin (by decide +kernel)) dX10_laysWords_87 (fun H locs hP hD hS => ?_)
        obtain ⟨f_25, ef_25, tf_25, hP, hD⟩ : ∃ f_25 : Nat → Int32, f_25 = (upd f_22 (4 : Int32).toNatClampNeg x_24) ∧ (ivT tW f_25) ∧ va_P V.1 vwCl [(z 16, aI V 6 f_25), (z 0, .inr (10, mo z pz0_0 pz0_5 pz0_6 pz0_7 pz0_8 pz0_9 pz0_10 pz0_11 pz0_12 pz0_13 pz0_14 pz0_18 pz0_19 pz0_22 pz0_23 pz0_29)), (z 1, aI V 3075 fz1)] H ∧ va_D A [(z 16, aI V 6 f_25), (z 0, .inr (10, mo z pz0_0 pz0_5 pz0_6 pz0_7 pz0_8 pz0_9 pz0_10 pz0_11 pz0_12 pz0_13 pz0_14 pz0_18 pz0_19 pz0_22 pz0_23 pz0_29)), (z 1, aI V 3075 fz1)] := ⟨_, rfl, upT (lo := (-2147483648)) (hi := 2147483647) (a := 4) (n := 1) tf_22 (iv_c (4 : Int32) (a := 4) (b := 4) (by decide)) (by decide) (iv_w bx_24 (by decide)) (by decide +kernel), hP, hD⟩
        refine lv_aload_n hx hb dX10_laysWords_88 rfl (lv_at hl 0 rfl) ?_
        refine va_get (ci := 10) (v := .ref (z 16)) (C := RX10) (T := TX10) (N := 40) hx hb hg inX10 hown hK hP 1 rfl rfl 16 (by decide) (hg _ q_6_0) (fun _ h9 => h9) rfl dX10_laysWords_89 ?_
        refine lv_iconst (v := 5) hx hb dX10_laysWords_92 (by decide) ?_
        refine lv_iload hx hb dX10_laysWords_93 (lv_at hl 4 rfl) ?_
        refine va_iast hx hb hK hP hD hS 0 0 rfl rfl (vin (by decide +kernel)) dX10_laysWords_95 (fun H locs hP hD hS => ?_)
        obtain ⟨f_26, ef_26, tf_26, hP, hD⟩ : ∃ f_26 : Nat → Int32, f_26 = (upd f_25 (5 : Int32).toNatClampNeg a4) ∧ (ivT tW f_26) ∧ va_P V.1 vwCl [(z 16, aI V 6 f_26), (z 0, .inr (10, mo z pz0_0 pz0_5 pz0_6 pz0_7 pz0_8 pz0_9 pz0_10 pz0_11 pz0_12 pz0_13 pz0_14 pz0_18 pz0_19 pz0_22 pz0_23 pz0_29)), (z 1, aI V 3075 fz1)] H ∧ va_D A [(z 16, aI V 6 f_26), (z 0, .inr (10, mo z pz0_0 pz0_5 pz0_6 pz0_7 pz0_8 pz0_9 pz0_10 pz0_11 pz0_12 pz0_13 pz0_14 pz0_18 pz0_19 pz0_22 pz0_23 pz0_29)), (z 1, aI V 3075 fz1)] := ⟨_, rfl, upT (lo := (-2147483648)) (hi := 2147483647) (a := 5) (n := 1) tf_25 (iv_c (5 : Int32) (a := 5) (b := 5) (by decide)) (by decide) (iv_top a4) (by decide +kernel), hP, hD⟩
        exact fiV hx hb hr hlk hK hP hD hS dX10_laysWords_96 (Nat.le_of_ble_eq_true rfl) (Nat.le_of_ble_eq_true rfl) (⟨f_26, tf_26, rfl⟩)
      · have b_27 : iv 1 1 r_19 := iv_n0 c_20 br_19 (iv_c (0 : Int32) (a := 0) (b := 0) (by decide)) (by decide)
        refine lv_iconst (v := 1) hx hb dX10_laysWords_67 (by decide) ?_
        refine lv_goto (tgt := 72) hx hb dX10_laysWords_68 (by decide) ?_
        refine va_iast hx hb hK hP hD hS 0 0 rfl rfl (vin (by decide +kernel)) dX10_laysWords_72 (fun H locs hP hD hS => ?_)
        obtain ⟨f_28, ef_28, tf_28, hP, hD⟩ : ∃ f_28 : Nat → Int32, f_28 = (upd f_8 (3 : Int32).toNatClampNeg 1) ∧ (ivT tW f_28) ∧ va_P V.1 vwCl [(z 16, aI V 6 f_28), (z 0, .inr (10, mo z pz0_0 pz0_5 pz0_6 pz0_7 pz0_8 pz0_9 pz0_10 pz0_11 pz0_12 pz0_13 pz0_14 pz0_18 pz0_19 pz0_22 pz0_23 pz0_29)), (z 1, aI V 3075 fz1)] H ∧ va_D A [(z 16, aI V 6 f_28), (z 0, .inr (10, mo z pz0_0 pz0_5 pz0_6 pz0_7 pz0_8 pz0_9 pz0_10 pz0_11 pz0_12 pz0_13 pz0_14 pz0_18 pz0_19 pz0_22 pz0_23 pz0_29)), (z 1, aI V 3075 fz1)] := ⟨_, rfl, upT (lo := (-2147483648)) (hi := 2147483647) (a := 3) (n := 1) tf_8 (iv_c (3 : Int32) (a := 3) (b := 3) (by decide)) (by decide) (iv_c (1 : Int32) (by decide)) (by decide +kernel), hP, hD⟩
        refine lv_aload_n hx hb dX10_laysWords_73 rfl (lv_at hl 0 rfl) ?_
        refine va_get (ci := 10) (v := .ref (z 16)) (C := RX10) (T := TX10) (N := 40) hx hb hg inX10 hown hK hP 1 rfl rfl 16 (by decide) (hg _ q_6_0) (fun _ h9 => h9) rfl dX10_laysWords_74 ?_
        refine lv_iconst (v := 4) hx hb dX10_laysWords_77 (by decide) ?_
        refine lv_aload_n hx hb dX10_laysWords_78 rfl (lv_at hl 0 rfl) ?_
        refine va_get (ci := 10) (v := .ref (z 1)) (C := RX10) (T := TX10) (N := 40) hx hb hg inX10 hown hK hP 1 rfl rfl 1 (by decide) (hg _ q_5_225) (fun _ h9 => h9) rfl dX10_laysWords_79 ?_
        refine lv_bipush (v := 10) hx hb dX10_laysWords_82 (by decide) ?_
        refine lv_iload_n hx hb dX10_laysWords_84 rfl (lv_at hl 2 rfl) ?_
        refine lv_iadd hx hb dX10_laysWords_85 ?_
        refine lv_topi (fun x_29 ex_29 => ?_)
        have bx_29 : iv 11 13 x_29 := by rw [ex_29]; exact iv_add (iv_c (10 : Int32) (a := 10) (b := 10) (by decide)) b_5 (by decide)
        refine va_iald hx hb hK hP 2 0 rfl rfl (iv_in bx_29 (by decide)) dX10_laysWords_86 ?_
        refine lv_topi (fun x_30 ex_30 => ?_)
        have bx_30 : iv 0 9 x_30 := by rw [ex_30]; exact rdT (a := 11) (n := 3) tfz1 bx_29 (by decide) (by decide +kernel)
        refine va_iast hx hb hK hP hD hS 0 0 rfl rfl (vin (by decide +kernel)) dX10_laysWords_87 (fun H locs hP hD hS => ?_)
        obtain ⟨f_31, ef_31, tf_31, hP, hD⟩ : ∃ f_31 : Nat → Int32, f_31 = (upd f_28 (4 : Int32).toNatClampNeg x_30) ∧ (ivT tW f_31) ∧ va_P V.1 vwCl [(z 16, aI V 6 f_31), (z 0, .inr (10, mo z pz0_0 pz0_5 pz0_6 pz0_7 pz0_8 pz0_9 pz0_10 pz0_11 pz0_12 pz0_13 pz0_14 pz0_18 pz0_19 pz0_22 pz0_23 pz0_29)), (z 1, aI V 3075 fz1)] H ∧ va_D A [(z 16, aI V 6 f_31), (z 0, .inr (10, mo z pz0_0 pz0_5 pz0_6 pz0_7 pz0_8 pz0_9 pz0_10 pz0_11 pz0_12 pz0_13 pz0_14 pz0_18 pz0_19 pz0_22 pz0_23 pz0_29)), (z 1, aI V 3075 fz1)] := ⟨_, rfl, upT (lo := (-2147483648)) (hi := 2147483647) (a := 4) (n := 1) tf_28 (iv_c (4 : Int32) (a := 4) (b := 4) (by decide)) (by decide) (iv_w bx_30 (by decide)) (by decide +kernel), hP, hD⟩
        refine lv_aload_n hx hb dX10_laysWords_88 rfl (lv_at hl 0 rfl) ?_
        refine va_get (ci := 10) (v := .ref (z 16)) (C := RX10) (T := TX10) (N := 40) hx hb hg inX10 hown hK hP 1 rfl rfl 16 (by decide) (hg _ q_6_0) (fun _ h9 => h9) rfl dX10_laysWords_89 ?_
        refine lv_iconst (v := 5) hx hb dX10_laysWords_92 (by decide) ?_
        refine lv_iload hx hb dX10_laysWords_93 (lv_at hl 4 rfl) ?_
        refine va_iast hx hb hK hP hD hS 0 0 rfl rfl (vin (by decide +kernel)) dX10_laysWords_95 (fun H locs hP hD hS => ?_)
        obtain ⟨f_32, ef_32, tf_32, hP, hD⟩ : ∃ f_32 : Nat → Int32, f_32 = (upd f_31 (5 : Int32).toNatClampNeg a4) ∧ (ivT tW f_32) ∧ va_P V.1 vwCl [(z 16, aI V 6 f_32), (z 0, .inr (10, mo z pz0_0 pz0_5 pz0_6 pz0_7 pz0_8 pz0_9 pz0_10 pz0_11 pz0_12 pz0_13 pz0_14 pz0_18 pz0_19 pz0_22 pz0_23 pz0_29)), (z 1, aI V 3075 fz1)] H ∧ va_D A [(z 16, aI V 6 f_32), (z 0, .inr (10, mo z pz0_0 pz0_5 pz0_6 pz0_7 pz0_8 pz0_9 pz0_10 pz0_11 pz0_12 pz0_13 pz0_14 pz0_18 pz0_19 pz0_22 pz0_23 pz0_29)), (z 1, aI V 3075 fz1)] := ⟨_, rfl, upT (lo := (-2147483648)) (hi := 2147483647) (a := 5) (n := 1) tf_31 (iv_c (5 : Int32) (a := 5) (b := 5) (by decide)) (by decide) (iv_top a4) (by decide +kernel), hP, hD⟩
        exact fiV hx hb hr hlk hK hP hD hS dX10_laysWords_96 (Nat.le_of_ble_eq_true rfl) (Nat.le_of_ble_eq_true rfl) (⟨f_32, tf_32, rfl⟩)
  · have b_33 : iv 0 0 a2 := iv_q c_4 (iv_c (0 : Int32) (a := 0) (b := 0) (by decide))
    refine lv_iconst (v := 0) hx hb dX10_laysWords_27 (by decide) ?_
    refine lv_goto (tgt := 38) hx hb dX10_laysWords_28 (by decide) ?_
    refine va_iast hx hb hK hP hD hS 0 0 rfl rfl (vin (by decide +kernel)) dX10_laysWords_38 (fun H locs hP hD hS => ?_)
    obtain ⟨f_34, ef_34, tf_34, hP, hD⟩ : ∃ f_34 : Nat → Int32, f_34 = (upd f_3 (2 : Int32).toNatClampNeg 0) ∧ (ivT tW f_34) ∧ va_P V.1 vwCl [(z 16, aI V 6 f_34), (z 0, .inr (10, mo z pz0_0 pz0_5 pz0_6 pz0_7 pz0_8 pz0_9 pz0_10 pz0_11 pz0_12 pz0_13 pz0_14 pz0_18 pz0_19 pz0_22 pz0_23 pz0_29)), (z 1, aI V 3075 fz1)] H ∧ va_D A [(z 16, aI V 6 f_34), (z 0, .inr (10, mo z pz0_0 pz0_5 pz0_6 pz0_7 pz0_8 pz0_9 pz0_10 pz0_11 pz0_12 pz0_13 pz0_14 pz0_18 pz0_19 pz0_22 pz0_23 pz0_29)), (z 1, aI V 3075 fz1)] := ⟨_, rfl, upT (lo := (-2147483648)) (hi := 2147483647) (a := 2) (n := 1) tf_3 (iv_c (2 : Int32) (a := 2) (b := 2) (by decide)) (by decide) (iv_c (0 : Int32) (by decide)) (by decide +kernel), hP, hD⟩
    refine lv_aload_n hx hb dX10_laysWords_39 rfl (lv_at hl 0 rfl) ?_
    refine va_get (ci := 10) (v := .ref (z 16)) (C := RX10) (T := TX10) (N := 40) hx hb hg inX10 hown hK hP 1 rfl rfl 16 (by decide) (hg _ q_6_0) (fun _ h9 => h9) rfl dX10_laysWords_40 ?_
    refine lv_iconst (v := 3) hx hb dX10_laysWords_43 (by decide) ?_
    refine lv_iload_n hx hb dX10_laysWords_44 rfl (lv_at hl 2 rfl) ?_
    refine lv_if_le (tgt := 71) hx hb dX10_laysWords_45 (by decide) (fun _ => ?_) (fun c_35 => absurd (iv_le b_33 (iv_c (0 : Int32) (a := 0) (b := 0) (by decide)) (by decide)) c_35)
    refine lv_iconst (v := 0) hx hb dX10_laysWords_71 (by decide) ?_
    refine va_iast hx hb hK hP hD hS 0 0 rfl rfl (vin (by decide +kernel)) dX10_laysWords_72 (fun H locs hP hD hS => ?_)
    obtain ⟨f_36, ef_36, tf_36, hP, hD⟩ : ∃ f_36 : Nat → Int32, f_36 = (upd f_34 (3 : Int32).toNatClampNeg 0) ∧ (ivT tW f_36) ∧ va_P V.1 vwCl [(z 16, aI V 6 f_36), (z 0, .inr (10, mo z pz0_0 pz0_5 pz0_6 pz0_7 pz0_8 pz0_9 pz0_10 pz0_11 pz0_12 pz0_13 pz0_14 pz0_18 pz0_19 pz0_22 pz0_23 pz0_29)), (z 1, aI V 3075 fz1)] H ∧ va_D A [(z 16, aI V 6 f_36), (z 0, .inr (10, mo z pz0_0 pz0_5 pz0_6 pz0_7 pz0_8 pz0_9 pz0_10 pz0_11 pz0_12 pz0_13 pz0_14 pz0_18 pz0_19 pz0_22 pz0_23 pz0_29)), (z 1, aI V 3075 fz1)] := ⟨_, rfl, upT (lo := (-2147483648)) (hi := 2147483647) (a := 3) (n := 1) tf_34 (iv_c (3 : Int32) (a := 3) (b := 3) (by decide)) (by decide) (iv_c (0 : Int32) (by decide)) (by decide +kernel), hP, hD⟩
    refine lv_aload_n hx hb dX10_laysWords_73 rfl (lv_at hl 0 rfl) ?_
    refine va_get (ci := 10) (v := .ref (z 16)) (C := RX10) (T := TX10) (N := 40) hx hb hg inX10 hown hK hP 1 rfl rfl 16 (by decide) (hg _ q_6_0) (fun _ h9 => h9) rfl dX10_laysWords_74 ?_
    refine lv_iconst (v := 4) hx hb dX10_laysWords_77 (by decide) ?_
    refine lv_aload_n hx hb dX10_laysWords_78 rfl (lv_at hl 0 rfl) ?_
    refine va_get (ci := 10) (v := .ref (z 1)) (C := RX10) (T := TX10) (N := 40) hx hb hg inX10 hown hK hP 1 rfl rfl 1 (by decide) (hg _ q_5_225) (fun _ h9 => h9) rfl dX10_laysWords_79 ?_
    refine lv_bipush (v := 10) hx hb dX10_laysWords_82 (by decide) ?_
    refine lv_iload_n hx hb dX10_laysWords_84 rfl (lv_at hl 2 rfl) ?_
    refine lv_iadd hx hb dX10_laysWords_85 ?_
    refine lv_topi (fun x_37 ex_37 => ?_)
    have bx_37 : iv 10 10 x_37 := by rw [ex_37]; exact iv_add (iv_c (10 : Int32) (a := 10) (b := 10) (by decide)) b_33 (by decide)
    refine va_iald hx hb hK hP 2 0 rfl rfl (iv_in bx_37 (by decide)) dX10_laysWords_86 ?_
    refine lv_topi (fun x_38 ex_38 => ?_)
    have bx_38 : iv 0 9 x_38 := by rw [ex_38]; exact rdT (a := 10) (n := 1) tfz1 bx_37 (by decide) (by decide +kernel)
    refine va_iast hx hb hK hP hD hS 0 0 rfl rfl (vin (by decide +kernel)) dX10_laysWords_87 (fun H locs hP hD hS => ?_)
    obtain ⟨f_39, ef_39, tf_39, hP, hD⟩ : ∃ f_39 : Nat → Int32, f_39 = (upd f_36 (4 : Int32).toNatClampNeg x_38) ∧ (ivT tW f_39) ∧ va_P V.1 vwCl [(z 16, aI V 6 f_39), (z 0, .inr (10, mo z pz0_0 pz0_5 pz0_6 pz0_7 pz0_8 pz0_9 pz0_10 pz0_11 pz0_12 pz0_13 pz0_14 pz0_18 pz0_19 pz0_22 pz0_23 pz0_29)), (z 1, aI V 3075 fz1)] H ∧ va_D A [(z 16, aI V 6 f_39), (z 0, .inr (10, mo z pz0_0 pz0_5 pz0_6 pz0_7 pz0_8 pz0_9 pz0_10 pz0_11 pz0_12 pz0_13 pz0_14 pz0_18 pz0_19 pz0_22 pz0_23 pz0_29)), (z 1, aI V 3075 fz1)] := ⟨_, rfl, upT (lo := (-2147483648)) (hi := 2147483647) (a := 4) (n := 1) tf_36 (iv_c (4 : Int32) (a := 4) (b := 4) (by decide)) (by decide) (iv_w bx_38 (by decide)) (by decide +kernel), hP, hD⟩
    refine lv_aload_n hx hb dX10_laysWords_88 rfl (lv_at hl 0 rfl) ?_
    refine va_get (ci := 10) (v := .ref (z 16)) (C := RX10) (T := TX10) (N := 40) hx hb hg inX10 hown hK hP 1 rfl rfl 16 (by decide) (hg _ q_6_0) (fun _ h9 => h9) rfl dX10_laysWords_89 ?_
    refine lv_iconst (v := 5) hx hb dX10_laysWords_92 (by decide) ?_
    refine lv_iload hx hb dX10_laysWords_93 (lv_at hl 4 rfl) ?_
    refine va_iast hx hb hK hP hD hS 0 0 rfl rfl (vin (by decide +kernel)) dX10_laysWords_95 (fun H locs hP hD hS => ?_)
    obtain ⟨f_40, ef_40, tf_40, hP, hD⟩ : ∃ f_40 : Nat → Int32, f_40 = (upd f_39 (5 : Int32).toNatClampNeg a4) ∧ (ivT tW f_40) ∧ va_P V.1 vwCl [(z 16, aI V 6 f_40), (z 0, .inr (10, mo z pz0_0 pz0_5 pz0_6 pz0_7 pz0_8 pz0_9 pz0_10 pz0_11 pz0_12 pz0_13 pz0_14 pz0_18 pz0_19 pz0_22 pz0_23 pz0_29)), (z 1, aI V 3075 fz1)] H ∧ va_D A [(z 16, aI V 6 f_40), (z 0, .inr (10, mo z pz0_0 pz0_5 pz0_6 pz0_7 pz0_8 pz0_9 pz0_10 pz0_11 pz0_12 pz0_13 pz0_14 pz0_18 pz0_19 pz0_22 pz0_23 pz0_29)), (z 1, aI V 3075 fz1)] := ⟨_, rfl, upT (lo := (-2147483648)) (hi := 2147483647) (a := 5) (n := 1) tf_39 (iv_c (5 : Int32) (a := 5) (b := 5) (by decide)) (by decide) (iv_top a4) (by decide +kernel), hP, hD⟩
    exact fiV hx hb hr hlk hK hP hD hS dX10_laysWords_96 (Nat.le_of_ble_eq_true rfl) (Nat.le_of_ble_eq_true rfl) (⟨f_40, tf_40, rfl⟩)
theorem dX10_between_0 : decode cX10_between 0 = .ok (.iload_n 0, 1) := by decide +kernel
theorem dX10_between_1 : decode cX10_between 1 = .ok (.tableswitch 80 3003 3008 #[39, 50, 61, 80, 72, 76], 39) := by decide +kernel
theorem dX10_between_40 : decode cX10_between 40 = .ok (.iload_n 1, 1) := by decide +kernel
theorem dX10_between_41 : decode cX10_between 41 = .ok (.iload_n 2, 1) := by decide +kernel
theorem dX10_between_42 : decode cX10_between 42 = .ok (.if_icmp .ne 7, 3) := by decide +kernel
theorem dX10_between_49 : decode cX10_between 49 = .ok (.iconst 0, 1) := by decide +kernel
theorem dX10_between_50 : decode cX10_between 50 = .ok (.ireturn, 1) := by decide +kernel
theorem dX10_between_45 : decode cX10_between 45 = .ok (.iconst 1, 1) := by decide +kernel
theorem dX10_between_46 : decode cX10_between 46 = .ok (.goto 4, 3) := by decide +kernel
theorem dX10_between_51 : decode cX10_between 51 = .ok (.iload_n 1, 1) := by decide +kernel
theorem dX10_between_52 : decode cX10_between 52 = .ok (.iload_n 2, 1) := by decide +kernel
theorem dX10_between_53 : decode cX10_between 53 = .ok (.if_icmp .ge 7, 3) := by decide +kernel
theorem dX10_between_60 : decode cX10_between 60 = .ok (.iconst 0, 1) := by decide +kernel
theorem dX10_between_61 : decode cX10_between 61 = .ok (.ireturn, 1) := by decide +kernel
theorem dX10_between_56 : decode cX10_between 56 = .ok (.iconst 1, 1) := by decide +kernel
theorem dX10_between_57 : decode cX10_between 57 = .ok (.goto 4, 3) := by decide +kernel
theorem dX10_between_62 : decode cX10_between 62 = .ok (.iload_n 1, 1) := by decide +kernel
theorem dX10_between_63 : decode cX10_between 63 = .ok (.iload_n 2, 1) := by decide +kernel
theorem dX10_between_64 : decode cX10_between 64 = .ok (.if_icmp .le 7, 3) := by decide +kernel
theorem dX10_between_71 : decode cX10_between 71 = .ok (.iconst 0, 1) := by decide +kernel
theorem dX10_between_72 : decode cX10_between 72 = .ok (.ireturn, 1) := by decide +kernel
theorem dX10_between_67 : decode cX10_between 67 = .ok (.iconst 1, 1) := by decide +kernel
theorem dX10_between_68 : decode cX10_between 68 = .ok (.goto 4, 3) := by decide +kernel
theorem dX10_between_81 : decode cX10_between 81 = .ok (.iload_n 0, 1) := by decide +kernel
theorem dX10_between_82 : decode cX10_between 82 = .ok (.sipush 3000, 3) := by decide +kernel
theorem dX10_between_85 : decode cX10_between 85 = .ok (.if_icmp .ne 11, 3) := by decide +kernel
theorem dX10_between_96 : decode cX10_between 96 = .ok (.iload_n 0, 1) := by decide +kernel
theorem dX10_between_97 : decode cX10_between 97 = .ok (.sipush 3001, 3) := by decide +kernel
theorem dX10_between_100 : decode cX10_between 100 = .ok (.if_icmp .ne 11, 3) := by decide +kernel
theorem dX10_between_111 : decode cX10_between 111 = .ok (.iload_n 1, 1) := by decide +kernel
theorem dX10_between_112 : decode cX10_between 112 = .ok (.i2l, 1) := by decide +kernel
theorem dX10_between_113 : decode cX10_between 113 = .ok (.iload_n 2, 1) := by decide +kernel
theorem dX10_between_114 : decode cX10_between 114 = .ok (.i2l, 1) := by decide +kernel
theorem dX10_between_115 : decode cX10_between 115 = .ok (.lmul, 1) := by decide +kernel
theorem dX10_between_116 : decode cX10_between 116 = .ok (.lstore_n 3, 1) := by decide +kernel
theorem dX10_between_117 : decode cX10_between 117 = .ok (.lload_n 3, 1) := by decide +kernel
theorem q_7_46 : Cond.constantLong "BeaconDelayModel" 237 (1000000 : Int64) ∈ gw := gw_7 (i := 46) (by decide +kernel) rfl
theorem dX10_between_118 : decode cX10_between 118 = .ok (.ldc2_w 237, 3) := by decide +kernel
theorem dX10_between_121 : decode cX10_between 121 = .ok (.lcmp, 1) := by decide +kernel
theorem dX10_between_122 : decode cX10_between 122 = .ok (.ifCond .le 9, 3) := by decide +kernel
theorem dX10_between_131 : decode cX10_between 131 = .ok (.lload_n 3, 1) := by decide +kernel
theorem q_7_47 : Cond.constantLong "BeaconDelayModel" 239 (-1000000 : Int64) ∈ gw := gw_7 (i := 47) (by decide +kernel) rfl
theorem dX10_between_132 : decode cX10_between 132 = .ok (.ldc2_w 239, 3) := by decide +kernel
theorem dX10_between_135 : decode cX10_between 135 = .ok (.lcmp, 1) := by decide +kernel
theorem dX10_between_136 : decode cX10_between 136 = .ok (.ifCond .ge 9, 3) := by decide +kernel
theorem dX10_between_145 : decode cX10_between 145 = .ok (.lload_n 3, 1) := by decide +kernel
theorem dX10_between_146 : decode cX10_between 146 = .ok (.l2i, 1) := by decide +kernel
theorem dX10_between_147 : decode cX10_between 147 = .ok (.ireturn, 1) := by decide +kernel
theorem dX10_between_139 : decode cX10_between 139 = .ok (.ldc2_w 239, 3) := by decide +kernel
theorem dX10_between_142 : decode cX10_between 142 = .ok (.goto 4, 3) := by decide +kernel
theorem dX10_between_125 : decode cX10_between 125 = .ok (.ldc2_w 237, 3) := by decide +kernel
theorem dX10_between_128 : decode cX10_between 128 = .ok (.goto 18, 3) := by decide +kernel
theorem dX10_between_103 : decode cX10_between 103 = .ok (.iload_n 1, 1) := by decide +kernel
theorem dX10_between_104 : decode cX10_between 104 = .ok (.i2l, 1) := by decide +kernel
theorem dX10_between_105 : decode cX10_between 105 = .ok (.iload_n 2, 1) := by decide +kernel
theorem dX10_between_106 : decode cX10_between 106 = .ok (.i2l, 1) := by decide +kernel
theorem dX10_between_107 : decode cX10_between 107 = .ok (.lsub, 1) := by decide +kernel
theorem dX10_between_108 : decode cX10_between 108 = .ok (.goto 8, 3) := by decide +kernel
theorem dX10_between_88 : decode cX10_between 88 = .ok (.iload_n 1, 1) := by decide +kernel
theorem dX10_between_89 : decode cX10_between 89 = .ok (.i2l, 1) := by decide +kernel
theorem dX10_between_90 : decode cX10_between 90 = .ok (.iload_n 2, 1) := by decide +kernel
theorem dX10_between_91 : decode cX10_between 91 = .ok (.i2l, 1) := by decide +kernel
theorem dX10_between_92 : decode cX10_between 92 = .ok (.ladd, 1) := by decide +kernel
theorem dX10_between_93 : decode cX10_between 93 = .ok (.goto 23, 3) := by decide +kernel
theorem dX10_between_73 : decode cX10_between 73 = .ok (.iload_n 1, 1) := by decide +kernel
theorem dX10_between_74 : decode cX10_between 74 = .ok (.iload_n 2, 1) := by decide +kernel
theorem dX10_between_75 : decode cX10_between 75 = .ok (.iand, 1) := by decide +kernel
theorem dX10_between_76 : decode cX10_between 76 = .ok (.ireturn, 1) := by decide +kernel
theorem dX10_between_77 : decode cX10_between 77 = .ok (.iload_n 1, 1) := by decide +kernel
theorem dX10_between_78 : decode cX10_between 78 = .ok (.iload_n 2, 1) := by decide +kernel
theorem dX10_between_79 : decode cX10_between 79 = .ok (.ior, 1) := by decide +kernel
theorem dX10_between_80 : decode cX10_between 80 = .ok (.ireturn, 1) := by decide +kernel
set_option maxHeartbeats 4000000 in
set_option maxRecDepth 100000 in
theorem k_X10_between_0 (l : Launch) (V : GV) (a0 : Int32) (a1 : Int32) (a2 : Int32) : Ct l V yX10_between (.code yX10_between cX10_between 5 (some .int)) 1 [.int a0, .int a1, .int a2] [] 0 0 (QI V (fun (r : Int32) (w : va_W) => w = [])) := by
  refine Ct.of (by decide) (Nat.le_of_ble_eq_true rfl) (fun p e s m below meth c A ls hx hb hr hml hown hlk hnm hg hP hK hD hE hA hS hl => ?_)
  have hl : lv_has ls 5 [(0, .int a0), (1, .int a1), (2, .int a2)] := hl
  refine lv_iload_n hx hb dX10_between_0 rfl (lv_at hl 0 rfl) ?_
  by_cases c_1 : a0 = 3003
  · refine lv_tableIn (off := 39) (tgt := 40) hx hb dX10_between_1 (by rw [c_1]; decide) (by rw [c_1]; decide) (by rw [c_1]; rfl) (by decide) ?_
    refine lv_iload_n hx hb dX10_between_40 rfl (lv_at hl 1 rfl) ?_
    refine lv_iload_n hx hb dX10_between_41 rfl (lv_at hl 2 rfl) ?_
    refine lv_icmp_ne (tgt := 49) hx hb dX10_between_42 (by decide) (fun c_2 => ?_) (fun c_2 => ?_)
    · refine lv_iconst (v := 0) hx hb dX10_between_49 (by decide) ?_
      exact fiI hx hb hr hlk hK hP hD hS dX10_between_50 (Nat.le_of_ble_eq_true rfl) (Nat.le_of_ble_eq_true rfl) (rfl)
    · refine lv_iconst (v := 1) hx hb dX10_between_45 (by decide) ?_
      refine lv_goto (tgt := 50) hx hb dX10_between_46 (by decide) ?_
      exact fiI hx hb hr hlk hK hP hD hS dX10_between_50 (Nat.le_of_ble_eq_true rfl) (Nat.le_of_ble_eq_true rfl) (rfl)
  · by_cases c_3 : a0 = 3004
    · refine lv_tableIn (off := 50) (tgt := 51) hx hb dX10_between_1 (by rw [c_3]; decide) (by rw [c_3]; decide) (by rw [c_3]; rfl) (by decide) ?_
      refine lv_iload_n hx hb dX10_between_51 rfl (lv_at hl 1 rfl) ?_
      refine lv_iload_n hx hb dX10_between_52 rfl (lv_at hl 2 rfl) ?_
      refine lv_icmp_ge (tgt := 60) hx hb dX10_between_53 (by decide) (fun c_4 => ?_) (fun c_4 => ?_)
      · refine lv_iconst (v := 0) hx hb dX10_between_60 (by decide) ?_
        exact fiI hx hb hr hlk hK hP hD hS dX10_between_61 (Nat.le_of_ble_eq_true rfl) (Nat.le_of_ble_eq_true rfl) (rfl)
      · have b_5 : iv (-2147483648) 2147483646 a1 := iv_l1 (Int32.not_le.mp c_4) (iv_top a1) (iv_top a2) (by decide)
        have b_6 : iv (-2147483647) 2147483647 a2 := iv_l2 (Int32.not_le.mp c_4) (iv_top a1) (iv_top a2) (by decide)
        refine lv_iconst (v := 1) hx hb dX10_between_56 (by decide) ?_
        refine lv_goto (tgt := 61) hx hb dX10_between_57 (by decide) ?_
        exact fiI hx hb hr hlk hK hP hD hS dX10_between_61 (Nat.le_of_ble_eq_true rfl) (Nat.le_of_ble_eq_true rfl) (rfl)
    · by_cases c_7 : a0 = 3005
      · refine lv_tableIn (off := 61) (tgt := 62) hx hb dX10_between_1 (by rw [c_7]; decide) (by rw [c_7]; decide) (by rw [c_7]; rfl) (by decide) ?_
        refine lv_iload_n hx hb dX10_between_62 rfl (lv_at hl 1 rfl) ?_
        refine lv_iload_n hx hb dX10_between_63 rfl (lv_at hl 2 rfl) ?_
        refine lv_icmp_le (tgt := 71) hx hb dX10_between_64 (by decide) (fun c_8 => ?_) (fun c_8 => ?_)
        · refine lv_iconst (v := 0) hx hb dX10_between_71 (by decide) ?_
          exact fiI hx hb hr hlk hK hP hD hS dX10_between_72 (Nat.le_of_ble_eq_true rfl) (Nat.le_of_ble_eq_true rfl) (rfl)
        · have b_9 : iv (-2147483648) 2147483646 a2 := iv_l1 (Int32.not_le.mp c_8) (iv_top a2) (iv_top a1) (by decide)
          have b_10 : iv (-2147483647) 2147483647 a1 := iv_l2 (Int32.not_le.mp c_8) (iv_top a2) (iv_top a1) (by decide)
          refine lv_iconst (v := 1) hx hb dX10_between_67 (by decide) ?_
          refine lv_goto (tgt := 72) hx hb dX10_between_68 (by decide) ?_
          exact fiI hx hb hr hlk hK hP hD hS dX10_between_72 (Nat.le_of_ble_eq_true rfl) (Nat.le_of_ble_eq_true rfl) (rfl)
      · by_cases c_11 : a0 = 3006
        · refine lv_tableIn (off := 80) (tgt := 81) hx hb dX10_between_1 (by rw [c_11]; decide) (by rw [c_11]; decide) (by rw [c_11]; rfl) (by decide) ?_
          refine lv_iload_n hx hb dX10_between_81 rfl (lv_at hl 0 rfl) ?_
          refine lv_sipush (v := 3000) hx hb dX10_between_82 (by decide) ?_
          refine lv_icmp_ne (tgt := 96) hx hb dX10_between_85 (by decide) (fun c_12 => ?_) (fun c_12 => ?_)
          · refine lv_iload_n hx hb dX10_between_96 rfl (lv_at hl 0 rfl) ?_
            refine lv_sipush (v := 3001) hx hb dX10_between_97 (by decide) ?_
            refine lv_icmp_ne (tgt := 111) hx hb dX10_between_100 (by decide) (fun c_13 => ?_) (fun c_13 => ?_)
            · refine lv_iload_n hx hb dX10_between_111 rfl (lv_at hl 1 rfl) ?_
              refine lv_i2l hx hb dX10_between_112 rfl ?_
              refine lv_topl (fun j_14 ej_14 => ?_)
              refine lv_iload_n hx hb dX10_between_113 rfl (lv_at hl 2 rfl) ?_
              refine lv_i2l hx hb dX10_between_114 rfl ?_
              refine lv_topl (fun j_15 ej_15 => ?_)
              refine lv_lmul hx hb dX10_between_115 ?_
              refine lv_topl (fun j_16 ej_16 => ?_)
              refine lv_lstore_n (lv' := [(3, .long j_16), (0, .int a0), (1, .int a1), (2, .int a2)]) hx hb dX10_between_116 rfl hl (by decide) rfl (fun ls hl => ?_)
              refine lv_lload_n hx hb dX10_between_117 rfl (lv_at hl 0 rfl) ?_
              refine lv_ldc2 (v := 1000000) hx hb hown (hg _ q_7_46) dX10_between_118 ?_
              refine W.lcmp hx hb dX10_between_121 ?_
              refine lv_if_le (tgt := 131) hx hb dX10_between_122 (by decide) (fun c_17 => ?_) (fun c_17 => ?_)
              · replace c_17 : j_16 ≤ (1000000 : Int64) := (lg_cmp_le _ _).mp c_17
                have b_18 : ivL (-9223372036854775808) 1000000 j_16 := ivL_e1 c_17 (ivL_top j_16) (ivL_c (1000000 : Int64) (a := 1000000) (b := 1000000) (by decide)) (by decide)
                refine lv_lload_n hx hb dX10_between_131 rfl (lv_at hl 0 rfl) ?_
                refine lv_ldc2 (v := (-1000000)) hx hb hown (hg _ q_7_47) dX10_between_132 ?_
                refine W.lcmp hx hb dX10_between_135 ?_
                refine lv_if_ge (tgt := 145) hx hb dX10_between_136 (by decide) (fun c_19 => ?_) (fun c_19 => ?_)
                · replace c_19 : ((-1000000) : Int64) ≤ j_16 := (lg_cmp_ge _ _).mp c_19
                  have b_20 : ivL (-1000000) 1000000 j_16 := ivL_e2 c_19 (ivL_c ((-1000000) : Int64) (a := (-1000000)) (b := (-1000000)) (by decide)) b_18 (by decide)
                  refine lv_lload_n hx hb dX10_between_145 rfl (lv_at hl 0 rfl) ?_
                  refine lv_l2i hx hb dX10_between_146 rfl ?_
                  refine lv_topi (fun x_21 ex_21 => ?_)
                  have bx_21 : iv (-1000000) 1000000 x_21 := by rw [ex_21]; exact iv_ofL b_20 (by decide)
                  exact fiI hx hb hr hlk hK hP hD hS dX10_between_147 (Nat.le_of_ble_eq_true rfl) (Nat.le_of_ble_eq_true rfl) (rfl)
                · replace c_19 : ¬ ((-1000000) : Int64) ≤ j_16 := fun z => c_19 ((lg_cmp_ge _ _).mpr z)
                  have b_22 : ivL (-9223372036854775808) (-1000001) j_16 := ivL_l1 (Int64.not_le.mp c_19) b_18 (ivL_c ((-1000000) : Int64) (a := (-1000000)) (b := (-1000000)) (by decide)) (by decide)
                  refine lv_ldc2 (v := (-1000000)) hx hb hown (hg _ q_7_47) dX10_between_139 ?_
                  refine lv_goto (tgt := 146) hx hb dX10_between_142 (by decide) ?_
                  refine lv_l2i (v := (-1000000)) hx hb dX10_between_146 (by decide +kernel) ?_
                  exact fiI hx hb hr hlk hK hP hD hS dX10_between_147 (Nat.le_of_ble_eq_true rfl) (Nat.le_of_ble_eq_true rfl) (rfl)
              · replace c_17 : ¬ j_16 ≤ (1000000 : Int64) := fun z => c_17 ((lg_cmp_le _ _).mpr z)
                have b_23 : ivL 1000001 9223372036854775807 j_16 := ivL_l2 (Int64.not_le.mp c_17) (ivL_c (1000000 : Int64) (a := 1000000) (b := 1000000) (by decide)) (ivL_top j_16) (by decide)
                refine lv_ldc2 (v := 1000000) hx hb hown (hg _ q_7_46) dX10_between_125 ?_
                refine lv_goto (tgt := 146) hx hb dX10_between_128 (by decide) ?_
                refine lv_l2i (v := 1000000) hx hb dX10_between_146 (by decide +kernel) ?_
                exact fiI hx hb hr hlk hK hP hD hS dX10_between_147 (Nat.le_of_ble_eq_true rfl) (Nat.le_of_ble_eq_true rfl) (rfl)
            · have b_24 : iv 3001 3001 a0 := iv_q c_13 (iv_c (3001 : Int32) (a := 3001) (b := 3001) (by decide))
              refine lv_iload_n hx hb dX10_between_103 rfl (lv_at hl 1 rfl) ?_
              refine lv_i2l hx hb dX10_between_104 rfl ?_
              refine lv_topl (fun j_25 ej_25 => ?_)
              refine lv_iload_n hx hb dX10_between_105 rfl (lv_at hl 2 rfl) ?_
              refine lv_i2l hx hb dX10_between_106 rfl ?_
              refine lv_topl (fun j_26 ej_26 => ?_)
              refine lv_lsub hx hb dX10_between_107 ?_
              refine lv_topl (fun j_27 ej_27 => ?_)
              refine lv_goto (tgt := 116) hx hb dX10_between_108 (by decide) ?_
              refine lv_lstore_n (lv' := [(3, .long j_27), (0, .int a0), (1, .int a1), (2, .int a2)]) hx hb dX10_between_116 rfl hl (by decide) rfl (fun ls hl => ?_)
              refine lv_lload_n hx hb dX10_between_117 rfl (lv_at hl 0 rfl) ?_
              refine lv_ldc2 (v := 1000000) hx hb hown (hg _ q_7_46) dX10_between_118 ?_
              refine W.lcmp hx hb dX10_between_121 ?_
              refine lv_if_le (tgt := 131) hx hb dX10_between_122 (by decide) (fun c_28 => ?_) (fun c_28 => ?_)
              · replace c_28 : j_27 ≤ (1000000 : Int64) := (lg_cmp_le _ _).mp c_28
                have b_29 : ivL (-9223372036854775808) 1000000 j_27 := ivL_e1 c_28 (ivL_top j_27) (ivL_c (1000000 : Int64) (a := 1000000) (b := 1000000) (by decide)) (by decide)
                refine lv_lload_n hx hb dX10_between_131 rfl (lv_at hl 0 rfl) ?_
                refine lv_ldc2 (v := (-1000000)) hx hb hown (hg _ q_7_47) dX10_between_132 ?_
                refine W.lcmp hx hb dX10_between_135 ?_
                refine lv_if_ge (tgt := 145) hx hb dX10_between_136 (by decide) (fun c_30 => ?_) (fun c_30 => ?_)
                · replace c_30 : ((-1000000) : Int64) ≤ j_27 := (lg_cmp_ge _ _).mp c_30
                  have b_31 : ivL (-1000000) 1000000 j_27 := ivL_e2 c_30 (ivL_c ((-1000000) : Int64) (a := (-1000000)) (b := (-1000000)) (by decide)) b_29 (by decide)
                  refine lv_lload_n hx hb dX10_between_145 rfl (lv_at hl 0 rfl) ?_
                  refine lv_l2i hx hb dX10_between_146 rfl ?_
                  refine lv_topi (fun x_32 ex_32 => ?_)
                  have bx_32 : iv (-1000000) 1000000 x_32 := by rw [ex_32]; exact iv_ofL b_31 (by decide)
                  exact fiI hx hb hr hlk hK hP hD hS dX10_between_147 (Nat.le_of_ble_eq_true rfl) (Nat.le_of_ble_eq_true rfl) (rfl)
                · replace c_30 : ¬ ((-1000000) : Int64) ≤ j_27 := fun z => c_30 ((lg_cmp_ge _ _).mpr z)
                  have b_33 : ivL (-9223372036854775808) (-1000001) j_27 := ivL_l1 (Int64.not_le.mp c_30) b_29 (ivL_c ((-1000000) : Int64) (a := (-1000000)) (b := (-1000000)) (by decide)) (by decide)
                  refine lv_ldc2 (v := (-1000000)) hx hb hown (hg _ q_7_47) dX10_between_139 ?_
                  refine lv_goto (tgt := 146) hx hb dX10_between_142 (by decide) ?_
                  refine lv_l2i (v := (-1000000)) hx hb dX10_between_146 (by decide +kernel) ?_
                  exact fiI hx hb hr hlk hK hP hD hS dX10_between_147 (Nat.le_of_ble_eq_true rfl) (Nat.le_of_ble_eq_true rfl) (rfl)
              · replace c_28 : ¬ j_27 ≤ (1000000 : Int64) := fun z => c_28 ((lg_cmp_le _ _).mpr z)
                have b_34 : ivL 1000001 9223372036854775807 j_27 := ivL_l2 (Int64.not_le.mp c_28) (ivL_c (1000000 : Int64) (a := 1000000) (b := 1000000) (by decide)) (ivL_top j_27) (by decide)
                refine lv_ldc2 (v := 1000000) hx hb hown (hg _ q_7_46) dX10_between_125 ?_
                refine lv_goto (tgt := 146) hx hb dX10_between_128 (by decide) ?_
                refine lv_l2i (v := 1000000) hx hb dX10_between_146 (by decide +kernel) ?_
                exact fiI hx hb hr hlk hK hP hD hS dX10_between_147 (Nat.le_of_ble_eq_true rfl) (Nat.le_of_ble_eq_true rfl) (rfl)
          · have b_35 : iv 3000 3000 a0 := iv_q c_12 (iv_c (3000 : Int32) (a := 3000) (b := 3000) (by decide))
            refine lv_iload_n hx hb dX10_between_88 rfl (lv_at hl 1 rfl) ?_
            refine lv_i2l hx hb dX10_between_89 rfl ?_
            refine lv_topl (fun j_36 ej_36 => ?_)
            refine lv_iload_n hx hb dX10_between_90 rfl (lv_at hl 2 rfl) ?_
            refine lv_i2l hx hb dX10_between_91 rfl ?_
            refine lv_topl (fun j_37 ej_37 => ?_)
            refine lv_ladd hx hb dX10_between_92 ?_
            refine lv_topl (fun j_38 ej_38 => ?_)
            refine lv_goto (tgt := 116) hx hb dX10_between_93 (by decide) ?_
            refine lv_lstore_n (lv' := [(3, .long j_38), (0, .int a0), (1, .int a1), (2, .int a2)]) hx hb dX10_between_116 rfl hl (by decide) rfl (fun ls hl => ?_)
            refine lv_lload_n hx hb dX10_between_117 rfl (lv_at hl 0 rfl) ?_
            refine lv_ldc2 (v := 1000000) hx hb hown (hg _ q_7_46) dX10_between_118 ?_
            refine W.lcmp hx hb dX10_between_121 ?_
            refine lv_if_le (tgt := 131) hx hb dX10_between_122 (by decide) (fun c_39 => ?_) (fun c_39 => ?_)
            · replace c_39 : j_38 ≤ (1000000 : Int64) := (lg_cmp_le _ _).mp c_39
              have b_40 : ivL (-9223372036854775808) 1000000 j_38 := ivL_e1 c_39 (ivL_top j_38) (ivL_c (1000000 : Int64) (a := 1000000) (b := 1000000) (by decide)) (by decide)
              refine lv_lload_n hx hb dX10_between_131 rfl (lv_at hl 0 rfl) ?_
              refine lv_ldc2 (v := (-1000000)) hx hb hown (hg _ q_7_47) dX10_between_132 ?_
              refine W.lcmp hx hb dX10_between_135 ?_
              refine lv_if_ge (tgt := 145) hx hb dX10_between_136 (by decide) (fun c_41 => ?_) (fun c_41 => ?_)
              · replace c_41 : ((-1000000) : Int64) ≤ j_38 := (lg_cmp_ge _ _).mp c_41
                have b_42 : ivL (-1000000) 1000000 j_38 := ivL_e2 c_41 (ivL_c ((-1000000) : Int64) (a := (-1000000)) (b := (-1000000)) (by decide)) b_40 (by decide)
                refine lv_lload_n hx hb dX10_between_145 rfl (lv_at hl 0 rfl) ?_
                refine lv_l2i hx hb dX10_between_146 rfl ?_
                refine lv_topi (fun x_43 ex_43 => ?_)
                have bx_43 : iv (-1000000) 1000000 x_43 := by rw [ex_43]; exact iv_ofL b_42 (by decide)
                exact fiI hx hb hr hlk hK hP hD hS dX10_between_147 (Nat.le_of_ble_eq_true rfl) (Nat.le_of_ble_eq_true rfl) (rfl)
              · replace c_41 : ¬ ((-1000000) : Int64) ≤ j_38 := fun z => c_41 ((lg_cmp_ge _ _).mpr z)
                have b_44 : ivL (-9223372036854775808) (-1000001) j_38 := ivL_l1 (Int64.not_le.mp c_41) b_40 (ivL_c ((-1000000) : Int64) (a := (-1000000)) (b := (-1000000)) (by decide)) (by decide)
                refine lv_ldc2 (v := (-1000000)) hx hb hown (hg _ q_7_47) dX10_between_139 ?_
                refine lv_goto (tgt := 146) hx hb dX10_between_142 (by decide) ?_
                refine lv_l2i (v := (-1000000)) hx hb dX10_between_146 (by decide +kernel) ?_
                exact fiI hx hb hr hlk hK hP hD hS dX10_between_147 (Nat.le_of_ble_eq_true rfl) (Nat.le_of_ble_eq_true rfl) (rfl)
            · replace c_39 : ¬ j_38 ≤ (1000000 : Int64) := fun z => c_39 ((lg_cmp_le _ _).mpr z)
              have b_45 : ivL 1000001 9223372036854775807 j_38 := ivL_l2 (Int64.not_le.mp c_39) (ivL_c (1000000 : Int64) (a := 1000000) (b := 1000000) (by decide)) (ivL_top j_38) (by decide)
              refine lv_ldc2 (v := 1000000) hx hb hown (hg _ q_7_46) dX10_between_125 ?_
              refine lv_goto (tgt := 146) hx hb dX10_between_128 (by decide) ?_
              refine lv_l2i (v := 1000000) hx hb dX10_between_146 (by decide +kernel) ?_
              exact fiI hx hb hr hlk hK hP hD hS dX10_between_147 (Nat.le_of_ble_eq_true rfl) (Nat.le_of_ble_eq_true rfl) (rfl)
        · by_cases c_46 : a0 = 3007
          · refine lv_tableIn (off := 72) (tgt := 73) hx hb dX10_between_1 (by rw [c_46]; decide) (by rw [c_46]; decide) (by rw [c_46]; rfl) (by decide) ?_
            refine lv_iload_n hx hb dX10_between_73 rfl (lv_at hl 1 rfl) ?_
            refine lv_iload_n hx hb dX10_between_74 rfl (lv_at hl 2 rfl) ?_
            refine lv_iand hx hb dX10_between_75 ?_
            refine lv_topi (fun x_47 ex_47 => ?_)
            exact fiI hx hb hr hlk hK hP hD hS dX10_between_76 (Nat.le_of_ble_eq_true rfl) (Nat.le_of_ble_eq_true rfl) (rfl)
          · by_cases c_48 : a0 = 3008
            · refine lv_tableIn (off := 76) (tgt := 77) hx hb dX10_between_1 (by rw [c_48]; decide) (by rw [c_48]; decide) (by rw [c_48]; rfl) (by decide) ?_
              refine lv_iload_n hx hb dX10_between_77 rfl (lv_at hl 1 rfl) ?_
              refine lv_iload_n hx hb dX10_between_78 rfl (lv_at hl 2 rfl) ?_
              refine lv_ior hx hb dX10_between_79 ?_
              refine lv_topi (fun x_49 ex_49 => ?_)
              exact fiI hx hb hr hlk hK hP hD hS dX10_between_80 (Nat.le_of_ble_eq_true rfl) (Nat.le_of_ble_eq_true rfl) (rfl)
            · refine lv_tableOut (tgt := 81) hx hb dX10_between_1 ((Int.lt_or_le a0.toInt 3003).elim Or.inl (fun c_50 => Or.inr (by simp only [tI_eq, (by decide : (3003 : Int32).toInt = 3003), (by decide : (3004 : Int32).toInt = 3004), (by decide : (3005 : Int32).toInt = 3005), (by decide : (3006 : Int32).toInt = 3006), (by decide : (3007 : Int32).toInt = 3007), (by decide : (3008 : Int32).toInt = 3008)] at c_1 c_3 c_7 c_11 c_46 c_48; omega))) (by decide) ?_
              refine lv_iload_n hx hb dX10_between_81 rfl (lv_at hl 0 rfl) ?_
              refine lv_sipush (v := 3000) hx hb dX10_between_82 (by decide) ?_
              refine lv_icmp_ne (tgt := 96) hx hb dX10_between_85 (by decide) (fun c_51 => ?_) (fun c_51 => ?_)
              · refine lv_iload_n hx hb dX10_between_96 rfl (lv_at hl 0 rfl) ?_
                refine lv_sipush (v := 3001) hx hb dX10_between_97 (by decide) ?_
                refine lv_icmp_ne (tgt := 111) hx hb dX10_between_100 (by decide) (fun c_52 => ?_) (fun c_52 => ?_)
                · refine lv_iload_n hx hb dX10_between_111 rfl (lv_at hl 1 rfl) ?_
                  refine lv_i2l hx hb dX10_between_112 rfl ?_
                  refine lv_topl (fun j_53 ej_53 => ?_)
                  refine lv_iload_n hx hb dX10_between_113 rfl (lv_at hl 2 rfl) ?_
                  refine lv_i2l hx hb dX10_between_114 rfl ?_
                  refine lv_topl (fun j_54 ej_54 => ?_)
                  refine lv_lmul hx hb dX10_between_115 ?_
                  refine lv_topl (fun j_55 ej_55 => ?_)
                  refine lv_lstore_n (lv' := [(3, .long j_55), (0, .int a0), (1, .int a1), (2, .int a2)]) hx hb dX10_between_116 rfl hl (by decide) rfl (fun ls hl => ?_)
                  refine lv_lload_n hx hb dX10_between_117 rfl (lv_at hl 0 rfl) ?_
                  refine lv_ldc2 (v := 1000000) hx hb hown (hg _ q_7_46) dX10_between_118 ?_
                  refine W.lcmp hx hb dX10_between_121 ?_
                  refine lv_if_le (tgt := 131) hx hb dX10_between_122 (by decide) (fun c_56 => ?_) (fun c_56 => ?_)
                  · replace c_56 : j_55 ≤ (1000000 : Int64) := (lg_cmp_le _ _).mp c_56
                    have b_57 : ivL (-9223372036854775808) 1000000 j_55 := ivL_e1 c_56 (ivL_top j_55) (ivL_c (1000000 : Int64) (a := 1000000) (b := 1000000) (by decide)) (by decide)
                    refine lv_lload_n hx hb dX10_between_131 rfl (lv_at hl 0 rfl) ?_
                    refine lv_ldc2 (v := (-1000000)) hx hb hown (hg _ q_7_47) dX10_between_132 ?_
                    refine W.lcmp hx hb dX10_between_135 ?_
                    refine lv_if_ge (tgt := 145) hx hb dX10_between_136 (by decide) (fun c_58 => ?_) (fun c_58 => ?_)
                    · replace c_58 : ((-1000000) : Int64) ≤ j_55 := (lg_cmp_ge _ _).mp c_58
                      have b_59 : ivL (-1000000) 1000000 j_55 := ivL_e2 c_58 (ivL_c ((-1000000) : Int64) (a := (-1000000)) (b := (-1000000)) (by decide)) b_57 (by decide)
                      refine lv_lload_n hx hb dX10_between_145 rfl (lv_at hl 0 rfl) ?_
                      refine lv_l2i hx hb dX10_between_146 rfl ?_
                      refine lv_topi (fun x_60 ex_60 => ?_)
                      have bx_60 : iv (-1000000) 1000000 x_60 := by rw [ex_60]; exact iv_ofL b_59 (by decide)
                      exact fiI hx hb hr hlk hK hP hD hS dX10_between_147 (Nat.le_of_ble_eq_true rfl) (Nat.le_of_ble_eq_true rfl) (rfl)
                    · replace c_58 : ¬ ((-1000000) : Int64) ≤ j_55 := fun z => c_58 ((lg_cmp_ge _ _).mpr z)
                      have b_61 : ivL (-9223372036854775808) (-1000001) j_55 := ivL_l1 (Int64.not_le.mp c_58) b_57 (ivL_c ((-1000000) : Int64) (a := (-1000000)) (b := (-1000000)) (by decide)) (by decide)
                      refine lv_ldc2 (v := (-1000000)) hx hb hown (hg _ q_7_47) dX10_between_139 ?_
                      refine lv_goto (tgt := 146) hx hb dX10_between_142 (by decide) ?_
                      refine lv_l2i (v := (-1000000)) hx hb dX10_between_146 (by decide +kernel) ?_
                      exact fiI hx hb hr hlk hK hP hD hS dX10_between_147 (Nat.le_of_ble_eq_true rfl) (Nat.le_of_ble_eq_true rfl) (rfl)
                  · replace c_56 : ¬ j_55 ≤ (1000000 : Int64) := fun z => c_56 ((lg_cmp_le _ _).mpr z)
                    have b_62 : ivL 1000001 9223372036854775807 j_55 := ivL_l2 (Int64.not_le.mp c_56) (ivL_c (1000000 : Int64) (a := 1000000) (b := 1000000) (by decide)) (ivL_top j_55) (by decide)
                    refine lv_ldc2 (v := 1000000) hx hb hown (hg _ q_7_46) dX10_between_125 ?_
                    refine lv_goto (tgt := 146) hx hb dX10_between_128 (by decide) ?_
                    refine lv_l2i (v := 1000000) hx hb dX10_between_146 (by decide +kernel) ?_
                    exact fiI hx hb hr hlk hK hP hD hS dX10_between_147 (Nat.le_of_ble_eq_true rfl) (Nat.le_of_ble_eq_true rfl) (rfl)
                · have b_63 : iv 3001 3001 a0 := iv_q c_52 (iv_c (3001 : Int32) (a := 3001) (b := 3001) (by decide))
                  refine lv_iload_n hx hb dX10_between_103 rfl (lv_at hl 1 rfl) ?_
                  refine lv_i2l hx hb dX10_between_104 rfl ?_
                  refine lv_topl (fun j_64 ej_64 => ?_)
                  refine lv_iload_n hx hb dX10_between_105 rfl (lv_at hl 2 rfl) ?_
                  refine lv_i2l hx hb dX10_between_106 rfl ?_
                  refine lv_topl (fun j_65 ej_65 => ?_)
                  refine lv_lsub hx hb dX10_between_107 ?_
                  refine lv_topl (fun j_66 ej_66 => ?_)
                  refine lv_goto (tgt := 116) hx hb dX10_between_108 (by decide) ?_
                  refine lv_lstore_n (lv' := [(3, .long j_66), (0, .int a0), (1, .int a1), (2, .int a2)]) hx hb dX10_between_116 rfl hl (by decide) rfl (fun ls hl => ?_)
                  refine lv_lload_n hx hb dX10_between_117 rfl (lv_at hl 0 rfl) ?_
                  refine lv_ldc2 (v := 1000000) hx hb hown (hg _ q_7_46) dX10_between_118 ?_
                  refine W.lcmp hx hb dX10_between_121 ?_
                  refine lv_if_le (tgt := 131) hx hb dX10_between_122 (by decide) (fun c_67 => ?_) (fun c_67 => ?_)
                  · replace c_67 : j_66 ≤ (1000000 : Int64) := (lg_cmp_le _ _).mp c_67
                    have b_68 : ivL (-9223372036854775808) 1000000 j_66 := ivL_e1 c_67 (ivL_top j_66) (ivL_c (1000000 : Int64) (a := 1000000) (b := 1000000) (by decide)) (by decide)
                    refine lv_lload_n hx hb dX10_between_131 rfl (lv_at hl 0 rfl) ?_
                    refine lv_ldc2 (v := (-1000000)) hx hb hown (hg _ q_7_47) dX10_between_132 ?_
                    refine W.lcmp hx hb dX10_between_135 ?_
                    refine lv_if_ge (tgt := 145) hx hb dX10_between_136 (by decide) (fun c_69 => ?_) (fun c_69 => ?_)
                    · replace c_69 : ((-1000000) : Int64) ≤ j_66 := (lg_cmp_ge _ _).mp c_69
                      have b_70 : ivL (-1000000) 1000000 j_66 := ivL_e2 c_69 (ivL_c ((-1000000) : Int64) (a := (-1000000)) (b := (-1000000)) (by decide)) b_68 (by decide)
                      refine lv_lload_n hx hb dX10_between_145 rfl (lv_at hl 0 rfl) ?_
                      refine lv_l2i hx hb dX10_between_146 rfl ?_
                      refine lv_topi (fun x_71 ex_71 => ?_)
                      have bx_71 : iv (-1000000) 1000000 x_71 := by rw [ex_71]; exact iv_ofL b_70 (by decide)
                      exact fiI hx hb hr hlk hK hP hD hS dX10_between_147 (Nat.le_of_ble_eq_true rfl) (Nat.le_of_ble_eq_true rfl) (rfl)
                    · replace c_69 : ¬ ((-1000000) : Int64) ≤ j_66 := fun z => c_69 ((lg_cmp_ge _ _).mpr z)
                      have b_72 : ivL (-9223372036854775808) (-1000001) j_66 := ivL_l1 (Int64.not_le.mp c_69) b_68 (ivL_c ((-1000000) : Int64) (a := (-1000000)) (b := (-1000000)) (by decide)) (by decide)
                      refine lv_ldc2 (v := (-1000000)) hx hb hown (hg _ q_7_47) dX10_between_139 ?_
                      refine lv_goto (tgt := 146) hx hb dX10_between_142 (by decide) ?_
                      refine lv_l2i (v := (-1000000)) hx hb dX10_between_146 (by decide +kernel) ?_
                      exact fiI hx hb hr hlk hK hP hD hS dX10_between_147 (Nat.le_of_ble_eq_true rfl) (Nat.le_of_ble_eq_true rfl) (rfl)
                  · replace c_67 : ¬ j_66 ≤ (1000000 : Int64) := fun z => c_67 ((lg_cmp_le _ _).mpr z)
                    have b_73 : ivL 1000001 9223372036854775807 j_66 := ivL_l2 (Int64.not_le.mp c_67) (ivL_c (1000000 : Int64) (a := 1000000) (b := 1000000) (by decide)) (ivL_top j_66) (by decide)
                    refine lv_ldc2 (v := 1000000) hx hb hown (hg _ q_7_46) dX10_between_125 ?_
                    refine lv_goto (tgt := 146) hx hb dX10_between_128 (by decide) ?_
                    refine lv_l2i (v := 1000000) hx hb dX10_between_146 (by decide +kernel) ?_
                    exact fiI hx hb hr hlk hK hP hD hS dX10_between_147 (Nat.le_of_ble_eq_true rfl) (Nat.le_of_ble_eq_true rfl) (rfl)
              · have b_74 : iv 3000 3000 a0 := iv_q c_51 (iv_c (3000 : Int32) (a := 3000) (b := 3000) (by decide))
                refine lv_iload_n hx hb dX10_between_88 rfl (lv_at hl 1 rfl) ?_
                refine lv_i2l hx hb dX10_between_89 rfl ?_
                refine lv_topl (fun j_75 ej_75 => ?_)
                refine lv_iload_n hx hb dX10_between_90 rfl (lv_at hl 2 rfl) ?_
                refine lv_i2l hx hb dX10_between_91 rfl ?_
                refine lv_topl (fun j_76 ej_76 => ?_)
                refine lv_ladd hx hb dX10_between_92 ?_
                refine lv_topl (fun j_77 ej_77 => ?_)
                refine lv_goto (tgt := 116) hx hb dX10_between_93 (by decide) ?_
                refine lv_lstore_n (lv' := [(3, .long j_77), (0, .int a0), (1, .int a1), (2, .int a2)]) hx hb dX10_between_116 rfl hl (by decide) rfl (fun ls hl => ?_)
                refine lv_lload_n hx hb dX10_between_117 rfl (lv_at hl 0 rfl) ?_
                refine lv_ldc2 (v := 1000000) hx hb hown (hg _ q_7_46) dX10_between_118 ?_
                refine W.lcmp hx hb dX10_between_121 ?_
                refine lv_if_le (tgt := 131) hx hb dX10_between_122 (by decide) (fun c_78 => ?_) (fun c_78 => ?_)
                · replace c_78 : j_77 ≤ (1000000 : Int64) := (lg_cmp_le _ _).mp c_78
                  have b_79 : ivL (-9223372036854775808) 1000000 j_77 := ivL_e1 c_78 (ivL_top j_77) (ivL_c (1000000 : Int64) (a := 1000000) (b := 1000000) (by decide)) (by decide)
                  refine lv_lload_n hx hb dX10_between_131 rfl (lv_at hl 0 rfl) ?_
                  refine lv_ldc2 (v := (-1000000)) hx hb hown (hg _ q_7_47) dX10_between_132 ?_
                  refine W.lcmp hx hb dX10_between_135 ?_
                  refine lv_if_ge (tgt := 145) hx hb dX10_between_136 (by decide) (fun c_80 => ?_) (fun c_80 => ?_)
                  · replace c_80 : ((-1000000) : Int64) ≤ j_77 := (lg_cmp_ge _ _).mp c_80
                    have b_81 : ivL (-1000000) 1000000 j_77 := ivL_e2 c_80 (ivL_c ((-1000000) : Int64) (a := (-1000000)) (b := (-1000000)) (by decide)) b_79 (by decide)
                    refine lv_lload_n hx hb dX10_between_145 rfl (lv_at hl 0 rfl) ?_
                    refine lv_l2i hx hb dX10_between_146 rfl ?_
                    refine lv_topi (fun x_82 ex_82 => ?_)
                    have bx_82 : iv (-1000000) 1000000 x_82 := by rw [ex_82]; exact iv_ofL b_81 (by decide)
                    exact fiI hx hb hr hlk hK hP hD hS dX10_between_147 (Nat.le_of_ble_eq_true rfl) (Nat.le_of_ble_eq_true rfl) (rfl)
                  · replace c_80 : ¬ ((-1000000) : Int64) ≤ j_77 := fun z => c_80 ((lg_cmp_ge _ _).mpr z)
                    have b_83 : ivL (-9223372036854775808) (-1000001) j_77 := ivL_l1 (Int64.not_le.mp c_80) b_79 (ivL_c ((-1000000) : Int64) (a := (-1000000)) (b := (-1000000)) (by decide)) (by decide)
                    refine lv_ldc2 (v := (-1000000)) hx hb hown (hg _ q_7_47) dX10_between_139 ?_
                    refine lv_goto (tgt := 146) hx hb dX10_between_142 (by decide) ?_
                    refine lv_l2i (v := (-1000000)) hx hb dX10_between_146 (by decide +kernel) ?_
                    exact fiI hx hb hr hlk hK hP hD hS dX10_between_147 (Nat.le_of_ble_eq_true rfl) (Nat.le_of_ble_eq_true rfl) (rfl)
                · replace c_78 : ¬ j_77 ≤ (1000000 : Int64) := fun z => c_78 ((lg_cmp_le _ _).mpr z)
                  have b_84 : ivL 1000001 9223372036854775807 j_77 := ivL_l2 (Int64.not_le.mp c_78) (ivL_c (1000000 : Int64) (a := 1000000) (b := 1000000) (by decide)) (ivL_top j_77) (by decide)
                  refine lv_ldc2 (v := 1000000) hx hb hown (hg _ q_7_46) dX10_between_125 ?_
                  refine lv_goto (tgt := 146) hx hb dX10_between_128 (by decide) ?_
                  refine lv_l2i (v := 1000000) hx hb dX10_between_146 (by decide +kernel) ?_
                  exact fiI hx hb hr hlk hK hP hD hS dX10_between_147 (Nat.le_of_ble_eq_true rfl) (Nat.le_of_ble_eq_true rfl) (rfl)
theorem dX10_reckons_0 : decode cX10_reckons 0 = .ok (.iconst 0, 1) := by decide +kernel
theorem dX10_reckons_1 : decode cX10_reckons 1 = .ok (.istore_n 2, 1) := by decide +kernel
theorem dX10_reckons_2 : decode cX10_reckons 2 = .ok (.iconst 0, 1) := by decide +kernel
theorem dX10_reckons_3 : decode cX10_reckons 3 = .ok (.istore_n 3, 1) := by decide +kernel
theorem dX10_reckons_4 : decode cX10_reckons 4 = .ok (.iload_n 3, 1) := by decide +kernel
theorem dX10_reckons_5 : decode cX10_reckons 5 = .ok (.aload_n 0, 1) := by decide +kernel
theorem dX10_reckons_6 : decode cX10_reckons 6 = .ok (.getfield 13, 3) := by decide +kernel
theorem dX10_reckons_9 : decode cX10_reckons 9 = .ok (.bipush 8, 2) := by decide +kernel
theorem dX10_reckons_11 : decode cX10_reckons 11 = .ok (.iload_n 1, 1) := by decide +kernel
theorem dX10_reckons_12 : decode cX10_reckons 12 = .ok (.iadd, 1) := by decide +kernel
theorem dX10_reckons_13 : decode cX10_reckons 13 = .ok (.iaload, 1) := by decide +kernel
theorem dX10_reckons_14 : decode cX10_reckons 14 = .ok (.if_icmp .ge 184, 3) := by decide +kernel
theorem dX10_reckons_198 : decode cX10_reckons 198 = .ok (.aload_n 0, 1) := by decide +kernel
theorem q_5_239 : Cond.fieldLink "BeaconDelayModel" 30 "BeaconDelayModel" "reckoned" "[I" ∈ gw := gw_5 (i := 239) (by decide +kernel) rfl
theorem dX10_reckons_199 : decode cX10_reckons 199 = .ok (.getfield 30, 3) := by decide +kernel
theorem dX10_reckons_202 : decode cX10_reckons 202 = .ok (.iconst 0, 1) := by decide +kernel
theorem dX10_reckons_203 : decode cX10_reckons 203 = .ok (.iaload, 1) := by decide +kernel
theorem dX10_reckons_204 : decode cX10_reckons 204 = .ok (.ireturn, 1) := by decide +kernel
theorem dX10_reckons_17 : decode cX10_reckons 17 = .ok (.aload_n 0, 1) := by decide +kernel
theorem dX10_reckons_18 : decode cX10_reckons 18 = .ok (.getfield 13, 3) := by decide +kernel
theorem dX10_reckons_21 : decode cX10_reckons 21 = .ok (.bipush 125, 2) := by decide +kernel
theorem dX10_reckons_23 : decode cX10_reckons 23 = .ok (.aload_n 0, 1) := by decide +kernel
theorem dX10_reckons_24 : decode cX10_reckons 24 = .ok (.getfield 13, 3) := by decide +kernel
theorem dX10_reckons_27 : decode cX10_reckons 27 = .ok (.bipush 6, 2) := by decide +kernel
theorem dX10_reckons_29 : decode cX10_reckons 29 = .ok (.iload_n 1, 1) := by decide +kernel
theorem dX10_reckons_30 : decode cX10_reckons 30 = .ok (.iadd, 1) := by decide +kernel
theorem dX10_reckons_31 : decode cX10_reckons 31 = .ok (.iaload, 1) := by decide +kernel
theorem dX10_reckons_32 : decode cX10_reckons 32 = .ok (.iadd, 1) := by decide +kernel
theorem dX10_reckons_33 : decode cX10_reckons 33 = .ok (.iload_n 3, 1) := by decide +kernel
theorem dX10_reckons_34 : decode cX10_reckons 34 = .ok (.iadd, 1) := by decide +kernel
theorem dX10_reckons_35 : decode cX10_reckons 35 = .ok (.iaload, 1) := by decide +kernel
theorem dX10_reckons_36 : decode cX10_reckons 36 = .ok (.istore 4, 2) := by decide +kernel
theorem dX10_reckons_38 : decode cX10_reckons 38 = .ok (.iload 4, 2) := by decide +kernel
theorem dX10_reckons_40 : decode cX10_reckons 40 = .ok (.sipush 3000, 3) := by decide +kernel
theorem dX10_reckons_43 : decode cX10_reckons 43 = .ok (.if_icmp .ge 39, 3) := by decide +kernel
theorem dX10_reckons_82 : decode cX10_reckons 82 = .ok (.iload 4, 2) := by decide +kernel
theorem dX10_reckons_84 : decode cX10_reckons 84 = .ok (.sipush 3006, 3) := by decide +kernel
theorem dX10_reckons_87 : decode cX10_reckons 87 = .ok (.if_icmp .ne 24, 3) := by decide +kernel
theorem dX10_reckons_111 : decode cX10_reckons 111 = .ok (.iload 4, 2) := by decide +kernel
theorem dX10_reckons_113 : decode cX10_reckons 113 = .ok (.sipush 3009, 3) := by decide +kernel
theorem dX10_reckons_116 : decode cX10_reckons 116 = .ok (.if_icmp .ne 46, 3) := by decide +kernel
theorem dX10_reckons_162 : decode cX10_reckons 162 = .ok (.iinc 2 (-1), 3) := by decide +kernel
theorem dX10_reckons_165 : decode cX10_reckons 165 = .ok (.aload_n 0, 1) := by decide +kernel
theorem dX10_reckons_166 : decode cX10_reckons 166 = .ok (.getfield 30, 3) := by decide +kernel
theorem dX10_reckons_169 : decode cX10_reckons 169 = .ok (.iload_n 2, 1) := by decide +kernel
theorem dX10_reckons_170 : decode cX10_reckons 170 = .ok (.iconst 1, 1) := by decide +kernel
theorem dX10_reckons_171 : decode cX10_reckons 171 = .ok (.isub, 1) := by decide +kernel
theorem dX10_reckons_172 : decode cX10_reckons 172 = .ok (.iload 4, 2) := by decide +kernel
theorem dX10_reckons_174 : decode cX10_reckons 174 = .ok (.aload_n 0, 1) := by decide +kernel
theorem dX10_reckons_175 : decode cX10_reckons 175 = .ok (.getfield 30, 3) := by decide +kernel
theorem dX10_reckons_178 : decode cX10_reckons 178 = .ok (.iload_n 2, 1) := by decide +kernel
theorem dX10_reckons_179 : decode cX10_reckons 179 = .ok (.iconst 1, 1) := by decide +kernel
theorem dX10_reckons_180 : decode cX10_reckons 180 = .ok (.isub, 1) := by decide +kernel
theorem dX10_reckons_181 : decode cX10_reckons 181 = .ok (.iaload, 1) := by decide +kernel
theorem dX10_reckons_182 : decode cX10_reckons 182 = .ok (.aload_n 0, 1) := by decide +kernel
theorem dX10_reckons_183 : decode cX10_reckons 183 = .ok (.getfield 30, 3) := by decide +kernel
theorem dX10_reckons_186 : decode cX10_reckons 186 = .ok (.iload_n 2, 1) := by decide +kernel
theorem dX10_reckons_187 : decode cX10_reckons 187 = .ok (.iaload, 1) := by decide +kernel
theorem q_7_45 : Cond.code yX10_between prog_12_method_45_code 5 (some FieldType.int) ∈ gw := gw_7 (i := 45) (rfl) rfl
theorem q_7_44 : Cond.static yX10_between ∈ gw := gw_7 (i := 44) (by decide +kernel) rfl
theorem mt_X10_between : MtS yX10_between cX10_between 5 (some .int) 3 := ⟨⟨q_7_45, q_1_9, by decide +kernel, by decide +kernel, by decide +kernel⟩, q_7_44⟩
theorem q_7_43 : Cond.methodLink "BeaconDelayModel" 241 yX10_between ∈ gw := gw_7 (i := 43) (by decide +kernel) rfl
theorem dX10_reckons_188 : decode cX10_reckons 188 = .ok (.invokestatic 241, 3) := by decide +kernel
theorem dX10_reckons_191 : decode cX10_reckons 191 = .ok (.iastore, 1) := by decide +kernel
theorem dX10_reckons_192 : decode cX10_reckons 192 = .ok (.iinc 3 1, 3) := by decide +kernel
theorem dX10_reckons_195 : decode cX10_reckons 195 = .ok (.goto (-191), 3) := by decide +kernel
theorem dX10_reckons_119 : decode cX10_reckons 119 = .ok (.iinc 2 (-2), 3) := by decide +kernel
theorem dX10_reckons_122 : decode cX10_reckons 122 = .ok (.aload_n 0, 1) := by decide +kernel
theorem dX10_reckons_123 : decode cX10_reckons 123 = .ok (.getfield 30, 3) := by decide +kernel
theorem dX10_reckons_126 : decode cX10_reckons 126 = .ok (.iload_n 2, 1) := by decide +kernel
theorem dX10_reckons_127 : decode cX10_reckons 127 = .ok (.iconst 1, 1) := by decide +kernel
theorem dX10_reckons_128 : decode cX10_reckons 128 = .ok (.isub, 1) := by decide +kernel
theorem dX10_reckons_129 : decode cX10_reckons 129 = .ok (.aload_n 0, 1) := by decide +kernel
theorem dX10_reckons_130 : decode cX10_reckons 130 = .ok (.getfield 30, 3) := by decide +kernel
theorem dX10_reckons_133 : decode cX10_reckons 133 = .ok (.iload_n 2, 1) := by decide +kernel
theorem dX10_reckons_134 : decode cX10_reckons 134 = .ok (.iconst 1, 1) := by decide +kernel
theorem dX10_reckons_135 : decode cX10_reckons 135 = .ok (.isub, 1) := by decide +kernel
theorem dX10_reckons_136 : decode cX10_reckons 136 = .ok (.iaload, 1) := by decide +kernel
theorem dX10_reckons_137 : decode cX10_reckons 137 = .ok (.iconst 1, 1) := by decide +kernel
theorem dX10_reckons_138 : decode cX10_reckons 138 = .ok (.if_icmp .ne 12, 3) := by decide +kernel
theorem dX10_reckons_150 : decode cX10_reckons 150 = .ok (.aload_n 0, 1) := by decide +kernel
theorem dX10_reckons_151 : decode cX10_reckons 151 = .ok (.getfield 30, 3) := by decide +kernel
theorem dX10_reckons_154 : decode cX10_reckons 154 = .ok (.iload_n 2, 1) := by decide +kernel
theorem dX10_reckons_155 : decode cX10_reckons 155 = .ok (.iconst 1, 1) := by decide +kernel
theorem dX10_reckons_156 : decode cX10_reckons 156 = .ok (.iadd, 1) := by decide +kernel
theorem dX10_reckons_157 : decode cX10_reckons 157 = .ok (.iaload, 1) := by decide +kernel
theorem dX10_reckons_158 : decode cX10_reckons 158 = .ok (.iastore, 1) := by decide +kernel
theorem dX10_reckons_159 : decode cX10_reckons 159 = .ok (.goto 33, 3) := by decide +kernel
theorem dX10_reckons_141 : decode cX10_reckons 141 = .ok (.aload_n 0, 1) := by decide +kernel
theorem dX10_reckons_142 : decode cX10_reckons 142 = .ok (.getfield 30, 3) := by decide +kernel
theorem dX10_reckons_145 : decode cX10_reckons 145 = .ok (.iload_n 2, 1) := by decide +kernel
theorem dX10_reckons_146 : decode cX10_reckons 146 = .ok (.iaload, 1) := by decide +kernel
theorem dX10_reckons_147 : decode cX10_reckons 147 = .ok (.goto 11, 3) := by decide +kernel
theorem dX10_reckons_90 : decode cX10_reckons 90 = .ok (.aload_n 0, 1) := by decide +kernel
theorem dX10_reckons_91 : decode cX10_reckons 91 = .ok (.getfield 30, 3) := by decide +kernel
theorem dX10_reckons_94 : decode cX10_reckons 94 = .ok (.iload_n 2, 1) := by decide +kernel
theorem dX10_reckons_95 : decode cX10_reckons 95 = .ok (.iconst 1, 1) := by decide +kernel
theorem dX10_reckons_96 : decode cX10_reckons 96 = .ok (.isub, 1) := by decide +kernel
theorem dX10_reckons_97 : decode cX10_reckons 97 = .ok (.iconst 1, 1) := by decide +kernel
theorem dX10_reckons_98 : decode cX10_reckons 98 = .ok (.aload_n 0, 1) := by decide +kernel
theorem dX10_reckons_99 : decode cX10_reckons 99 = .ok (.getfield 30, 3) := by decide +kernel
theorem dX10_reckons_102 : decode cX10_reckons 102 = .ok (.iload_n 2, 1) := by decide +kernel
theorem dX10_reckons_103 : decode cX10_reckons 103 = .ok (.iconst 1, 1) := by decide +kernel
theorem dX10_reckons_104 : decode cX10_reckons 104 = .ok (.isub, 1) := by decide +kernel
theorem dX10_reckons_105 : decode cX10_reckons 105 = .ok (.iaload, 1) := by decide +kernel
theorem dX10_reckons_106 : decode cX10_reckons 106 = .ok (.isub, 1) := by decide +kernel
theorem dX10_reckons_107 : decode cX10_reckons 107 = .ok (.iastore, 1) := by decide +kernel
theorem dX10_reckons_108 : decode cX10_reckons 108 = .ok (.goto 84, 3) := by decide +kernel
theorem dX10_reckons_46 : decode cX10_reckons 46 = .ok (.aload_n 0, 1) := by decide +kernel
theorem dX10_reckons_47 : decode cX10_reckons 47 = .ok (.getfield 30, 3) := by decide +kernel
theorem dX10_reckons_50 : decode cX10_reckons 50 = .ok (.iload_n 2, 1) := by decide +kernel
theorem dX10_reckons_51 : decode cX10_reckons 51 = .ok (.iload 4, 2) := by decide +kernel
theorem dX10_reckons_53 : decode cX10_reckons 53 = .ok (.sipush 1000, 3) := by decide +kernel
theorem dX10_reckons_56 : decode cX10_reckons 56 = .ok (.if_icmp .ge 8, 3) := by decide +kernel
theorem dX10_reckons_64 : decode cX10_reckons 64 = .ok (.aload_n 0, 1) := by decide +kernel
theorem dX10_reckons_65 : decode cX10_reckons 65 = .ok (.getfield 33, 3) := by decide +kernel
theorem dX10_reckons_68 : decode cX10_reckons 68 = .ok (.iload 4, 2) := by decide +kernel
theorem dX10_reckons_70 : decode cX10_reckons 70 = .ok (.sipush 1000, 3) := by decide +kernel
theorem dX10_reckons_73 : decode cX10_reckons 73 = .ok (.isub, 1) := by decide +kernel
theorem dX10_reckons_74 : decode cX10_reckons 74 = .ok (.iaload, 1) := by decide +kernel
theorem dX10_reckons_75 : decode cX10_reckons 75 = .ok (.iastore, 1) := by decide +kernel
theorem dX10_reckons_76 : decode cX10_reckons 76 = .ok (.iinc 2 1, 3) := by decide +kernel
theorem dX10_reckons_79 : decode cX10_reckons 79 = .ok (.goto 113, 3) := by decide +kernel
theorem dX10_reckons_59 : decode cX10_reckons 59 = .ok (.iload 4, 2) := by decide +kernel
theorem dX10_reckons_61 : decode cX10_reckons 61 = .ok (.goto 14, 3) := by decide +kernel
set_option maxHeartbeats 4000000 in
set_option maxRecDepth 100000 in
theorem k_X10_reckons_0 (l : Launch) (V : GV) (z : Nat → Nat) (fz15 : Nat → Int32) (fz16 : Nat → Int32) (pz0_0 : Int32) (pz0_5 : Int32) (pz0_6 : Int32) (pz0_7 : Int32) (pz0_8 : Int32) (pz0_9 : Int32) (pz0_10 : Int32) (pz0_11 : Int32) (pz0_12 : Int32) (pz0_13 : Int32) (pz0_14 : Int32) (pz0_18 : Int32) (pz0_19 : Int32) (pz0_22 : Int32) (pz0_23 : Int32) (pz0_29 : Int32) (fz1 : Nat → Int32) (tfz16 : ivT tW fz16) (bpz0_5 : iv 0 900 pz0_5) (bpz0_6 : iv 0 900 pz0_6) (bpz0_7 : iv 0 900 pz0_7) (bpz0_8 : iv 0 900 pz0_8) (bpz0_10 : iv 0 999 pz0_10) (bpz0_11 : iv 0 4 pz0_11) (bpz0_12 : iv 0 900 pz0_12) (bpz0_13 : iv 0 4 pz0_13) (bpz0_14 : iv (-1) 900 pz0_14) (bpz0_18 : iv 0 2 pz0_18) (bpz0_22 : iv 0 9999 pz0_22) (bpz0_29 : iv 0 10000 pz0_29) (tfz1 : ivT tA fz1) (hf0 : RW fz1) : Ct l V yX10_reckons (.code yX10_reckons cX10_reckons 5 (some .int)) 2 [.ref (z 0), .int 0] [(z 15, aI V 900 fz15), (z 16, aI V 6 fz16), (z 0, .inr (10, mo z pz0_0 pz0_5 pz0_6 pz0_7 pz0_8 pz0_9 pz0_10 pz0_11 pz0_12 pz0_13 pz0_14 pz0_18 pz0_19 pz0_22 pz0_23 pz0_29)), (z 1, aI V 3075 fz1)] 0 0 (QI V (fun (r : Int32) (w : va_W) => ∃ (g0 : Nat → Int32), (RW fz1) ∧ w = [(z 15, aI V 900 g0), (z 16, aI V 6 fz16), (z 0, .inr (10, mo z pz0_0 pz0_5 pz0_6 pz0_7 pz0_8 pz0_9 pz0_10 pz0_11 pz0_12 pz0_13 pz0_14 pz0_18 pz0_19 pz0_22 pz0_23 pz0_29)), (z 1, aI V 3075 fz1)])) := by
  refine Ct.of (by decide) (Nat.le_of_ble_eq_true rfl) (fun p e s m below meth c A ls hx hb hr hml hown hlk hnm hg hP hK hD hE hA hS hl => ?_)
  have hl : lv_has ls 5 [(0, .ref (z 0)), (1, .int 0)] := hl
  refine lv_iconst (v := 0) hx hb dX10_reckons_0 (by decide) ?_
  refine lv_istore_n (lv' := [(2, .int 0), (0, .ref (z 0)), (1, .int 0)]) hx hb dX10_reckons_1 rfl hl (by decide) rfl (fun ls hl => ?_)
  refine lv_iconst (v := 0) hx hb dX10_reckons_2 (by decide) ?_
  refine lv_istore_n (lv' := [(3, .int 0), (2, .int 0), (0, .ref (z 0)), (1, .int 0)]) hx hb dX10_reckons_3 rfl hl (by decide) rfl (fun ls hl => ?_)
  refine loopF (X := fun (n_4 : Nat) (H : Heap) (locs : List Loc) (ls : Array Slot) => ∃ (u_1 : Int32) (u_2 : Int32) (f_3 : Nat → Int32), (iv 0 900 u_1) ∧ (iv (-2147483648) 2147483647 u_2) ∧ (RK fz1 (0 : Int32) u_1 u_2) ∧ n_4 = (2147483647 - (u_1 : Int32).toInt).toNat ∧ va_P V.1 vwCl [(z 15, aI V 900 f_3), (z 16, aI V 6 fz16), (z 0, .inr (10, mo z pz0_0 pz0_5 pz0_6 pz0_7 pz0_8 pz0_9 pz0_10 pz0_11 pz0_12 pz0_13 pz0_14 pz0_18 pz0_19 pz0_22 pz0_23 pz0_29)), (z 1, aI V 3075 fz1)] H ∧ va_D A [(z 15, aI V 900 f_3), (z 16, aI V 6 fz16), (z 0, .inr (10, mo z pz0_0 pz0_5 pz0_6 pz0_7 pz0_8 pz0_9 pz0_10 pz0_11 pz0_12 pz0_13 pz0_14 pz0_18 pz0_19 pz0_22 pz0_23 pz0_29)), (z 1, aI V 3075 fz1)] ∧ va_S A s.heap H locs ∧ lv_has ls 5 [(3, .int u_1), (2, .int u_2), (0, .ref (z 0)), (1, .int 0)]) (g := fun ls => F0 m 4 ls []) (fun n_4 H locs ls hX ihn_4 => ?_) _ ⟨0, 0, fz15, (iv_c (0 : Int32) (by decide)), (iv_c (0 : Int32) (by decide)), RK_0, rfl, hP, hD, hS, lv_sub hl [0, 1, 2, 3] rfl⟩
  obtain ⟨u_1, u_2, f_3, bu_1, bu_2, inn_4_0, en_4, hP, hD, hS, hl⟩ := hX
  refine lv_iload_n hx hb dX10_reckons_4 rfl (lv_at hl 0 rfl) ?_
  refine lv_aload_n hx hb dX10_reckons_5 rfl (lv_at hl 2 rfl) ?_
  refine va_get (ci := 10) (v := .ref (z 1)) (C := RX10) (T := TX10) (N := 40) hx hb hg inX10 hown hK hP 2 rfl rfl 1 (by decide) (hg _ q_5_225) (fun _ h9 => h9) rfl dX10_reckons_6 ?_
  refine lv_bipush (v := 8) hx hb dX10_reckons_9 (by decide) ?_
  refine lv_iload_n hx hb dX10_reckons_11 rfl (lv_at hl 3 rfl) ?_
  refine lv_iadd hx hb dX10_reckons_12 ?_
  refine tpi (y := 8) (by decide +kernel) ?_
  refine va_iald hx hb hK hP 3 0 rfl rfl (vin (by decide +kernel)) dX10_reckons_13 ?_
  refine lv_topi (fun x_5 ex_5 => ?_)
  have bx_5 : iv 0 900 x_5 := by rw [ex_5]; exact rdT (a := 8) (n := 1) tfz1 (iv_c (8 : Int32) (a := 8) (b := 8) (by decide)) (by decide) (by decide +kernel)
  refine lv_icmp_ge (tgt := 198) hx hb dX10_reckons_14 (by decide) (fun c_6 => ?_) (fun c_6 => ?_)
  · refine lv_aload_n hx hb dX10_reckons_198 rfl (lv_at hl 2 rfl) ?_
    refine va_get (ci := 10) (v := .ref (z 15)) (C := RX10) (T := TX10) (N := 40) hx hb hg inX10 hown hK hP 2 rfl rfl 15 (by decide) (hg _ q_5_239) (fun _ h9 => h9) rfl dX10_reckons_199 ?_
    refine lv_iconst (v := 0) hx hb dX10_reckons_202 (by decide) ?_
    refine va_iald hx hb hK hP 0 0 rfl rfl (vin (by decide +kernel)) dX10_reckons_203 ?_
    refine lv_topi (fun x_7 ex_7 => ?_)
    exact fiI hx hb hr hlk hK hP hD hS dX10_reckons_204 (Nat.le_of_ble_eq_true rfl) (Nat.le_of_ble_eq_true rfl) (⟨f_3, hf0, rfl⟩)
  · have b_8 : iv 0 899 u_1 := iv_l1 (Int32.not_le.mp c_6) bu_1 bx_5 (by decide)
    have b_9 : iv 1 900 x_5 := iv_l2 (Int32.not_le.mp c_6) bu_1 bx_5 (by decide)
    refine lv_aload_n hx hb dX10_reckons_17 rfl (lv_at hl 2 rfl) ?_
    refine va_get (ci := 10) (v := .ref (z 1)) (C := RX10) (T := TX10) (N := 40) hx hb hg inX10 hown hK hP 2 rfl rfl 1 (by decide) (hg _ q_5_225) (fun _ h9 => h9) rfl dX10_reckons_18 ?_
    refine lv_bipush (v := 125) hx hb dX10_reckons_21 (by decide) ?_
    refine lv_aload_n hx hb dX10_reckons_23 rfl (lv_at hl 2 rfl) ?_
    refine va_get (ci := 10) (v := .ref (z 1)) (C := RX10) (T := TX10) (N := 40) hx hb hg inX10 hown hK hP 2 rfl rfl 1 (by decide) (hg _ q_5_225) (fun _ h9 => h9) rfl dX10_reckons_24 ?_
    refine lv_bipush (v := 6) hx hb dX10_reckons_27 (by decide) ?_
    refine lv_iload_n hx hb dX10_reckons_29 rfl (lv_at hl 3 rfl) ?_
    refine lv_iadd hx hb dX10_reckons_30 ?_
    refine tpi (y := 6) (by decide +kernel) ?_
    refine va_iald hx hb hK hP 3 0 rfl rfl (vin (by decide +kernel)) dX10_reckons_31 ?_
    refine lv_topi (fun x_10 ex_10 => ?_)
    have bx_10 : iv 0 900 x_10 := by rw [ex_10]; exact rdT (a := 6) (n := 1) tfz1 (iv_c (6 : Int32) (a := 6) (b := 6) (by decide)) (by decide) (by decide +kernel)
    refine lv_iadd hx hb dX10_reckons_32 ?_
    refine lv_topi (fun x_11 ex_11 => ?_)
    have bx_11 : iv 125 1025 x_11 := by rw [ex_11]; exact iv_add (iv_c (125 : Int32) (a := 125) (b := 125) (by decide)) bx_10 (by decide)
    refine lv_iload_n hx hb dX10_reckons_33 rfl (lv_at hl 0 rfl) ?_
    refine lv_iadd hx hb dX10_reckons_34 ?_
    refine lv_topi (fun x_12 ex_12 => ?_)
    have bx_12 : iv 125 1924 x_12 := by rw [ex_12]; exact iv_add bx_11 b_8 (by decide)
    refine va_iald hx hb hK hP 3 0 rfl rfl (iv_in bx_12 (by decide)) dX10_reckons_35 ?_
    refine lv_topi (fun x_13 ex_13 => ?_)
    have hc_x_13 := RK_c (law := (0 : Int32)) (i6 := 6) (i8 := 8) hf0 (iv_c (0 : Int32) (by decide)) b_8 inn_4_0 (by decide) (by decide) ex_5 (iv_w b_9 (by decide)) ex_10 bx_10 (Int32.not_le.mp c_6) ex_11 ex_12 ex_13
    have b_14 : iv 0 899 u_2 := by have q9 := hc_x_13; have q8 := ned_0 x_13; have q7 := b_8; unfold iv at *; omega
    refine lv_istore (lv' := [(4, .int x_13), (3, .int u_1), (2, .int u_2), (0, .ref (z 0)), (1, .int 0)]) hx hb dX10_reckons_36 hl (by decide) rfl (fun ls hl => ?_)
    refine lv_iload hx hb dX10_reckons_38 (lv_at hl 0 rfl) ?_
    refine lv_sipush (v := 3000) hx hb dX10_reckons_40 (by decide) ?_
    refine lv_icmp_ge (tgt := 82) hx hb dX10_reckons_43 (by decide) (fun c_15 => ?_) (fun c_15 => ?_)
    · have b_16 : iv 3000 2147483647 x_13 := iv_e2 c_15 (iv_c (3000 : Int32) (a := 3000) (b := 3000) (by decide)) (iv_top x_13) (by decide)
      refine lv_iload hx hb dX10_reckons_82 (lv_at hl 0 rfl) ?_
      refine lv_sipush (v := 3006) hx hb dX10_reckons_84 (by decide) ?_
      refine lv_icmp_ne (tgt := 111) hx hb dX10_reckons_87 (by decide) (fun c_17 => ?_) (fun c_17 => ?_)
      · refine lv_iload hx hb dX10_reckons_111 (lv_at hl 0 rfl) ?_
        refine lv_sipush (v := 3009) hx hb dX10_reckons_113 (by decide) ?_
        refine lv_icmp_ne (tgt := 162) hx hb dX10_reckons_116 (by decide) (fun c_18 => ?_) (fun c_18 => ?_)
        · have b_19 : iv 2 899 u_2 := by have q9 := hc_x_13.2.1; have q8 := ned_two (Int32.not_lt.mpr c_15) c_17 c_18; have q7 := b_14; unfold iv at *; omega
          obtain ⟨x_20, ex_20⟩ : ∃ z9 : Int32, z9 = u_2 + (-1) := ⟨_, rfl⟩
          have bx_20 : iv 1 898 x_20 := by rw [ex_20]; exact iv_add b_19 (iv_c ((-1) : Int32) (a := (-1)) (b := (-1)) (by decide)) (by decide)
          refine lv_iinc (v := x_20) (lv' := [(2, .int x_20), (4, .int x_13), (3, .int u_1), (0, .ref (z 0)), (1, .int 0)]) hx hb dX10_reckons_162 hl (k := 2) rfl (by rw [ex_20]; rfl) (by decide) rfl (fun ls hl => ?_)
          refine lv_aload_n hx hb dX10_reckons_165 rfl (lv_at hl 3 rfl) ?_
          refine va_get (ci := 10) (v := .ref (z 15)) (C := RX10) (T := TX10) (N := 40) hx hb hg inX10 hown hK hP 2 rfl rfl 15 (by decide) (hg _ q_5_239) (fun _ h9 => h9) rfl dX10_reckons_166 ?_
          refine lv_iload_n hx hb dX10_reckons_169 rfl (lv_at hl 0 rfl) ?_
          refine lv_iconst (v := 1) hx hb dX10_reckons_170 (by decide) ?_
          refine lv_isub hx hb dX10_reckons_171 ?_
          refine lv_topi (fun x_21 ex_21 => ?_)
          have bx_21 : iv 0 897 x_21 := by rw [ex_21]; exact iv_sub bx_20 (iv_c (1 : Int32) (a := 1) (b := 1) (by decide)) (by decide)
          refine lv_iload hx hb dX10_reckons_172 (lv_at hl 1 rfl) ?_
          refine lv_aload_n hx hb dX10_reckons_174 rfl (lv_at hl 3 rfl) ?_
          refine va_get (ci := 10) (v := .ref (z 15)) (C := RX10) (T := TX10) (N := 40) hx hb hg inX10 hown hK hP 2 rfl rfl 15 (by decide) (hg _ q_5_239) (fun _ h9 => h9) rfl dX10_reckons_175 ?_
          refine lv_iload_n hx hb dX10_reckons_178 rfl (lv_at hl 0 rfl) ?_
          refine lv_iconst (v := 1) hx hb dX10_reckons_179 (by decide) ?_
          refine lv_isub hx hb dX10_reckons_180 ?_
          refine tpi (y := x_21) ex_21.symm ?_
          refine va_iald hx hb hK hP 0 0 rfl rfl (iv_in bx_21 (by decide)) dX10_reckons_181 ?_
          refine lv_topi (fun x_22 ex_22 => ?_)
          refine lv_aload_n hx hb dX10_reckons_182 rfl (lv_at hl 3 rfl) ?_
          refine va_get (ci := 10) (v := .ref (z 15)) (C := RX10) (T := TX10) (N := 40) hx hb hg inX10 hown hK hP 2 rfl rfl 15 (by decide) (hg _ q_5_239) (fun _ h9 => h9) rfl dX10_reckons_183 ?_
          refine lv_iload_n hx hb dX10_reckons_186 rfl (lv_at hl 0 rfl) ?_
          refine va_iald hx hb hK hP 0 0 rfl rfl (iv_in bx_20 (by decide)) dX10_reckons_187 ?_
          refine lv_topi (fun x_23 ex_23 => ?_)
          refine jnI (wr := [(z 15, aI V 900 f_3), (z 16, aI V 6 fz16), (z 0, .inr (10, mo z pz0_0 pz0_5 pz0_6 pz0_7 pz0_8 pz0_9 pz0_10 pz0_11 pz0_12 pz0_13 pz0_14 pz0_18 pz0_19 pz0_22 pz0_23 pz0_29)), (z 1, aI V 3075 fz1)]) (rnS (rest := [.int x_21, .ref (z 15)]) ⟨hx, hb, hml, hown, hg⟩ (k_X10_between_0 l V x_13 x_22 x_23) mt_X10_between q_7_43 ⟨Nat.le_of_ble_eq_true rfl, Nat.le_of_ble_eq_true rfl⟩ hK hP hD hS hA hE [] rfl rfl rfl hl.1 rfl (Nat.le_of_ble_eq_true rfl) dX10_reckons_188 ⟨Nat.le_of_ble_eq_true rfl, Nat.le_of_ble_eq_true rfl⟩) hP hD hS hA [] [0, 1, 2, 3] rfl rfl rfl (by decide) (fun r_24 w H locs hw hP hD hS => ?_)
          subst hw
          have hP : va_P V.1 vwCl [(z 15, aI V 900 f_3), (z 16, aI V 6 fz16), (z 0, .inr (10, mo z pz0_0 pz0_5 pz0_6 pz0_7 pz0_8 pz0_9 pz0_10 pz0_11 pz0_12 pz0_13 pz0_14 pz0_18 pz0_19 pz0_22 pz0_23 pz0_29)), (z 1, aI V 3075 fz1)] H := hP
          have hD : va_D A [(z 15, aI V 900 f_3), (z 16, aI V 6 fz16), (z 0, .inr (10, mo z pz0_0 pz0_5 pz0_6 pz0_7 pz0_8 pz0_9 pz0_10 pz0_11 pz0_12 pz0_13 pz0_14 pz0_18 pz0_19 pz0_22 pz0_23 pz0_29)), (z 1, aI V 3075 fz1)] := hD
          refine va_iast hx hb hK hP hD hS 0 0 rfl rfl (iv_in bx_21 (by decide)) dX10_reckons_191 (fun H locs hP hD hS => ?_)
          obtain ⟨f_25, hP, hD⟩ : ∃ f_25 : Nat → Int32, va_P V.1 vwCl [(z 15, aI V 900 f_25), (z 16, aI V 6 fz16), (z 0, .inr (10, mo z pz0_0 pz0_5 pz0_6 pz0_7 pz0_8 pz0_9 pz0_10 pz0_11 pz0_12 pz0_13 pz0_14 pz0_18 pz0_19 pz0_22 pz0_23 pz0_29)), (z 1, aI V 3075 fz1)] H ∧ va_D A [(z 15, aI V 900 f_25), (z 16, aI V 6 fz16), (z 0, .inr (10, mo z pz0_0 pz0_5 pz0_6 pz0_7 pz0_8 pz0_9 pz0_10 pz0_11 pz0_12 pz0_13 pz0_14 pz0_18 pz0_19 pz0_22 pz0_23 pz0_29)), (z 1, aI V 3075 fz1)] := ⟨_, hP, hD⟩
          obtain ⟨x_26, ex_26⟩ : ∃ z9 : Int32, z9 = u_1 + 1 := ⟨_, rfl⟩
          have bx_26 : iv 1 900 x_26 := by rw [ex_26]; exact iv_add b_8 (iv_c (1 : Int32) (a := 1) (b := 1) (by decide)) (by decide)
          refine lv_iinc (v := x_26) (lv' := [(3, .int x_26), (2, .int x_20), (4, .int x_13), (0, .ref (z 0)), (1, .int 0)]) hx hb dX10_reckons_192 hl (k := 2) rfl (by rw [ex_26]; rfl) (by decide) rfl (fun ls hl => ?_)
          refine lv_goto (tgt := 4) hx hb dX10_reckons_195 (by decide) ?_
          exact ihn_4 _ _ _ _ (by rw [en_4, ex_26]; exact mu_up b_8 (by decide)) ⟨x_26, x_20, f_25, (iv_w bx_26 (by decide)), (iv_w bx_20 (by decide)), (RK_s (law := (0 : Int32)) (i6 := 6) (iv_c (0 : Int32) (by decide)) b_8 inn_4_0 (by decide) ex_10 bx_10 ex_11 ex_12 ex_13 ex_26 (by have q8 := toInt_add ex_20 b_19 (iv_c ((-1) : Int32) (a := (-1)) (b := (-1)) (by decide)) (by decide); have q7 : ((-1) : Int32).toInt = (-1) := (by decide); have q9 := eff_two (Int32.not_lt.mpr c_15) c_17 c_18; omega)), rfl, hP, hD, hS, lv_sub hl [0, 1, 3, 4] rfl⟩
        · have b_27 : iv 3009 3009 x_13 := iv_q c_18 (iv_c (3009 : Int32) (a := 3009) (b := 3009) (by decide))
          have b_28 : iv 3 899 u_2 := by have q9 := hc_x_13.2.1; have q8 := ned_if c_18; have q7 := b_14; unfold iv at *; omega
          obtain ⟨x_29, ex_29⟩ : ∃ z9 : Int32, z9 = u_2 + (-2) := ⟨_, rfl⟩
          have bx_29 : iv 1 897 x_29 := by rw [ex_29]; exact iv_add b_28 (iv_c ((-2) : Int32) (a := (-2)) (b := (-2)) (by decide)) (by decide)
          refine lv_iinc (v := x_29) (lv' := [(2, .int x_29), (4, .int x_13), (3, .int u_1), (0, .ref (z 0)), (1, .int 0)]) hx hb dX10_reckons_119 hl (k := 2) rfl (by rw [ex_29]; rfl) (by decide) rfl (fun ls hl => ?_)
          refine lv_aload_n hx hb dX10_reckons_122 rfl (lv_at hl 3 rfl) ?_
          refine va_get (ci := 10) (v := .ref (z 15)) (C := RX10) (T := TX10) (N := 40) hx hb hg inX10 hown hK hP 2 rfl rfl 15 (by decide) (hg _ q_5_239) (fun _ h9 => h9) rfl dX10_reckons_123 ?_
          refine lv_iload_n hx hb dX10_reckons_126 rfl (lv_at hl 0 rfl) ?_
          refine lv_iconst (v := 1) hx hb dX10_reckons_127 (by decide) ?_
          refine lv_isub hx hb dX10_reckons_128 ?_
          refine lv_topi (fun x_30 ex_30 => ?_)
          have bx_30 : iv 0 896 x_30 := by rw [ex_30]; exact iv_sub bx_29 (iv_c (1 : Int32) (a := 1) (b := 1) (by decide)) (by decide)
          refine lv_aload_n hx hb dX10_reckons_129 rfl (lv_at hl 3 rfl) ?_
          refine va_get (ci := 10) (v := .ref (z 15)) (C := RX10) (T := TX10) (N := 40) hx hb hg inX10 hown hK hP 2 rfl rfl 15 (by decide) (hg _ q_5_239) (fun _ h9 => h9) rfl dX10_reckons_130 ?_
          refine lv_iload_n hx hb dX10_reckons_133 rfl (lv_at hl 0 rfl) ?_
          refine lv_iconst (v := 1) hx hb dX10_reckons_134 (by decide) ?_
          refine lv_isub hx hb dX10_reckons_135 ?_
          refine tpi (y := x_30) ex_30.symm ?_
          refine va_iald hx hb hK hP 0 0 rfl rfl (iv_in bx_30 (by decide)) dX10_reckons_136 ?_
          refine lv_topi (fun x_31 ex_31 => ?_)
          refine lv_iconst (v := 1) hx hb dX10_reckons_137 (by decide) ?_
          refine lv_icmp_ne (tgt := 150) hx hb dX10_reckons_138 (by decide) (fun c_32 => ?_) (fun c_32 => ?_)
          · refine lv_aload_n hx hb dX10_reckons_150 rfl (lv_at hl 3 rfl) ?_
            refine va_get (ci := 10) (v := .ref (z 15)) (C := RX10) (T := TX10) (N := 40) hx hb hg inX10 hown hK hP 2 rfl rfl 15 (by decide) (hg _ q_5_239) (fun _ h9 => h9) rfl dX10_reckons_151 ?_
            refine lv_iload_n hx hb dX10_reckons_154 rfl (lv_at hl 0 rfl) ?_
            refine lv_iconst (v := 1) hx hb dX10_reckons_155 (by decide) ?_
            refine lv_iadd hx hb dX10_reckons_156 ?_
            refine lv_topi (fun x_33 ex_33 => ?_)
            have bx_33 : iv 2 898 x_33 := by rw [ex_33]; exact iv_add bx_29 (iv_c (1 : Int32) (a := 1) (b := 1) (by decide)) (by decide)
            refine va_iald hx hb hK hP 0 0 rfl rfl (iv_in bx_33 (by decide)) dX10_reckons_157 ?_
            refine lv_topi (fun x_34 ex_34 => ?_)
            refine va_iast hx hb hK hP hD hS 0 0 rfl rfl (iv_in bx_30 (by decide)) dX10_reckons_158 (fun H locs hP hD hS => ?_)
            obtain ⟨f_35, hP, hD⟩ : ∃ f_35 : Nat → Int32, va_P V.1 vwCl [(z 15, aI V 900 f_35), (z 16, aI V 6 fz16), (z 0, .inr (10, mo z pz0_0 pz0_5 pz0_6 pz0_7 pz0_8 pz0_9 pz0_10 pz0_11 pz0_12 pz0_13 pz0_14 pz0_18 pz0_19 pz0_22 pz0_23 pz0_29)), (z 1, aI V 3075 fz1)] H ∧ va_D A [(z 15, aI V 900 f_35), (z 16, aI V 6 fz16), (z 0, .inr (10, mo z pz0_0 pz0_5 pz0_6 pz0_7 pz0_8 pz0_9 pz0_10 pz0_11 pz0_12 pz0_13 pz0_14 pz0_18 pz0_19 pz0_22 pz0_23 pz0_29)), (z 1, aI V 3075 fz1)] := ⟨_, hP, hD⟩
            refine lv_goto (tgt := 192) hx hb dX10_reckons_159 (by decide) ?_
            obtain ⟨x_36, ex_36⟩ : ∃ z9 : Int32, z9 = u_1 + 1 := ⟨_, rfl⟩
            have bx_36 : iv 1 900 x_36 := by rw [ex_36]; exact iv_add b_8 (iv_c (1 : Int32) (a := 1) (b := 1) (by decide)) (by decide)
            refine lv_iinc (v := x_36) (lv' := [(3, .int x_36), (2, .int x_29), (4, .int x_13), (0, .ref (z 0)), (1, .int 0)]) hx hb dX10_reckons_192 hl (k := 2) rfl (by rw [ex_36]; rfl) (by decide) rfl (fun ls hl => ?_)
            refine lv_goto (tgt := 4) hx hb dX10_reckons_195 (by decide) ?_
            exact ihn_4 _ _ _ _ (by rw [en_4, ex_36]; exact mu_up b_8 (by decide)) ⟨x_36, x_29, f_35, (iv_w bx_36 (by decide)), (iv_w bx_29 (by decide)), (RK_s (law := (0 : Int32)) (i6 := 6) (iv_c (0 : Int32) (by decide)) b_8 inn_4_0 (by decide) ex_10 bx_10 ex_11 ex_12 ex_13 ex_36 (by have q8 := toInt_add ex_29 b_28 (iv_c ((-2) : Int32) (a := (-2)) (b := (-2)) (by decide)) (by decide); have q7 : ((-2) : Int32).toInt = (-2) := (by decide); have q9 := eff_if c_18; omega)), rfl, hP, hD, hS, lv_sub hl [0, 1, 3, 4] rfl⟩
          · have b_37 : iv 1 1 x_31 := iv_q c_32 (iv_c (1 : Int32) (a := 1) (b := 1) (by decide))
            refine lv_aload_n hx hb dX10_reckons_141 rfl (lv_at hl 3 rfl) ?_
            refine va_get (ci := 10) (v := .ref (z 15)) (C := RX10) (T := TX10) (N := 40) hx hb hg inX10 hown hK hP 2 rfl rfl 15 (by decide) (hg _ q_5_239) (fun _ h9 => h9) rfl dX10_reckons_142 ?_
            refine lv_iload_n hx hb dX10_reckons_145 rfl (lv_at hl 0 rfl) ?_
            refine va_iald hx hb hK hP 0 0 rfl rfl (iv_in bx_29 (by decide)) dX10_reckons_146 ?_
            refine lv_topi (fun x_38 ex_38 => ?_)
            refine lv_goto (tgt := 158) hx hb dX10_reckons_147 (by decide) ?_
            refine va_iast hx hb hK hP hD hS 0 0 rfl rfl (iv_in bx_30 (by decide)) dX10_reckons_158 (fun H locs hP hD hS => ?_)
            obtain ⟨f_39, hP, hD⟩ : ∃ f_39 : Nat → Int32, va_P V.1 vwCl [(z 15, aI V 900 f_39), (z 16, aI V 6 fz16), (z 0, .inr (10, mo z pz0_0 pz0_5 pz0_6 pz0_7 pz0_8 pz0_9 pz0_10 pz0_11 pz0_12 pz0_13 pz0_14 pz0_18 pz0_19 pz0_22 pz0_23 pz0_29)), (z 1, aI V 3075 fz1)] H ∧ va_D A [(z 15, aI V 900 f_39), (z 16, aI V 6 fz16), (z 0, .inr (10, mo z pz0_0 pz0_5 pz0_6 pz0_7 pz0_8 pz0_9 pz0_10 pz0_11 pz0_12 pz0_13 pz0_14 pz0_18 pz0_19 pz0_22 pz0_23 pz0_29)), (z 1, aI V 3075 fz1)] := ⟨_, hP, hD⟩
            refine lv_goto (tgt := 192) hx hb dX10_reckons_159 (by decide) ?_
            obtain ⟨x_40, ex_40⟩ : ∃ z9 : Int32, z9 = u_1 + 1 := ⟨_, rfl⟩
            have bx_40 : iv 1 900 x_40 := by rw [ex_40]; exact iv_add b_8 (iv_c (1 : Int32) (a := 1) (b := 1) (by decide)) (by decide)
            refine lv_iinc (v := x_40) (lv' := [(3, .int x_40), (2, .int x_29), (4, .int x_13), (0, .ref (z 0)), (1, .int 0)]) hx hb dX10_reckons_192 hl (k := 2) rfl (by rw [ex_40]; rfl) (by decide) rfl (fun ls hl => ?_)
            refine lv_goto (tgt := 4) hx hb dX10_reckons_195 (by decide) ?_
            exact ihn_4 _ _ _ _ (by rw [en_4, ex_40]; exact mu_up b_8 (by decide)) ⟨x_40, x_29, f_39, (iv_w bx_40 (by decide)), (iv_w bx_29 (by decide)), (RK_s (law := (0 : Int32)) (i6 := 6) (iv_c (0 : Int32) (by decide)) b_8 inn_4_0 (by decide) ex_10 bx_10 ex_11 ex_12 ex_13 ex_40 (by have q8 := toInt_add ex_29 b_28 (iv_c ((-2) : Int32) (a := (-2)) (b := (-2)) (by decide)) (by decide); have q7 : ((-2) : Int32).toInt = (-2) := (by decide); have q9 := eff_if c_18; omega)), rfl, hP, hD, hS, lv_sub hl [0, 1, 3, 4] rfl⟩
      · have b_41 : iv 3006 3006 x_13 := iv_q c_17 (iv_c (3006 : Int32) (a := 3006) (b := 3006) (by decide))
        have b_42 : iv 1 899 u_2 := by have q9 := hc_x_13.2.1; have q8 := ned_not c_17; have q7 := b_14; unfold iv at *; omega
        refine lv_aload_n hx hb dX10_reckons_90 rfl (lv_at hl 3 rfl) ?_
        refine va_get (ci := 10) (v := .ref (z 15)) (C := RX10) (T := TX10) (N := 40) hx hb hg inX10 hown hK hP 2 rfl rfl 15 (by decide) (hg _ q_5_239) (fun _ h9 => h9) rfl dX10_reckons_91 ?_
        refine lv_iload_n hx hb dX10_reckons_94 rfl (lv_at hl 2 rfl) ?_
        refine lv_iconst (v := 1) hx hb dX10_reckons_95 (by decide) ?_
        refine lv_isub hx hb dX10_reckons_96 ?_
        refine lv_topi (fun x_43 ex_43 => ?_)
        have bx_43 : iv 0 898 x_43 := by rw [ex_43]; exact iv_sub b_42 (iv_c (1 : Int32) (a := 1) (b := 1) (by decide)) (by decide)
        refine lv_iconst (v := 1) hx hb dX10_reckons_97 (by decide) ?_
        refine lv_aload_n hx hb dX10_reckons_98 rfl (lv_at hl 3 rfl) ?_
        refine va_get (ci := 10) (v := .ref (z 15)) (C := RX10) (T := TX10) (N := 40) hx hb hg inX10 hown hK hP 2 rfl rfl 15 (by decide) (hg _ q_5_239) (fun _ h9 => h9) rfl dX10_reckons_99 ?_
        refine lv_iload_n hx hb dX10_reckons_102 rfl (lv_at hl 2 rfl) ?_
        refine lv_iconst (v := 1) hx hb dX10_reckons_103 (by decide) ?_
        refine lv_isub hx hb dX10_reckons_104 ?_
        refine tpi (y := x_43) ex_43.symm ?_
        refine va_iald hx hb hK hP 0 0 rfl rfl (iv_in bx_43 (by decide)) dX10_reckons_105 ?_
        refine lv_topi (fun x_44 ex_44 => ?_)
        refine lv_isub hx hb dX10_reckons_106 ?_
        refine lv_topi (fun x_45 ex_45 => ?_)
        refine va_iast hx hb hK hP hD hS 0 0 rfl rfl (iv_in bx_43 (by decide)) dX10_reckons_107 (fun H locs hP hD hS => ?_)
        obtain ⟨f_46, hP, hD⟩ : ∃ f_46 : Nat → Int32, va_P V.1 vwCl [(z 15, aI V 900 f_46), (z 16, aI V 6 fz16), (z 0, .inr (10, mo z pz0_0 pz0_5 pz0_6 pz0_7 pz0_8 pz0_9 pz0_10 pz0_11 pz0_12 pz0_13 pz0_14 pz0_18 pz0_19 pz0_22 pz0_23 pz0_29)), (z 1, aI V 3075 fz1)] H ∧ va_D A [(z 15, aI V 900 f_46), (z 16, aI V 6 fz16), (z 0, .inr (10, mo z pz0_0 pz0_5 pz0_6 pz0_7 pz0_8 pz0_9 pz0_10 pz0_11 pz0_12 pz0_13 pz0_14 pz0_18 pz0_19 pz0_22 pz0_23 pz0_29)), (z 1, aI V 3075 fz1)] := ⟨_, hP, hD⟩
        refine lv_goto (tgt := 192) hx hb dX10_reckons_108 (by decide) ?_
        obtain ⟨x_47, ex_47⟩ : ∃ z9 : Int32, z9 = u_1 + 1 := ⟨_, rfl⟩
        have bx_47 : iv 1 900 x_47 := by rw [ex_47]; exact iv_add b_8 (iv_c (1 : Int32) (a := 1) (b := 1) (by decide)) (by decide)
        refine lv_iinc (v := x_47) (lv' := [(3, .int x_47), (4, .int x_13), (2, .int u_2), (0, .ref (z 0)), (1, .int 0)]) hx hb dX10_reckons_192 hl (k := 1) rfl (by rw [ex_47]; rfl) (by decide) rfl (fun ls hl => ?_)
        refine lv_goto (tgt := 4) hx hb dX10_reckons_195 (by decide) ?_
        exact ihn_4 _ _ _ _ (by rw [en_4, ex_47]; exact mu_up b_8 (by decide)) ⟨x_47, u_2, f_46, (iv_w bx_47 (by decide)), (iv_w b_42 (by decide)), (RK_s (law := (0 : Int32)) (i6 := 6) (iv_c (0 : Int32) (by decide)) b_8 inn_4_0 (by decide) ex_10 bx_10 ex_11 ex_12 ex_13 ex_47 (by have q9 := eff_not c_17; omega)), rfl, hP, hD, hS, lv_sub hl [0, 2, 3, 4] rfl⟩
    · have b_48 : iv (-2147483648) 2999 x_13 := iv_l1 (Int32.not_le.mp c_15) (iv_top x_13) (iv_c (3000 : Int32) (a := 3000) (b := 3000) (by decide)) (by decide)
      refine lv_aload_n hx hb dX10_reckons_46 rfl (lv_at hl 3 rfl) ?_
      refine va_get (ci := 10) (v := .ref (z 15)) (C := RX10) (T := TX10) (N := 40) hx hb hg inX10 hown hK hP 2 rfl rfl 15 (by decide) (hg _ q_5_239) (fun _ h9 => h9) rfl dX10_reckons_47 ?_
      refine lv_iload_n hx hb dX10_reckons_50 rfl (lv_at hl 2 rfl) ?_
      refine lv_iload hx hb dX10_reckons_51 (lv_at hl 0 rfl) ?_
      refine lv_sipush (v := 1000) hx hb dX10_reckons_53 (by decide) ?_
      refine lv_icmp_ge (tgt := 64) hx hb dX10_reckons_56 (by decide) (fun c_49 => ?_) (fun c_49 => ?_)
      · have b_50 : iv 1000 2999 x_13 := iv_e2 c_49 (iv_c (1000 : Int32) (a := 1000) (b := 1000) (by decide)) b_48 (by decide)
        refine lv_aload_n hx hb dX10_reckons_64 rfl (lv_at hl 3 rfl) ?_
        refine va_get (ci := 10) (v := .ref (z 16)) (C := RX10) (T := TX10) (N := 40) hx hb hg inX10 hown hK hP 2 rfl rfl 16 (by decide) (hg _ q_6_0) (fun _ h9 => h9) rfl dX10_reckons_65 ?_
        refine lv_iload hx hb dX10_reckons_68 (lv_at hl 0 rfl) ?_
        refine lv_sipush (v := 1000) hx hb dX10_reckons_70 (by decide) ?_
        refine lv_isub hx hb dX10_reckons_73 ?_
        refine lv_topi (fun x_51 ex_51 => ?_)
        have bx_51 : iv 0 1999 x_51 := by rw [ex_51]; exact iv_subl c_49 b_50 (iv_c (1000 : Int32) (a := 1000) (b := 1000) (by decide)) (by decide)
        have b_52 : iv 0 5 x_51 := by have q9 := hc_x_13.1.2; have q8 := b_50; have q7 := toInt_sub ex_51 b_50 (iv_c (1000 : Int32) (a := 1000) (b := 1000) (by decide)) (by decide); have q6 : (1000 : Int32).toInt = 1000 := (by decide); unfold iv at *; omega
        refine va_iald hx hb hK hP 1 0 rfl rfl (iv_in b_52 (by decide)) dX10_reckons_74 ?_
        refine lv_topi (fun x_53 ex_53 => ?_)
        refine va_iast hx hb hK hP hD hS 0 0 rfl rfl (iv_in b_14 (by decide)) dX10_reckons_75 (fun H locs hP hD hS => ?_)
        obtain ⟨f_54, hP, hD⟩ : ∃ f_54 : Nat → Int32, va_P V.1 vwCl [(z 15, aI V 900 f_54), (z 16, aI V 6 fz16), (z 0, .inr (10, mo z pz0_0 pz0_5 pz0_6 pz0_7 pz0_8 pz0_9 pz0_10 pz0_11 pz0_12 pz0_13 pz0_14 pz0_18 pz0_19 pz0_22 pz0_23 pz0_29)), (z 1, aI V 3075 fz1)] H ∧ va_D A [(z 15, aI V 900 f_54), (z 16, aI V 6 fz16), (z 0, .inr (10, mo z pz0_0 pz0_5 pz0_6 pz0_7 pz0_8 pz0_9 pz0_10 pz0_11 pz0_12 pz0_13 pz0_14 pz0_18 pz0_19 pz0_22 pz0_23 pz0_29)), (z 1, aI V 3075 fz1)] := ⟨_, hP, hD⟩
        obtain ⟨x_55, ex_55⟩ : ∃ z9 : Int32, z9 = u_2 + 1 := ⟨_, rfl⟩
        have bx_55 : iv 1 900 x_55 := by rw [ex_55]; exact iv_add b_14 (iv_c (1 : Int32) (a := 1) (b := 1) (by decide)) (by decide)
        refine lv_iinc (v := x_55) (lv' := [(2, .int x_55), (4, .int x_13), (3, .int u_1), (0, .ref (z 0)), (1, .int 0)]) hx hb dX10_reckons_76 hl (k := 2) rfl (by rw [ex_55]; rfl) (by decide) rfl (fun ls hl => ?_)
        refine lv_goto (tgt := 192) hx hb dX10_reckons_79 (by decide) ?_
        obtain ⟨x_56, ex_56⟩ : ∃ z9 : Int32, z9 = u_1 + 1 := ⟨_, rfl⟩
        have bx_56 : iv 1 900 x_56 := by rw [ex_56]; exact iv_add b_8 (iv_c (1 : Int32) (a := 1) (b := 1) (by decide)) (by decide)
        refine lv_iinc (v := x_56) (lv' := [(3, .int x_56), (2, .int x_55), (4, .int x_13), (0, .ref (z 0)), (1, .int 0)]) hx hb dX10_reckons_192 hl (k := 2) rfl (by rw [ex_56]; rfl) (by decide) rfl (fun ls hl => ?_)
        refine lv_goto (tgt := 4) hx hb dX10_reckons_195 (by decide) ?_
        exact ihn_4 _ _ _ _ (by rw [en_4, ex_56]; exact mu_up b_8 (by decide)) ⟨x_56, x_55, f_54, (iv_w bx_56 (by decide)), (iv_w bx_55 (by decide)), (RK_s (law := (0 : Int32)) (i6 := 6) (iv_c (0 : Int32) (by decide)) b_8 inn_4_0 (by decide) ex_10 bx_10 ex_11 ex_12 ex_13 ex_56 (by have q8 := toInt_add ex_55 b_14 (iv_c (1 : Int32) (a := 1) (b := 1) (by decide)) (by decide); have q7 : (1 : Int32).toInt = 1 := (by decide); have q9 := eff_push (Int32.not_le.mp c_15); omega)), rfl, hP, hD, hS, lv_sub hl [0, 1, 3, 4] rfl⟩
      · have b_57 : iv (-2147483648) 999 x_13 := iv_l1 (Int32.not_le.mp c_49) b_48 (iv_c (1000 : Int32) (a := 1000) (b := 1000) (by decide)) (by decide)
        refine lv_iload hx hb dX10_reckons_59 (lv_at hl 0 rfl) ?_
        refine lv_goto (tgt := 75) hx hb dX10_reckons_61 (by decide) ?_
        refine va_iast hx hb hK hP hD hS 0 0 rfl rfl (iv_in b_14 (by decide)) dX10_reckons_75 (fun H locs hP hD hS => ?_)
        obtain ⟨f_58, hP, hD⟩ : ∃ f_58 : Nat → Int32, va_P V.1 vwCl [(z 15, aI V 900 f_58), (z 16, aI V 6 fz16), (z 0, .inr (10, mo z pz0_0 pz0_5 pz0_6 pz0_7 pz0_8 pz0_9 pz0_10 pz0_11 pz0_12 pz0_13 pz0_14 pz0_18 pz0_19 pz0_22 pz0_23 pz0_29)), (z 1, aI V 3075 fz1)] H ∧ va_D A [(z 15, aI V 900 f_58), (z 16, aI V 6 fz16), (z 0, .inr (10, mo z pz0_0 pz0_5 pz0_6 pz0_7 pz0_8 pz0_9 pz0_10 pz0_11 pz0_12 pz0_13 pz0_14 pz0_18 pz0_19 pz0_22 pz0_23 pz0_29)), (z 1, aI V 3075 fz1)] := ⟨_, hP, hD⟩
        obtain ⟨x_59, ex_59⟩ : ∃ z9 : Int32, z9 = u_2 + 1 := ⟨_, rfl⟩
        have bx_59 : iv 1 900 x_59 := by rw [ex_59]; exact iv_add b_14 (iv_c (1 : Int32) (a := 1) (b := 1) (by decide)) (by decide)
        refine lv_iinc (v := x_59) (lv' := [(2, .int x_59), (4, .int x_13), (3, .int u_1), (0, .ref (z 0)), (1, .int 0)]) hx hb dX10_reckons_76 hl (k := 2) rfl (by rw [ex_59]; rfl) (by decide) rfl (fun ls hl => ?_)
        refine lv_goto (tgt := 192) hx hb dX10_reckons_79 (by decide) ?_
        obtain ⟨x_60, ex_60⟩ : ∃ z9 : Int32, z9 = u_1 + 1 := ⟨_, rfl⟩
        have bx_60 : iv 1 900 x_60 := by rw [ex_60]; exact iv_add b_8 (iv_c (1 : Int32) (a := 1) (b := 1) (by decide)) (by decide)
        refine lv_iinc (v := x_60) (lv' := [(3, .int x_60), (2, .int x_59), (4, .int x_13), (0, .ref (z 0)), (1, .int 0)]) hx hb dX10_reckons_192 hl (k := 2) rfl (by rw [ex_60]; rfl) (by decide) rfl (fun ls hl => ?_)
        refine lv_goto (tgt := 4) hx hb dX10_reckons_195 (by decide) ?_
        exact ihn_4 _ _ _ _ (by rw [en_4, ex_60]; exact mu_up b_8 (by decide)) ⟨x_60, x_59, f_58, (iv_w bx_60 (by decide)), (iv_w bx_59 (by decide)), (RK_s (law := (0 : Int32)) (i6 := 6) (iv_c (0 : Int32) (by decide)) b_8 inn_4_0 (by decide) ex_10 bx_10 ex_11 ex_12 ex_13 ex_60 (by have q8 := toInt_add ex_59 b_14 (iv_c (1 : Int32) (a := 1) (b := 1) (by decide)) (by decide); have q7 : (1 : Int32).toInt = 1 := (by decide); have q9 := eff_push (Int32.not_le.mp c_15); omega)), rfl, hP, hD, hS, lv_sub hl [0, 1, 3, 4] rfl⟩
theorem dX10_takesNow_0 : decode cX10_takesNow 0 = .ok (.aload_n 0, 1) := by decide +kernel
theorem dX10_takesNow_1 : decode cX10_takesNow 1 = .ok (.getfield 13, 3) := by decide +kernel
theorem dX10_takesNow_4 : decode cX10_takesNow 4 = .ok (.iconst 4, 1) := by decide +kernel
theorem dX10_takesNow_5 : decode cX10_takesNow 5 = .ok (.iaload, 1) := by decide +kernel
theorem dX10_takesNow_6 : decode cX10_takesNow 6 = .ok (.ifCond .ne 21, 3) := by decide +kernel
theorem dX10_takesNow_27 : decode cX10_takesNow 27 = .ok (.aload_n 0, 1) := by decide +kernel
theorem dX10_takesNow_28 : decode cX10_takesNow 28 = .ok (.iconst 0, 1) := by decide +kernel
theorem q_7_42 : Cond.code yX10_reckons prog_12_method_46_code 5 (some FieldType.int) ∈ gw := gw_7 (i := 42) (rfl) rfl
theorem q_7_41 : Cond.instanceMethod yX10_reckons ∈ gw := gw_7 (i := 41) (by decide +kernel) rfl
theorem q_s_85 : Cond.selects "BeaconDelayModel" yX10_reckons yX10_reckons ∈ gw := gw_s (i := 85) (by decide +kernel) rfl
theorem mt_X10_reckons : MtV yX10_reckons cX10_reckons 5 (some .int) 1 := ⟨⟨q_7_42, q_1_9, by decide +kernel, by decide +kernel, by decide +kernel⟩, q_7_41, q_s_85⟩
theorem q_7_39 : Cond.methodLink "BeaconDelayModel" 248 yX10_reckons ∈ gw := gw_7 (i := 39) (by decide +kernel) rfl
theorem dX10_takesNow_29 : decode cX10_takesNow 29 = .ok (.invokevirtual 248, 3) := by decide +kernel
theorem dX10_takesNow_32 : decode cX10_takesNow 32 = .ok (.iconst 1, 1) := by decide +kernel
theorem dX10_takesNow_33 : decode cX10_takesNow 33 = .ok (.if_icmp .ne 7, 3) := by decide +kernel
theorem dX10_takesNow_40 : decode cX10_takesNow 40 = .ok (.iconst 0, 1) := by decide +kernel
theorem dX10_takesNow_41 : decode cX10_takesNow 41 = .ok (.ireturn, 1) := by decide +kernel
theorem dX10_takesNow_36 : decode cX10_takesNow 36 = .ok (.iconst 1, 1) := by decide +kernel
theorem dX10_takesNow_37 : decode cX10_takesNow 37 = .ok (.goto 4, 3) := by decide +kernel
theorem dX10_takesNow_9 : decode cX10_takesNow 9 = .ok (.aload_n 0, 1) := by decide +kernel
theorem dX10_takesNow_10 : decode cX10_takesNow 10 = .ok (.getfield 33, 3) := by decide +kernel
theorem dX10_takesNow_13 : decode cX10_takesNow 13 = .ok (.iconst 3, 1) := by decide +kernel
theorem dX10_takesNow_14 : decode cX10_takesNow 14 = .ok (.iaload, 1) := by decide +kernel
theorem dX10_takesNow_15 : decode cX10_takesNow 15 = .ok (.iconst 1, 1) := by decide +kernel
theorem dX10_takesNow_16 : decode cX10_takesNow 16 = .ok (.if_icmp .ne 7, 3) := by decide +kernel
theorem dX10_takesNow_23 : decode cX10_takesNow 23 = .ok (.iconst 0, 1) := by decide +kernel
theorem dX10_takesNow_24 : decode cX10_takesNow 24 = .ok (.goto 17, 3) := by decide +kernel
theorem dX10_takesNow_19 : decode cX10_takesNow 19 = .ok (.iconst 1, 1) := by decide +kernel
theorem dX10_takesNow_20 : decode cX10_takesNow 20 = .ok (.goto 21, 3) := by decide +kernel
set_option maxHeartbeats 4000000 in
set_option maxRecDepth 100000 in
theorem k_X10_takesNow_0 (l : Launch) (V : GV) (z : Nat → Nat) (fz15 : Nat → Int32) (fz16 : Nat → Int32) (pz0_0 : Int32) (pz0_5 : Int32) (pz0_6 : Int32) (pz0_7 : Int32) (pz0_8 : Int32) (pz0_9 : Int32) (pz0_10 : Int32) (pz0_11 : Int32) (pz0_12 : Int32) (pz0_13 : Int32) (pz0_14 : Int32) (pz0_18 : Int32) (pz0_19 : Int32) (pz0_22 : Int32) (pz0_23 : Int32) (pz0_29 : Int32) (fz1 : Nat → Int32) (tfz16 : ivT tW fz16) (bpz0_5 : iv 0 900 pz0_5) (bpz0_6 : iv 0 900 pz0_6) (bpz0_7 : iv 0 900 pz0_7) (bpz0_8 : iv 0 900 pz0_8) (bpz0_10 : iv 0 999 pz0_10) (bpz0_11 : iv 0 4 pz0_11) (bpz0_12 : iv 0 900 pz0_12) (bpz0_13 : iv 0 4 pz0_13) (bpz0_14 : iv (-1) 900 pz0_14) (bpz0_18 : iv 0 2 pz0_18) (bpz0_22 : iv 0 9999 pz0_22) (bpz0_29 : iv 0 10000 pz0_29) (tfz1 : ivT tA fz1) (hf0 : RW fz1) : Ct l V yX10_takesNow (.code yX10_takesNow cX10_takesNow 1 (some .boolean)) 3 [.ref (z 0)] [(z 15, aI V 900 fz15), (z 16, aI V 6 fz16), (z 0, .inr (10, mo z pz0_0 pz0_5 pz0_6 pz0_7 pz0_8 pz0_9 pz0_10 pz0_11 pz0_12 pz0_13 pz0_14 pz0_18 pz0_19 pz0_22 pz0_23 pz0_29)), (z 1, aI V 3075 fz1)] 0 0 (QI V (fun (r : Int32) (w : va_W) => ∃ (g0 : Nat → Int32), iv 0 1 r ∧ (RW fz1) ∧ w = [(z 15, aI V 900 g0), (z 16, aI V 6 fz16), (z 0, .inr (10, mo z pz0_0 pz0_5 pz0_6 pz0_7 pz0_8 pz0_9 pz0_10 pz0_11 pz0_12 pz0_13 pz0_14 pz0_18 pz0_19 pz0_22 pz0_23 pz0_29)), (z 1, aI V 3075 fz1)])) := by
  refine Ct.of (by decide) (Nat.le_of_ble_eq_true rfl) (fun p e s m below meth c A ls hx hb hr hml hown hlk hnm hg hP hK hD hE hA hS hl => ?_)
  have hl : lv_has ls 1 [(0, .ref (z 0))] := hl
  refine lv_aload_n hx hb dX10_takesNow_0 rfl (lv_at hl 0 rfl) ?_
  refine va_get (ci := 10) (v := .ref (z 1)) (C := RX10) (T := TX10) (N := 40) hx hb hg inX10 hown hK hP 2 rfl rfl 1 (by decide) (hg _ q_5_225) (fun _ h9 => h9) rfl dX10_takesNow_1 ?_
  refine lv_iconst (v := 4) hx hb dX10_takesNow_4 (by decide) ?_
  refine va_iald hx hb hK hP 3 0 rfl rfl (vin (by decide +kernel)) dX10_takesNow_5 ?_
  refine lv_topi (fun x_1 ex_1 => ?_)
  have bx_1 : iv 0 1 x_1 := by rw [ex_1]; exact rdT (a := 4) (n := 1) tfz1 (iv_c (4 : Int32) (a := 4) (b := 4) (by decide)) (by decide) (by decide +kernel)
  refine lv_if_ne (tgt := 27) hx hb dX10_takesNow_6 (by decide) (fun c_2 => ?_) (fun c_2 => ?_)
  · have b_3 : iv 1 1 x_1 := iv_n0 c_2 bx_1 (iv_c (0 : Int32) (a := 0) (b := 0) (by decide)) (by decide)
    refine lv_aload_n hx hb dX10_takesNow_27 rfl (lv_at hl 0 rfl) ?_
    refine lv_iconst (v := 0) hx hb dX10_takesNow_28 (by decide) ?_
    refine jnI (wr := []) (rnV (rest := []) ⟨hx, hb, hml, hown, hg⟩ (k_X10_reckons_0 l V z fz15 fz16 pz0_0 pz0_5 pz0_6 pz0_7 pz0_8 pz0_9 pz0_10 pz0_11 pz0_12 pz0_13 pz0_14 pz0_18 pz0_19 pz0_22 pz0_23 pz0_29 fz1 tfz16 bpz0_5 bpz0_6 bpz0_7 bpz0_8 bpz0_10 bpz0_11 bpz0_12 bpz0_13 bpz0_14 bpz0_18 bpz0_22 bpz0_29 tfz1 hf0) mt_X10_reckons q_7_39 ⟨Nat.le_of_ble_eq_true rfl, Nat.le_of_ble_eq_true rfl⟩ hK hP hD hS hA hE [0, 1, 2, 3] rfl rfl 2 rfl rfl rfl rfl hl.1 rfl (Nat.le_of_ble_eq_true rfl) dX10_takesNow_29 ⟨Nat.le_of_ble_eq_true rfl, Nat.le_of_ble_eq_true rfl⟩) hP hD hS hA [0, 1, 2, 3] [] rfl rfl rfl (by decide) (fun r_4 w H locs hw hP hD hS => ?_)
    obtain ⟨f_5, g_6, rfl⟩ := hw
    have hP : va_P V.1 vwCl [(z 15, aI V 900 f_5), (z 16, aI V 6 fz16), (z 0, .inr (10, mo z pz0_0 pz0_5 pz0_6 pz0_7 pz0_8 pz0_9 pz0_10 pz0_11 pz0_12 pz0_13 pz0_14 pz0_18 pz0_19 pz0_22 pz0_23 pz0_29)), (z 1, aI V 3075 fz1)] H := hP
    have hD : va_D A [(z 15, aI V 900 f_5), (z 16, aI V 6 fz16), (z 0, .inr (10, mo z pz0_0 pz0_5 pz0_6 pz0_7 pz0_8 pz0_9 pz0_10 pz0_11 pz0_12 pz0_13 pz0_14 pz0_18 pz0_19 pz0_22 pz0_23 pz0_29)), (z 1, aI V 3075 fz1)] := hD
    refine lv_iconst (v := 1) hx hb dX10_takesNow_32 (by decide) ?_
    refine lv_icmp_ne (tgt := 40) hx hb dX10_takesNow_33 (by decide) (fun c_7 => ?_) (fun c_7 => ?_)
    · refine lv_iconst (v := 0) hx hb dX10_takesNow_40 (by decide) ?_
      exact fiZ rfl hx hb hr hlk hK hP hD hS dX10_takesNow_41 (Nat.le_of_ble_eq_true rfl) (Nat.le_of_ble_eq_true rfl) (⟨f_5, (iv_c (0 : Int32) (by decide)), g_6, rfl⟩)
    · have b_8 : iv 1 1 r_4 := iv_q c_7 (iv_c (1 : Int32) (a := 1) (b := 1) (by decide))
      refine lv_iconst (v := 1) hx hb dX10_takesNow_36 (by decide) ?_
      refine lv_goto (tgt := 41) hx hb dX10_takesNow_37 (by decide) ?_
      exact fiZ rfl hx hb hr hlk hK hP hD hS dX10_takesNow_41 (Nat.le_of_ble_eq_true rfl) (Nat.le_of_ble_eq_true rfl) (⟨f_5, (iv_c (1 : Int32) (by decide)), g_6, rfl⟩)
  · have b_9 : iv 0 0 x_1 := iv_q c_2 (iv_c (0 : Int32) (a := 0) (b := 0) (by decide))
    refine lv_aload_n hx hb dX10_takesNow_9 rfl (lv_at hl 0 rfl) ?_
    refine va_get (ci := 10) (v := .ref (z 16)) (C := RX10) (T := TX10) (N := 40) hx hb hg inX10 hown hK hP 2 rfl rfl 16 (by decide) (hg _ q_6_0) (fun _ h9 => h9) rfl dX10_takesNow_10 ?_
    refine lv_iconst (v := 3) hx hb dX10_takesNow_13 (by decide) ?_
    refine va_iald hx hb hK hP 1 0 rfl rfl (vin (by decide +kernel)) dX10_takesNow_14 ?_
    refine lv_topi (fun x_10 ex_10 => ?_)
    refine lv_iconst (v := 1) hx hb dX10_takesNow_15 (by decide) ?_
    refine lv_icmp_ne (tgt := 23) hx hb dX10_takesNow_16 (by decide) (fun c_11 => ?_) (fun c_11 => ?_)
    · refine lv_iconst (v := 0) hx hb dX10_takesNow_23 (by decide) ?_
      refine lv_goto (tgt := 41) hx hb dX10_takesNow_24 (by decide) ?_
      exact fiZ rfl hx hb hr hlk hK hP hD hS dX10_takesNow_41 (Nat.le_of_ble_eq_true rfl) (Nat.le_of_ble_eq_true rfl) (⟨fz15, (iv_c (0 : Int32) (by decide)), hf0, rfl⟩)
    · have b_12 : iv 1 1 x_10 := iv_q c_11 (iv_c (1 : Int32) (a := 1) (b := 1) (by decide))
      refine lv_iconst (v := 1) hx hb dX10_takesNow_19 (by decide) ?_
      refine lv_goto (tgt := 41) hx hb dX10_takesNow_20 (by decide) ?_
      exact fiZ rfl hx hb hr hlk hK hP hD hS dX10_takesNow_41 (Nat.le_of_ble_eq_true rfl) (Nat.le_of_ble_eq_true rfl) (⟨fz15, (iv_c (1 : Int32) (by decide)), hf0, rfl⟩)
set_option maxHeartbeats 4000000 in
set_option maxRecDepth 100000 in
theorem k_X10_reckons_1 (l : Launch) (V : GV) (z : Nat → Nat) (fz15 : Nat → Int32) (fz16 : Nat → Int32) (pz0_0 : Int32) (pz0_5 : Int32) (pz0_6 : Int32) (pz0_7 : Int32) (pz0_8 : Int32) (pz0_9 : Int32) (pz0_10 : Int32) (pz0_11 : Int32) (pz0_12 : Int32) (pz0_13 : Int32) (pz0_14 : Int32) (pz0_18 : Int32) (pz0_19 : Int32) (pz0_22 : Int32) (pz0_23 : Int32) (pz0_29 : Int32) (fz1 : Nat → Int32) (tfz16 : ivT tW fz16) (bpz0_5 : iv 0 900 pz0_5) (bpz0_6 : iv 0 900 pz0_6) (bpz0_7 : iv 0 900 pz0_7) (bpz0_8 : iv 0 900 pz0_8) (bpz0_10 : iv 0 999 pz0_10) (bpz0_11 : iv 0 4 pz0_11) (bpz0_12 : iv 0 900 pz0_12) (bpz0_13 : iv 0 4 pz0_13) (bpz0_14 : iv (-1) 900 pz0_14) (bpz0_18 : iv 0 2 pz0_18) (bpz0_22 : iv 0 9999 pz0_22) (bpz0_29 : iv 0 10000 pz0_29) (tfz1 : ivT tA fz1) (hf0 : RW fz1) : Ct l V yX10_reckons (.code yX10_reckons cX10_reckons 5 (some .int)) 2 [.ref (z 0), .int 1] [(z 15, aI V 900 fz15), (z 16, aI V 6 fz16), (z 0, .inr (10, mo z pz0_0 pz0_5 pz0_6 pz0_7 pz0_8 pz0_9 pz0_10 pz0_11 pz0_12 pz0_13 pz0_14 pz0_18 pz0_19 pz0_22 pz0_23 pz0_29)), (z 1, aI V 3075 fz1)] 0 0 (QI V (fun (r : Int32) (w : va_W) => ∃ (g0 : Nat → Int32), (RW fz1) ∧ w = [(z 15, aI V 900 g0), (z 16, aI V 6 fz16), (z 0, .inr (10, mo z pz0_0 pz0_5 pz0_6 pz0_7 pz0_8 pz0_9 pz0_10 pz0_11 pz0_12 pz0_13 pz0_14 pz0_18 pz0_19 pz0_22 pz0_23 pz0_29)), (z 1, aI V 3075 fz1)])) := by
  refine Ct.of (by decide) (Nat.le_of_ble_eq_true rfl) (fun p e s m below meth c A ls hx hb hr hml hown hlk hnm hg hP hK hD hE hA hS hl => ?_)
  have hl : lv_has ls 5 [(0, .ref (z 0)), (1, .int 1)] := hl
  refine lv_iconst (v := 0) hx hb dX10_reckons_0 (by decide) ?_
  refine lv_istore_n (lv' := [(2, .int 0), (0, .ref (z 0)), (1, .int 1)]) hx hb dX10_reckons_1 rfl hl (by decide) rfl (fun ls hl => ?_)
  refine lv_iconst (v := 0) hx hb dX10_reckons_2 (by decide) ?_
  refine lv_istore_n (lv' := [(3, .int 0), (2, .int 0), (0, .ref (z 0)), (1, .int 1)]) hx hb dX10_reckons_3 rfl hl (by decide) rfl (fun ls hl => ?_)
  refine loopF (X := fun (n_4 : Nat) (H : Heap) (locs : List Loc) (ls : Array Slot) => ∃ (u_1 : Int32) (u_2 : Int32) (f_3 : Nat → Int32), (iv 0 900 u_1) ∧ (iv (-2147483648) 2147483647 u_2) ∧ (RK fz1 (1 : Int32) u_1 u_2) ∧ n_4 = (2147483647 - (u_1 : Int32).toInt).toNat ∧ va_P V.1 vwCl [(z 15, aI V 900 f_3), (z 16, aI V 6 fz16), (z 0, .inr (10, mo z pz0_0 pz0_5 pz0_6 pz0_7 pz0_8 pz0_9 pz0_10 pz0_11 pz0_12 pz0_13 pz0_14 pz0_18 pz0_19 pz0_22 pz0_23 pz0_29)), (z 1, aI V 3075 fz1)] H ∧ va_D A [(z 15, aI V 900 f_3), (z 16, aI V 6 fz16), (z 0, .inr (10, mo z pz0_0 pz0_5 pz0_6 pz0_7 pz0_8 pz0_9 pz0_10 pz0_11 pz0_12 pz0_13 pz0_14 pz0_18 pz0_19 pz0_22 pz0_23 pz0_29)), (z 1, aI V 3075 fz1)] ∧ va_S A s.heap H locs ∧ lv_has ls 5 [(3, .int u_1), (2, .int u_2), (0, .ref (z 0)), (1, .int 1)]) (g := fun ls => F0 m 4 ls []) (fun n_4 H locs ls hX ihn_4 => ?_) _ ⟨0, 0, fz15, (iv_c (0 : Int32) (by decide)), (iv_c (0 : Int32) (by decide)), RK_0, rfl, hP, hD, hS, lv_sub hl [0, 1, 2, 3] rfl⟩
  obtain ⟨u_1, u_2, f_3, bu_1, bu_2, inn_4_0, en_4, hP, hD, hS, hl⟩ := hX
  refine lv_iload_n hx hb dX10_reckons_4 rfl (lv_at hl 0 rfl) ?_
  refine lv_aload_n hx hb dX10_reckons_5 rfl (lv_at hl 2 rfl) ?_
  refine va_get (ci := 10) (v := .ref (z 1)) (C := RX10) (T := TX10) (N := 40) hx hb hg inX10 hown hK hP 2 rfl rfl 1 (by decide) (hg _ q_5_225) (fun _ h9 => h9) rfl dX10_reckons_6 ?_
  refine lv_bipush (v := 8) hx hb dX10_reckons_9 (by decide) ?_
  refine lv_iload_n hx hb dX10_reckons_11 rfl (lv_at hl 3 rfl) ?_
  refine lv_iadd hx hb dX10_reckons_12 ?_
  refine tpi (y := 9) (by decide +kernel) ?_
  refine va_iald hx hb hK hP 3 0 rfl rfl (vin (by decide +kernel)) dX10_reckons_13 ?_
  refine lv_topi (fun x_5 ex_5 => ?_)
  have bx_5 : iv 0 900 x_5 := by rw [ex_5]; exact rdT (a := 9) (n := 1) tfz1 (iv_c (9 : Int32) (a := 9) (b := 9) (by decide)) (by decide) (by decide +kernel)
  refine lv_icmp_ge (tgt := 198) hx hb dX10_reckons_14 (by decide) (fun c_6 => ?_) (fun c_6 => ?_)
  · refine lv_aload_n hx hb dX10_reckons_198 rfl (lv_at hl 2 rfl) ?_
    refine va_get (ci := 10) (v := .ref (z 15)) (C := RX10) (T := TX10) (N := 40) hx hb hg inX10 hown hK hP 2 rfl rfl 15 (by decide) (hg _ q_5_239) (fun _ h9 => h9) rfl dX10_reckons_199 ?_
    refine lv_iconst (v := 0) hx hb dX10_reckons_202 (by decide) ?_
    refine va_iald hx hb hK hP 0 0 rfl rfl (vin (by decide +kernel)) dX10_reckons_203 ?_
    refine lv_topi (fun x_7 ex_7 => ?_)
    exact fiI hx hb hr hlk hK hP hD hS dX10_reckons_204 (Nat.le_of_ble_eq_true rfl) (Nat.le_of_ble_eq_true rfl) (⟨f_3, hf0, rfl⟩)
  · have b_8 : iv 0 899 u_1 := iv_l1 (Int32.not_le.mp c_6) bu_1 bx_5 (by decide)
    have b_9 : iv 1 900 x_5 := iv_l2 (Int32.not_le.mp c_6) bu_1 bx_5 (by decide)
    refine lv_aload_n hx hb dX10_reckons_17 rfl (lv_at hl 2 rfl) ?_
    refine va_get (ci := 10) (v := .ref (z 1)) (C := RX10) (T := TX10) (N := 40) hx hb hg inX10 hown hK hP 2 rfl rfl 1 (by decide) (hg _ q_5_225) (fun _ h9 => h9) rfl dX10_reckons_18 ?_
    refine lv_bipush (v := 125) hx hb dX10_reckons_21 (by decide) ?_
    refine lv_aload_n hx hb dX10_reckons_23 rfl (lv_at hl 2 rfl) ?_
    refine va_get (ci := 10) (v := .ref (z 1)) (C := RX10) (T := TX10) (N := 40) hx hb hg inX10 hown hK hP 2 rfl rfl 1 (by decide) (hg _ q_5_225) (fun _ h9 => h9) rfl dX10_reckons_24 ?_
    refine lv_bipush (v := 6) hx hb dX10_reckons_27 (by decide) ?_
    refine lv_iload_n hx hb dX10_reckons_29 rfl (lv_at hl 3 rfl) ?_
    refine lv_iadd hx hb dX10_reckons_30 ?_
    refine tpi (y := 7) (by decide +kernel) ?_
    refine va_iald hx hb hK hP 3 0 rfl rfl (vin (by decide +kernel)) dX10_reckons_31 ?_
    refine lv_topi (fun x_10 ex_10 => ?_)
    have bx_10 : iv 0 900 x_10 := by rw [ex_10]; exact rdT (a := 7) (n := 1) tfz1 (iv_c (7 : Int32) (a := 7) (b := 7) (by decide)) (by decide) (by decide +kernel)
    refine lv_iadd hx hb dX10_reckons_32 ?_
    refine lv_topi (fun x_11 ex_11 => ?_)
    have bx_11 : iv 125 1025 x_11 := by rw [ex_11]; exact iv_add (iv_c (125 : Int32) (a := 125) (b := 125) (by decide)) bx_10 (by decide)
    refine lv_iload_n hx hb dX10_reckons_33 rfl (lv_at hl 0 rfl) ?_
    refine lv_iadd hx hb dX10_reckons_34 ?_
    refine lv_topi (fun x_12 ex_12 => ?_)
    have bx_12 : iv 125 1924 x_12 := by rw [ex_12]; exact iv_add bx_11 b_8 (by decide)
    refine va_iald hx hb hK hP 3 0 rfl rfl (iv_in bx_12 (by decide)) dX10_reckons_35 ?_
    refine lv_topi (fun x_13 ex_13 => ?_)
    have hc_x_13 := RK_c (law := (1 : Int32)) (i6 := 7) (i8 := 9) hf0 (iv_c (1 : Int32) (by decide)) b_8 inn_4_0 (by decide) (by decide) ex_5 (iv_w b_9 (by decide)) ex_10 bx_10 (Int32.not_le.mp c_6) ex_11 ex_12 ex_13
    have b_14 : iv 0 899 u_2 := by have q9 := hc_x_13; have q8 := ned_0 x_13; have q7 := b_8; unfold iv at *; omega
    refine lv_istore (lv' := [(4, .int x_13), (3, .int u_1), (2, .int u_2), (0, .ref (z 0)), (1, .int 1)]) hx hb dX10_reckons_36 hl (by decide) rfl (fun ls hl => ?_)
    refine lv_iload hx hb dX10_reckons_38 (lv_at hl 0 rfl) ?_
    refine lv_sipush (v := 3000) hx hb dX10_reckons_40 (by decide) ?_
    refine lv_icmp_ge (tgt := 82) hx hb dX10_reckons_43 (by decide) (fun c_15 => ?_) (fun c_15 => ?_)
    · have b_16 : iv 3000 2147483647 x_13 := iv_e2 c_15 (iv_c (3000 : Int32) (a := 3000) (b := 3000) (by decide)) (iv_top x_13) (by decide)
      refine lv_iload hx hb dX10_reckons_82 (lv_at hl 0 rfl) ?_
      refine lv_sipush (v := 3006) hx hb dX10_reckons_84 (by decide) ?_
      refine lv_icmp_ne (tgt := 111) hx hb dX10_reckons_87 (by decide) (fun c_17 => ?_) (fun c_17 => ?_)
      · refine lv_iload hx hb dX10_reckons_111 (lv_at hl 0 rfl) ?_
        refine lv_sipush (v := 3009) hx hb dX10_reckons_113 (by decide) ?_
        refine lv_icmp_ne (tgt := 162) hx hb dX10_reckons_116 (by decide) (fun c_18 => ?_) (fun c_18 => ?_)
        · have b_19 : iv 2 899 u_2 := by have q9 := hc_x_13.2.1; have q8 := ned_two (Int32.not_lt.mpr c_15) c_17 c_18; have q7 := b_14; unfold iv at *; omega
          obtain ⟨x_20, ex_20⟩ : ∃ z9 : Int32, z9 = u_2 + (-1) := ⟨_, rfl⟩
          have bx_20 : iv 1 898 x_20 := by rw [ex_20]; exact iv_add b_19 (iv_c ((-1) : Int32) (a := (-1)) (b := (-1)) (by decide)) (by decide)
          refine lv_iinc (v := x_20) (lv' := [(2, .int x_20), (4, .int x_13), (3, .int u_1), (0, .ref (z 0)), (1, .int 1)]) hx hb dX10_reckons_162 hl (k := 2) rfl (by rw [ex_20]; rfl) (by decide) rfl (fun ls hl => ?_)
          refine lv_aload_n hx hb dX10_reckons_165 rfl (lv_at hl 3 rfl) ?_
          refine va_get (ci := 10) (v := .ref (z 15)) (C := RX10) (T := TX10) (N := 40) hx hb hg inX10 hown hK hP 2 rfl rfl 15 (by decide) (hg _ q_5_239) (fun _ h9 => h9) rfl dX10_reckons_166 ?_
          refine lv_iload_n hx hb dX10_reckons_169 rfl (lv_at hl 0 rfl) ?_
          refine lv_iconst (v := 1) hx hb dX10_reckons_170 (by decide) ?_
          refine lv_isub hx hb dX10_reckons_171 ?_
          refine lv_topi (fun x_21 ex_21 => ?_)
          have bx_21 : iv 0 897 x_21 := by rw [ex_21]; exact iv_sub bx_20 (iv_c (1 : Int32) (a := 1) (b := 1) (by decide)) (by decide)
          refine lv_iload hx hb dX10_reckons_172 (lv_at hl 1 rfl) ?_
          refine lv_aload_n hx hb dX10_reckons_174 rfl (lv_at hl 3 rfl) ?_
          refine va_get (ci := 10) (v := .ref (z 15)) (C := RX10) (T := TX10) (N := 40) hx hb hg inX10 hown hK hP 2 rfl rfl 15 (by decide) (hg _ q_5_239) (fun _ h9 => h9) rfl dX10_reckons_175 ?_
          refine lv_iload_n hx hb dX10_reckons_178 rfl (lv_at hl 0 rfl) ?_
          refine lv_iconst (v := 1) hx hb dX10_reckons_179 (by decide) ?_
          refine lv_isub hx hb dX10_reckons_180 ?_
          refine tpi (y := x_21) ex_21.symm ?_
          refine va_iald hx hb hK hP 0 0 rfl rfl (iv_in bx_21 (by decide)) dX10_reckons_181 ?_
          refine lv_topi (fun x_22 ex_22 => ?_)
          refine lv_aload_n hx hb dX10_reckons_182 rfl (lv_at hl 3 rfl) ?_
          refine va_get (ci := 10) (v := .ref (z 15)) (C := RX10) (T := TX10) (N := 40) hx hb hg inX10 hown hK hP 2 rfl rfl 15 (by decide) (hg _ q_5_239) (fun _ h9 => h9) rfl dX10_reckons_183 ?_
          refine lv_iload_n hx hb dX10_reckons_186 rfl (lv_at hl 0 rfl) ?_
          refine va_iald hx hb hK hP 0 0 rfl rfl (iv_in bx_20 (by decide)) dX10_reckons_187 ?_
          refine lv_topi (fun x_23 ex_23 => ?_)
          refine jnI (wr := [(z 15, aI V 900 f_3), (z 16, aI V 6 fz16), (z 0, .inr (10, mo z pz0_0 pz0_5 pz0_6 pz0_7 pz0_8 pz0_9 pz0_10 pz0_11 pz0_12 pz0_13 pz0_14 pz0_18 pz0_19 pz0_22 pz0_23 pz0_29)), (z 1, aI V 3075 fz1)]) (rnS (rest := [.int x_21, .ref (z 15)]) ⟨hx, hb, hml, hown, hg⟩ (k_X10_between_0 l V x_13 x_22 x_23) mt_X10_between q_7_43 ⟨Nat.le_of_ble_eq_true rfl, Nat.le_of_ble_eq_true rfl⟩ hK hP hD hS hA hE [] rfl rfl rfl hl.1 rfl (Nat.le_of_ble_eq_true rfl) dX10_reckons_188 ⟨Nat.le_of_ble_eq_true rfl, Nat.le_of_ble_eq_true rfl⟩) hP hD hS hA [] [0, 1, 2, 3] rfl rfl rfl (by decide) (fun r_24 w H locs hw hP hD hS => ?_)
          subst hw
          have hP : va_P V.1 vwCl [(z 15, aI V 900 f_3), (z 16, aI V 6 fz16), (z 0, .inr (10, mo z pz0_0 pz0_5 pz0_6 pz0_7 pz0_8 pz0_9 pz0_10 pz0_11 pz0_12 pz0_13 pz0_14 pz0_18 pz0_19 pz0_22 pz0_23 pz0_29)), (z 1, aI V 3075 fz1)] H := hP
          have hD : va_D A [(z 15, aI V 900 f_3), (z 16, aI V 6 fz16), (z 0, .inr (10, mo z pz0_0 pz0_5 pz0_6 pz0_7 pz0_8 pz0_9 pz0_10 pz0_11 pz0_12 pz0_13 pz0_14 pz0_18 pz0_19 pz0_22 pz0_23 pz0_29)), (z 1, aI V 3075 fz1)] := hD
          refine va_iast hx hb hK hP hD hS 0 0 rfl rfl (iv_in bx_21 (by decide)) dX10_reckons_191 (fun H locs hP hD hS => ?_)
          obtain ⟨f_25, hP, hD⟩ : ∃ f_25 : Nat → Int32, va_P V.1 vwCl [(z 15, aI V 900 f_25), (z 16, aI V 6 fz16), (z 0, .inr (10, mo z pz0_0 pz0_5 pz0_6 pz0_7 pz0_8 pz0_9 pz0_10 pz0_11 pz0_12 pz0_13 pz0_14 pz0_18 pz0_19 pz0_22 pz0_23 pz0_29)), (z 1, aI V 3075 fz1)] H ∧ va_D A [(z 15, aI V 900 f_25), (z 16, aI V 6 fz16), (z 0, .inr (10, mo z pz0_0 pz0_5 pz0_6 pz0_7 pz0_8 pz0_9 pz0_10 pz0_11 pz0_12 pz0_13 pz0_14 pz0_18 pz0_19 pz0_22 pz0_23 pz0_29)), (z 1, aI V 3075 fz1)] := ⟨_, hP, hD⟩
          obtain ⟨x_26, ex_26⟩ : ∃ z9 : Int32, z9 = u_1 + 1 := ⟨_, rfl⟩
          have bx_26 : iv 1 900 x_26 := by rw [ex_26]; exact iv_add b_8 (iv_c (1 : Int32) (a := 1) (b := 1) (by decide)) (by decide)
          refine lv_iinc (v := x_26) (lv' := [(3, .int x_26), (2, .int x_20), (4, .int x_13), (0, .ref (z 0)), (1, .int 1)]) hx hb dX10_reckons_192 hl (k := 2) rfl (by rw [ex_26]; rfl) (by decide) rfl (fun ls hl => ?_)
          refine lv_goto (tgt := 4) hx hb dX10_reckons_195 (by decide) ?_
          exact ihn_4 _ _ _ _ (by rw [en_4, ex_26]; exact mu_up b_8 (by decide)) ⟨x_26, x_20, f_25, (iv_w bx_26 (by decide)), (iv_w bx_20 (by decide)), (RK_s (law := (1 : Int32)) (i6 := 7) (iv_c (1 : Int32) (by decide)) b_8 inn_4_0 (by decide) ex_10 bx_10 ex_11 ex_12 ex_13 ex_26 (by have q8 := toInt_add ex_20 b_19 (iv_c ((-1) : Int32) (a := (-1)) (b := (-1)) (by decide)) (by decide); have q7 : ((-1) : Int32).toInt = (-1) := (by decide); have q9 := eff_two (Int32.not_lt.mpr c_15) c_17 c_18; omega)), rfl, hP, hD, hS, lv_sub hl [0, 1, 3, 4] rfl⟩
        · have b_27 : iv 3009 3009 x_13 := iv_q c_18 (iv_c (3009 : Int32) (a := 3009) (b := 3009) (by decide))
          have b_28 : iv 3 899 u_2 := by have q9 := hc_x_13.2.1; have q8 := ned_if c_18; have q7 := b_14; unfold iv at *; omega
          obtain ⟨x_29, ex_29⟩ : ∃ z9 : Int32, z9 = u_2 + (-2) := ⟨_, rfl⟩
          have bx_29 : iv 1 897 x_29 := by rw [ex_29]; exact iv_add b_28 (iv_c ((-2) : Int32) (a := (-2)) (b := (-2)) (by decide)) (by decide)
          refine lv_iinc (v := x_29) (lv' := [(2, .int x_29), (4, .int x_13), (3, .int u_1), (0, .ref (z 0)), (1, .int 1)]) hx hb dX10_reckons_119 hl (k := 2) rfl (by rw [ex_29]; rfl) (by decide) rfl (fun ls hl => ?_)
          refine lv_aload_n hx hb dX10_reckons_122 rfl (lv_at hl 3 rfl) ?_
          refine va_get (ci := 10) (v := .ref (z 15)) (C := RX10) (T := TX10) (N := 40) hx hb hg inX10 hown hK hP 2 rfl rfl 15 (by decide) (hg _ q_5_239) (fun _ h9 => h9) rfl dX10_reckons_123 ?_
          refine lv_iload_n hx hb dX10_reckons_126 rfl (lv_at hl 0 rfl) ?_
          refine lv_iconst (v := 1) hx hb dX10_reckons_127 (by decide) ?_
          refine lv_isub hx hb dX10_reckons_128 ?_
          refine lv_topi (fun x_30 ex_30 => ?_)
          have bx_30 : iv 0 896 x_30 := by rw [ex_30]; exact iv_sub bx_29 (iv_c (1 : Int32) (a := 1) (b := 1) (by decide)) (by decide)
          refine lv_aload_n hx hb dX10_reckons_129 rfl (lv_at hl 3 rfl) ?_
          refine va_get (ci := 10) (v := .ref (z 15)) (C := RX10) (T := TX10) (N := 40) hx hb hg inX10 hown hK hP 2 rfl rfl 15 (by decide) (hg _ q_5_239) (fun _ h9 => h9) rfl dX10_reckons_130 ?_
          refine lv_iload_n hx hb dX10_reckons_133 rfl (lv_at hl 0 rfl) ?_
          refine lv_iconst (v := 1) hx hb dX10_reckons_134 (by decide) ?_
          refine lv_isub hx hb dX10_reckons_135 ?_
          refine tpi (y := x_30) ex_30.symm ?_
          refine va_iald hx hb hK hP 0 0 rfl rfl (iv_in bx_30 (by decide)) dX10_reckons_136 ?_
          refine lv_topi (fun x_31 ex_31 => ?_)
          refine lv_iconst (v := 1) hx hb dX10_reckons_137 (by decide) ?_
          refine lv_icmp_ne (tgt := 150) hx hb dX10_reckons_138 (by decide) (fun c_32 => ?_) (fun c_32 => ?_)
          · refine lv_aload_n hx hb dX10_reckons_150 rfl (lv_at hl 3 rfl) ?_
            refine va_get (ci := 10) (v := .ref (z 15)) (C := RX10) (T := TX10) (N := 40) hx hb hg inX10 hown hK hP 2 rfl rfl 15 (by decide) (hg _ q_5_239) (fun _ h9 => h9) rfl dX10_reckons_151 ?_
            refine lv_iload_n hx hb dX10_reckons_154 rfl (lv_at hl 0 rfl) ?_
            refine lv_iconst (v := 1) hx hb dX10_reckons_155 (by decide) ?_
            refine lv_iadd hx hb dX10_reckons_156 ?_
            refine lv_topi (fun x_33 ex_33 => ?_)
            have bx_33 : iv 2 898 x_33 := by rw [ex_33]; exact iv_add bx_29 (iv_c (1 : Int32) (a := 1) (b := 1) (by decide)) (by decide)
            refine va_iald hx hb hK hP 0 0 rfl rfl (iv_in bx_33 (by decide)) dX10_reckons_157 ?_
            refine lv_topi (fun x_34 ex_34 => ?_)
            refine va_iast hx hb hK hP hD hS 0 0 rfl rfl (iv_in bx_30 (by decide)) dX10_reckons_158 (fun H locs hP hD hS => ?_)
            obtain ⟨f_35, hP, hD⟩ : ∃ f_35 : Nat → Int32, va_P V.1 vwCl [(z 15, aI V 900 f_35), (z 16, aI V 6 fz16), (z 0, .inr (10, mo z pz0_0 pz0_5 pz0_6 pz0_7 pz0_8 pz0_9 pz0_10 pz0_11 pz0_12 pz0_13 pz0_14 pz0_18 pz0_19 pz0_22 pz0_23 pz0_29)), (z 1, aI V 3075 fz1)] H ∧ va_D A [(z 15, aI V 900 f_35), (z 16, aI V 6 fz16), (z 0, .inr (10, mo z pz0_0 pz0_5 pz0_6 pz0_7 pz0_8 pz0_9 pz0_10 pz0_11 pz0_12 pz0_13 pz0_14 pz0_18 pz0_19 pz0_22 pz0_23 pz0_29)), (z 1, aI V 3075 fz1)] := ⟨_, hP, hD⟩
            refine lv_goto (tgt := 192) hx hb dX10_reckons_159 (by decide) ?_
            obtain ⟨x_36, ex_36⟩ : ∃ z9 : Int32, z9 = u_1 + 1 := ⟨_, rfl⟩
            have bx_36 : iv 1 900 x_36 := by rw [ex_36]; exact iv_add b_8 (iv_c (1 : Int32) (a := 1) (b := 1) (by decide)) (by decide)
            refine lv_iinc (v := x_36) (lv' := [(3, .int x_36), (2, .int x_29), (4, .int x_13), (0, .ref (z 0)), (1, .int 1)]) hx hb dX10_reckons_192 hl (k := 2) rfl (by rw [ex_36]; rfl) (by decide) rfl (fun ls hl => ?_)
            refine lv_goto (tgt := 4) hx hb dX10_reckons_195 (by decide) ?_
            exact ihn_4 _ _ _ _ (by rw [en_4, ex_36]; exact mu_up b_8 (by decide)) ⟨x_36, x_29, f_35, (iv_w bx_36 (by decide)), (iv_w bx_29 (by decide)), (RK_s (law := (1 : Int32)) (i6 := 7) (iv_c (1 : Int32) (by decide)) b_8 inn_4_0 (by decide) ex_10 bx_10 ex_11 ex_12 ex_13 ex_36 (by have q8 := toInt_add ex_29 b_28 (iv_c ((-2) : Int32) (a := (-2)) (b := (-2)) (by decide)) (by decide); have q7 : ((-2) : Int32).toInt = (-2) := (by decide); have q9 := eff_if c_18; omega)), rfl, hP, hD, hS, lv_sub hl [0, 1, 3, 4] rfl⟩
          · have b_37 : iv 1 1 x_31 := iv_q c_32 (iv_c (1 : Int32) (a := 1) (b := 1) (by decide))
            refine lv_aload_n hx hb dX10_reckons_141 rfl (lv_at hl 3 rfl) ?_
            refine va_get (ci := 10) (v := .ref (z 15)) (C := RX10) (T := TX10) (N := 40) hx hb hg inX10 hown hK hP 2 rfl rfl 15 (by decide) (hg _ q_5_239) (fun _ h9 => h9) rfl dX10_reckons_142 ?_
            refine lv_iload_n hx hb dX10_reckons_145 rfl (lv_at hl 0 rfl) ?_
            refine va_iald hx hb hK hP 0 0 rfl rfl (iv_in bx_29 (by decide)) dX10_reckons_146 ?_
            refine lv_topi (fun x_38 ex_38 => ?_)
            refine lv_goto (tgt := 158) hx hb dX10_reckons_147 (by decide) ?_
            refine va_iast hx hb hK hP hD hS 0 0 rfl rfl (iv_in bx_30 (by decide)) dX10_reckons_158 (fun H locs hP hD hS => ?_)
            obtain ⟨f_39, hP, hD⟩ : ∃ f_39 : Nat → Int32, va_P V.1 vwCl [(z 15, aI V 900 f_39), (z 16, aI V 6 fz16), (z 0, .inr (10, mo z pz0_0 pz0_5 pz0_6 pz0_7 pz0_8 pz0_9 pz0_10 pz0_11 pz0_12 pz0_13 pz0_14 pz0_18 pz0_19 pz0_22 pz0_23 pz0_29)), (z 1, aI V 3075 fz1)] H ∧ va_D A [(z 15, aI V 900 f_39), (z 16, aI V 6 fz16), (z 0, .inr (10, mo z pz0_0 pz0_5 pz0_6 pz0_7 pz0_8 pz0_9 pz0_10 pz0_11 pz0_12 pz0_13 pz0_14 pz0_18 pz0_19 pz0_22 pz0_23 pz0_29)), (z 1, aI V 3075 fz1)] := ⟨_, hP, hD⟩
            refine lv_goto (tgt := 192) hx hb dX10_reckons_159 (by decide) ?_
            obtain ⟨x_40, ex_40⟩ : ∃ z9 : Int32, z9 = u_1 + 1 := ⟨_, rfl⟩
            have bx_40 : iv 1 900 x_40 := by rw [ex_40]; exact iv_add b_8 (iv_c (1 : Int32) (a := 1) (b := 1) (by decide)) (by decide)
            refine lv_iinc (v := x_40) (lv' := [(3, .int x_40), (2, .int x_29), (4, .int x_13), (0, .ref (z 0)), (1, .int 1)]) hx hb dX10_reckons_192 hl (k := 2) rfl (by rw [ex_40]; rfl) (by decide) rfl (fun ls hl => ?_)
            refine lv_goto (tgt := 4) hx hb dX10_reckons_195 (by decide) ?_
            exact ihn_4 _ _ _ _ (by rw [en_4, ex_40]; exact mu_up b_8 (by decide)) ⟨x_40, x_29, f_39, (iv_w bx_40 (by decide)), (iv_w bx_29 (by decide)), (RK_s (law := (1 : Int32)) (i6 := 7) (iv_c (1 : Int32) (by decide)) b_8 inn_4_0 (by decide) ex_10 bx_10 ex_11 ex_12 ex_13 ex_40 (by have q8 := toInt_add ex_29 b_28 (iv_c ((-2) : Int32) (a := (-2)) (b := (-2)) (by decide)) (by decide); have q7 : ((-2) : Int32).toInt = (-2) := (by decide); have q9 := eff_if c_18; omega)), rfl, hP, hD, hS, lv_sub hl [0, 1, 3, 4] rfl⟩
      · have b_41 : iv 3006 3006 x_13 := iv_q c_17 (iv_c (3006 : Int32) (a := 3006) (b := 3006) (by decide))
        have b_42 : iv 1 899 u_2 := by have q9 := hc_x_13.2.1; have q8 := ned_not c_17; have q7 := b_14; unfold iv at *; omega
        refine lv_aload_n hx hb dX10_reckons_90 rfl (lv_at hl 3 rfl) ?_
        refine va_get (ci := 10) (v := .ref (z 15)) (C := RX10) (T := TX10) (N := 40) hx hb hg inX10 hown hK hP 2 rfl rfl 15 (by decide) (hg _ q_5_239) (fun _ h9 => h9) rfl dX10_reckons_91 ?_
        refine lv_iload_n hx hb dX10_reckons_94 rfl (lv_at hl 2 rfl) ?_
        refine lv_iconst (v := 1) hx hb dX10_reckons_95 (by decide) ?_
        refine lv_isub hx hb dX10_reckons_96 ?_
        refine lv_topi (fun x_43 ex_43 => ?_)
        have bx_43 : iv 0 898 x_43 := by rw [ex_43]; exact iv_sub b_42 (iv_c (1 : Int32) (a := 1) (b := 1) (by decide)) (by decide)
        refine lv_iconst (v := 1) hx hb dX10_reckons_97 (by decide) ?_
        refine lv_aload_n hx hb dX10_reckons_98 rfl (lv_at hl 3 rfl) ?_
        refine va_get (ci := 10) (v := .ref (z 15)) (C := RX10) (T := TX10) (N := 40) hx hb hg inX10 hown hK hP 2 rfl rfl 15 (by decide) (hg _ q_5_239) (fun _ h9 => h9) rfl dX10_reckons_99 ?_
        refine lv_iload_n hx hb dX10_reckons_102 rfl (lv_at hl 2 rfl) ?_
        refine lv_iconst (v := 1) hx hb dX10_reckons_103 (by decide) ?_
        refine lv_isub hx hb dX10_reckons_104 ?_
        refine tpi (y := x_43) ex_43.symm ?_
        refine va_iald hx hb hK hP 0 0 rfl rfl (iv_in bx_43 (by decide)) dX10_reckons_105 ?_
        refine lv_topi (fun x_44 ex_44 => ?_)
        refine lv_isub hx hb dX10_reckons_106 ?_
        refine lv_topi (fun x_45 ex_45 => ?_)
        refine va_iast hx hb hK hP hD hS 0 0 rfl rfl (iv_in bx_43 (by decide)) dX10_reckons_107 (fun H locs hP hD hS => ?_)
        obtain ⟨f_46, hP, hD⟩ : ∃ f_46 : Nat → Int32, va_P V.1 vwCl [(z 15, aI V 900 f_46), (z 16, aI V 6 fz16), (z 0, .inr (10, mo z pz0_0 pz0_5 pz0_6 pz0_7 pz0_8 pz0_9 pz0_10 pz0_11 pz0_12 pz0_13 pz0_14 pz0_18 pz0_19 pz0_22 pz0_23 pz0_29)), (z 1, aI V 3075 fz1)] H ∧ va_D A [(z 15, aI V 900 f_46), (z 16, aI V 6 fz16), (z 0, .inr (10, mo z pz0_0 pz0_5 pz0_6 pz0_7 pz0_8 pz0_9 pz0_10 pz0_11 pz0_12 pz0_13 pz0_14 pz0_18 pz0_19 pz0_22 pz0_23 pz0_29)), (z 1, aI V 3075 fz1)] := ⟨_, hP, hD⟩
        refine lv_goto (tgt := 192) hx hb dX10_reckons_108 (by decide) ?_
        obtain ⟨x_47, ex_47⟩ : ∃ z9 : Int32, z9 = u_1 + 1 := ⟨_, rfl⟩
        have bx_47 : iv 1 900 x_47 := by rw [ex_47]; exact iv_add b_8 (iv_c (1 : Int32) (a := 1) (b := 1) (by decide)) (by decide)
        refine lv_iinc (v := x_47) (lv' := [(3, .int x_47), (4, .int x_13), (2, .int u_2), (0, .ref (z 0)), (1, .int 1)]) hx hb dX10_reckons_192 hl (k := 1) rfl (by rw [ex_47]; rfl) (by decide) rfl (fun ls hl => ?_)
        refine lv_goto (tgt := 4) hx hb dX10_reckons_195 (by decide) ?_
        exact ihn_4 _ _ _ _ (by rw [en_4, ex_47]; exact mu_up b_8 (by decide)) ⟨x_47, u_2, f_46, (iv_w bx_47 (by decide)), (iv_w b_42 (by decide)), (RK_s (law := (1 : Int32)) (i6 := 7) (iv_c (1 : Int32) (by decide)) b_8 inn_4_0 (by decide) ex_10 bx_10 ex_11 ex_12 ex_13 ex_47 (by have q9 := eff_not c_17; omega)), rfl, hP, hD, hS, lv_sub hl [0, 2, 3, 4] rfl⟩
    · have b_48 : iv (-2147483648) 2999 x_13 := iv_l1 (Int32.not_le.mp c_15) (iv_top x_13) (iv_c (3000 : Int32) (a := 3000) (b := 3000) (by decide)) (by decide)
      refine lv_aload_n hx hb dX10_reckons_46 rfl (lv_at hl 3 rfl) ?_
      refine va_get (ci := 10) (v := .ref (z 15)) (C := RX10) (T := TX10) (N := 40) hx hb hg inX10 hown hK hP 2 rfl rfl 15 (by decide) (hg _ q_5_239) (fun _ h9 => h9) rfl dX10_reckons_47 ?_
      refine lv_iload_n hx hb dX10_reckons_50 rfl (lv_at hl 2 rfl) ?_
      refine lv_iload hx hb dX10_reckons_51 (lv_at hl 0 rfl) ?_
      refine lv_sipush (v := 1000) hx hb dX10_reckons_53 (by decide) ?_
      refine lv_icmp_ge (tgt := 64) hx hb dX10_reckons_56 (by decide) (fun c_49 => ?_) (fun c_49 => ?_)
      · have b_50 : iv 1000 2999 x_13 := iv_e2 c_49 (iv_c (1000 : Int32) (a := 1000) (b := 1000) (by decide)) b_48 (by decide)
        refine lv_aload_n hx hb dX10_reckons_64 rfl (lv_at hl 3 rfl) ?_
        refine va_get (ci := 10) (v := .ref (z 16)) (C := RX10) (T := TX10) (N := 40) hx hb hg inX10 hown hK hP 2 rfl rfl 16 (by decide) (hg _ q_6_0) (fun _ h9 => h9) rfl dX10_reckons_65 ?_
        refine lv_iload hx hb dX10_reckons_68 (lv_at hl 0 rfl) ?_
        refine lv_sipush (v := 1000) hx hb dX10_reckons_70 (by decide) ?_
        refine lv_isub hx hb dX10_reckons_73 ?_
        refine lv_topi (fun x_51 ex_51 => ?_)
        have bx_51 : iv 0 1999 x_51 := by rw [ex_51]; exact iv_subl c_49 b_50 (iv_c (1000 : Int32) (a := 1000) (b := 1000) (by decide)) (by decide)
        have b_52 : iv 0 5 x_51 := by have q9 := hc_x_13.1.2; have q8 := b_50; have q7 := toInt_sub ex_51 b_50 (iv_c (1000 : Int32) (a := 1000) (b := 1000) (by decide)) (by decide); have q6 : (1000 : Int32).toInt = 1000 := (by decide); unfold iv at *; omega
        refine va_iald hx hb hK hP 1 0 rfl rfl (iv_in b_52 (by decide)) dX10_reckons_74 ?_
        refine lv_topi (fun x_53 ex_53 => ?_)
        refine va_iast hx hb hK hP hD hS 0 0 rfl rfl (iv_in b_14 (by decide)) dX10_reckons_75 (fun H locs hP hD hS => ?_)
        obtain ⟨f_54, hP, hD⟩ : ∃ f_54 : Nat → Int32, va_P V.1 vwCl [(z 15, aI V 900 f_54), (z 16, aI V 6 fz16), (z 0, .inr (10, mo z pz0_0 pz0_5 pz0_6 pz0_7 pz0_8 pz0_9 pz0_10 pz0_11 pz0_12 pz0_13 pz0_14 pz0_18 pz0_19 pz0_22 pz0_23 pz0_29)), (z 1, aI V 3075 fz1)] H ∧ va_D A [(z 15, aI V 900 f_54), (z 16, aI V 6 fz16), (z 0, .inr (10, mo z pz0_0 pz0_5 pz0_6 pz0_7 pz0_8 pz0_9 pz0_10 pz0_11 pz0_12 pz0_13 pz0_14 pz0_18 pz0_19 pz0_22 pz0_23 pz0_29)), (z 1, aI V 3075 fz1)] := ⟨_, hP, hD⟩
        obtain ⟨x_55, ex_55⟩ : ∃ z9 : Int32, z9 = u_2 + 1 := ⟨_, rfl⟩
        have bx_55 : iv 1 900 x_55 := by rw [ex_55]; exact iv_add b_14 (iv_c (1 : Int32) (a := 1) (b := 1) (by decide)) (by decide)
        refine lv_iinc (v := x_55) (lv' := [(2, .int x_55), (4, .int x_13), (3, .int u_1), (0, .ref (z 0)), (1, .int 1)]) hx hb dX10_reckons_76 hl (k := 2) rfl (by rw [ex_55]; rfl) (by decide) rfl (fun ls hl => ?_)
        refine lv_goto (tgt := 192) hx hb dX10_reckons_79 (by decide) ?_
        obtain ⟨x_56, ex_56⟩ : ∃ z9 : Int32, z9 = u_1 + 1 := ⟨_, rfl⟩
        have bx_56 : iv 1 900 x_56 := by rw [ex_56]; exact iv_add b_8 (iv_c (1 : Int32) (a := 1) (b := 1) (by decide)) (by decide)
        refine lv_iinc (v := x_56) (lv' := [(3, .int x_56), (2, .int x_55), (4, .int x_13), (0, .ref (z 0)), (1, .int 1)]) hx hb dX10_reckons_192 hl (k := 2) rfl (by rw [ex_56]; rfl) (by decide) rfl (fun ls hl => ?_)
        refine lv_goto (tgt := 4) hx hb dX10_reckons_195 (by decide) ?_
        exact ihn_4 _ _ _ _ (by rw [en_4, ex_56]; exact mu_up b_8 (by decide)) ⟨x_56, x_55, f_54, (iv_w bx_56 (by decide)), (iv_w bx_55 (by decide)), (RK_s (law := (1 : Int32)) (i6 := 7) (iv_c (1 : Int32) (by decide)) b_8 inn_4_0 (by decide) ex_10 bx_10 ex_11 ex_12 ex_13 ex_56 (by have q8 := toInt_add ex_55 b_14 (iv_c (1 : Int32) (a := 1) (b := 1) (by decide)) (by decide); have q7 : (1 : Int32).toInt = 1 := (by decide); have q9 := eff_push (Int32.not_le.mp c_15); omega)), rfl, hP, hD, hS, lv_sub hl [0, 1, 3, 4] rfl⟩
      · have b_57 : iv (-2147483648) 999 x_13 := iv_l1 (Int32.not_le.mp c_49) b_48 (iv_c (1000 : Int32) (a := 1000) (b := 1000) (by decide)) (by decide)
        refine lv_iload hx hb dX10_reckons_59 (lv_at hl 0 rfl) ?_
        refine lv_goto (tgt := 75) hx hb dX10_reckons_61 (by decide) ?_
        refine va_iast hx hb hK hP hD hS 0 0 rfl rfl (iv_in b_14 (by decide)) dX10_reckons_75 (fun H locs hP hD hS => ?_)
        obtain ⟨f_58, hP, hD⟩ : ∃ f_58 : Nat → Int32, va_P V.1 vwCl [(z 15, aI V 900 f_58), (z 16, aI V 6 fz16), (z 0, .inr (10, mo z pz0_0 pz0_5 pz0_6 pz0_7 pz0_8 pz0_9 pz0_10 pz0_11 pz0_12 pz0_13 pz0_14 pz0_18 pz0_19 pz0_22 pz0_23 pz0_29)), (z 1, aI V 3075 fz1)] H ∧ va_D A [(z 15, aI V 900 f_58), (z 16, aI V 6 fz16), (z 0, .inr (10, mo z pz0_0 pz0_5 pz0_6 pz0_7 pz0_8 pz0_9 pz0_10 pz0_11 pz0_12 pz0_13 pz0_14 pz0_18 pz0_19 pz0_22 pz0_23 pz0_29)), (z 1, aI V 3075 fz1)] := ⟨_, hP, hD⟩
        obtain ⟨x_59, ex_59⟩ : ∃ z9 : Int32, z9 = u_2 + 1 := ⟨_, rfl⟩
        have bx_59 : iv 1 900 x_59 := by rw [ex_59]; exact iv_add b_14 (iv_c (1 : Int32) (a := 1) (b := 1) (by decide)) (by decide)
        refine lv_iinc (v := x_59) (lv' := [(2, .int x_59), (4, .int x_13), (3, .int u_1), (0, .ref (z 0)), (1, .int 1)]) hx hb dX10_reckons_76 hl (k := 2) rfl (by rw [ex_59]; rfl) (by decide) rfl (fun ls hl => ?_)
        refine lv_goto (tgt := 192) hx hb dX10_reckons_79 (by decide) ?_
        obtain ⟨x_60, ex_60⟩ : ∃ z9 : Int32, z9 = u_1 + 1 := ⟨_, rfl⟩
        have bx_60 : iv 1 900 x_60 := by rw [ex_60]; exact iv_add b_8 (iv_c (1 : Int32) (a := 1) (b := 1) (by decide)) (by decide)
        refine lv_iinc (v := x_60) (lv' := [(3, .int x_60), (2, .int x_59), (4, .int x_13), (0, .ref (z 0)), (1, .int 1)]) hx hb dX10_reckons_192 hl (k := 2) rfl (by rw [ex_60]; rfl) (by decide) rfl (fun ls hl => ?_)
        refine lv_goto (tgt := 4) hx hb dX10_reckons_195 (by decide) ?_
        exact ihn_4 _ _ _ _ (by rw [en_4, ex_60]; exact mu_up b_8 (by decide)) ⟨x_60, x_59, f_58, (iv_w bx_60 (by decide)), (iv_w bx_59 (by decide)), (RK_s (law := (1 : Int32)) (i6 := 7) (iv_c (1 : Int32) (by decide)) b_8 inn_4_0 (by decide) ex_10 bx_10 ex_11 ex_12 ex_13 ex_60 (by have q8 := toInt_add ex_59 b_14 (iv_c (1 : Int32) (a := 1) (b := 1) (by decide)) (by decide); have q7 : (1 : Int32).toInt = 1 := (by decide); have q9 := eff_push (Int32.not_le.mp c_15); omega)), rfl, hP, hD, hS, lv_sub hl [0, 1, 3, 4] rfl⟩
