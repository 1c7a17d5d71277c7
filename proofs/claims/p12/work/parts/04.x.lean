theorem dX4_digitBehind_0 : decode cX4_digitBehind 0 = .ok (.iload_n 1, 1) := by decide +kernel
theorem dX4_digitBehind_1 : decode cX4_digitBehind 1 = .ok (.iconst 4, 1) := by decide +kernel
theorem dX4_digitBehind_2 : decode cX4_digitBehind 2 = .ok (.imul, 1) := by decide +kernel
theorem dX4_digitBehind_3 : decode cX4_digitBehind 3 = .ok (.iload_n 2, 1) := by decide +kernel
theorem dX4_digitBehind_4 : decode cX4_digitBehind 4 = .ok (.iadd, 1) := by decide +kernel
theorem dX4_digitBehind_5 : decode cX4_digitBehind 5 = .ok (.bipush 50, 2) := by decide +kernel
theorem dX4_digitBehind_7 : decode cX4_digitBehind 7 = .ok (.imul, 1) := by decide +kernel
theorem dX4_digitBehind_8 : decode cX4_digitBehind 8 = .ok (.iload_n 3, 1) := by decide +kernel
theorem dX4_digitBehind_9 : decode cX4_digitBehind 9 = .ok (.bipush 10, 2) := by decide +kernel
theorem dX4_digitBehind_11 : decode cX4_digitBehind 11 = .ok (.imul, 1) := by decide +kernel
theorem dX4_digitBehind_12 : decode cX4_digitBehind 12 = .ok (.iadd, 1) := by decide +kernel
theorem dX4_digitBehind_13 : decode cX4_digitBehind 13 = .ok (.iload 4, 2) := by decide +kernel
theorem dX4_digitBehind_15 : decode cX4_digitBehind 15 = .ok (.iconst 2, 1) := by decide +kernel
theorem dX4_digitBehind_16 : decode cX4_digitBehind 16 = .ok (.imul, 1) := by decide +kernel
theorem dX4_digitBehind_17 : decode cX4_digitBehind 17 = .ok (.iadd, 1) := by decide +kernel
theorem dX4_digitBehind_18 : decode cX4_digitBehind 18 = .ok (.iload 5, 2) := by decide +kernel
theorem dX4_digitBehind_20 : decode cX4_digitBehind 20 = .ok (.iadd, 1) := by decide +kernel
theorem dX4_digitBehind_21 : decode cX4_digitBehind 21 = .ok (.istore 6, 2) := by decide +kernel
theorem dX4_digitBehind_23 : decode cX4_digitBehind 23 = .ok (.iload 6, 2) := by decide +kernel
theorem dX4_digitBehind_25 : decode cX4_digitBehind 25 = .ok (.ifCond .lt 13, 3) := by decide +kernel
theorem dX4_digitBehind_28 : decode cX4_digitBehind 28 = .ok (.iload 6, 2) := by decide +kernel
theorem dX4_digitBehind_30 : decode cX4_digitBehind 30 = .ok (.aload_n 0, 1) := by decide +kernel
theorem q_1_172 : Cond.fieldLink "BeaconDelay$Laws" 9 "BeaconDelay$Laws" "known" "[I" ∈ gw := gw_1 (i := 172) (by decide +kernel) rfl
theorem dX4_digitBehind_31 : decode cX4_digitBehind 31 = .ok (.getfield 9, 3) := by decide +kernel
theorem dX4_digitBehind_34 : decode cX4_digitBehind 34 = .ok (.arraylength, 1) := by decide +kernel
theorem dX4_digitBehind_35 : decode cX4_digitBehind 35 = .ok (.if_icmp .lt 5, 3) := by decide +kernel
theorem dX4_digitBehind_40 : decode cX4_digitBehind 40 = .ok (.aload_n 0, 1) := by decide +kernel
theorem dX4_digitBehind_41 : decode cX4_digitBehind 41 = .ok (.getfield 9, 3) := by decide +kernel
theorem dX4_digitBehind_44 : decode cX4_digitBehind 44 = .ok (.iload 6, 2) := by decide +kernel
theorem dX4_digitBehind_46 : decode cX4_digitBehind 46 = .ok (.iaload, 1) := by decide +kernel
theorem dX4_digitBehind_47 : decode cX4_digitBehind 47 = .ok (.ifCond .ne 71, 3) := by decide +kernel
theorem dX4_digitBehind_118 : decode cX4_digitBehind 118 = .ok (.aload_n 0, 1) := by decide +kernel
theorem dX4_digitBehind_119 : decode cX4_digitBehind 119 = .ok (.getfield 9, 3) := by decide +kernel
theorem dX4_digitBehind_122 : decode cX4_digitBehind 122 = .ok (.iload 6, 2) := by decide +kernel
theorem dX4_digitBehind_124 : decode cX4_digitBehind 124 = .ok (.iaload, 1) := by decide +kernel
theorem dX4_digitBehind_125 : decode cX4_digitBehind 125 = .ok (.iconst 1, 1) := by decide +kernel
theorem dX4_digitBehind_126 : decode cX4_digitBehind 126 = .ok (.isub, 1) := by decide +kernel
theorem dX4_digitBehind_127 : decode cX4_digitBehind 127 = .ok (.ireturn, 1) := by decide +kernel
theorem dX4_digitBehind_50 : decode cX4_digitBehind 50 = .ok (.aload_n 0, 1) := by decide +kernel
theorem dX4_digitBehind_51 : decode cX4_digitBehind 51 = .ok (.getfield 15, 3) := by decide +kernel
theorem dX4_digitBehind_54 : decode cX4_digitBehind 54 = .ok (.iconst 0, 1) := by decide +kernel
theorem dX4_digitBehind_55 : decode cX4_digitBehind 55 = .ok (.iload_n 2, 1) := by decide +kernel
theorem dX4_digitBehind_56 : decode cX4_digitBehind 56 = .ok (.iastore, 1) := by decide +kernel
theorem dX4_digitBehind_57 : decode cX4_digitBehind 57 = .ok (.aload_n 0, 1) := by decide +kernel
theorem dX4_digitBehind_58 : decode cX4_digitBehind 58 = .ok (.getfield 15, 3) := by decide +kernel
theorem dX4_digitBehind_61 : decode cX4_digitBehind 61 = .ok (.iconst 1, 1) := by decide +kernel
theorem dX4_digitBehind_62 : decode cX4_digitBehind 62 = .ok (.iload_n 3, 1) := by decide +kernel
theorem dX4_digitBehind_63 : decode cX4_digitBehind 63 = .ok (.iastore, 1) := by decide +kernel
theorem dX4_digitBehind_64 : decode cX4_digitBehind 64 = .ok (.aload_n 0, 1) := by decide +kernel
theorem dX4_digitBehind_65 : decode cX4_digitBehind 65 = .ok (.getfield 15, 3) := by decide +kernel
theorem dX4_digitBehind_68 : decode cX4_digitBehind 68 = .ok (.iconst 2, 1) := by decide +kernel
theorem dX4_digitBehind_69 : decode cX4_digitBehind 69 = .ok (.iload 4, 2) := by decide +kernel
theorem dX4_digitBehind_71 : decode cX4_digitBehind 71 = .ok (.iastore, 1) := by decide +kernel
theorem dX4_digitBehind_72 : decode cX4_digitBehind 72 = .ok (.aload_n 0, 1) := by decide +kernel
theorem dX4_digitBehind_73 : decode cX4_digitBehind 73 = .ok (.getfield 15, 3) := by decide +kernel
theorem dX4_digitBehind_76 : decode cX4_digitBehind 76 = .ok (.iconst 3, 1) := by decide +kernel
theorem dX4_digitBehind_77 : decode cX4_digitBehind 77 = .ok (.iload 5, 2) := by decide +kernel
theorem dX4_digitBehind_79 : decode cX4_digitBehind 79 = .ok (.iastore, 1) := by decide +kernel
theorem dX4_digitBehind_80 : decode cX4_digitBehind 80 = .ok (.aload_n 0, 1) := by decide +kernel
theorem dX4_digitBehind_81 : decode cX4_digitBehind 81 = .ok (.getfield 15, 3) := by decide +kernel
theorem dX4_digitBehind_84 : decode cX4_digitBehind 84 = .ok (.iconst 4, 1) := by decide +kernel
theorem dX4_digitBehind_85 : decode cX4_digitBehind 85 = .ok (.aload_n 0, 1) := by decide +kernel
theorem dX4_digitBehind_86 : decode cX4_digitBehind 86 = .ok (.getfield 27, 3) := by decide +kernel
theorem q_1_56 : Cond.fieldLink "BeaconDelay$Laws" 50 "BeaconDelay$Coast" "fear" "[I" ∈ gw := gw_1 (i := 56) (by decide +kernel) rfl
theorem dX4_digitBehind_89 : decode cX4_digitBehind 89 = .ok (.getfield 50, 3) := by decide +kernel
theorem dX4_digitBehind_92 : decode cX4_digitBehind 92 = .ok (.iload_n 2, 1) := by decide +kernel
theorem dX4_digitBehind_93 : decode cX4_digitBehind 93 = .ok (.iaload, 1) := by decide +kernel
theorem dX4_digitBehind_94 : decode cX4_digitBehind 94 = .ok (.iastore, 1) := by decide +kernel
theorem dX4_digitBehind_95 : decode cX4_digitBehind 95 = .ok (.aload_n 0, 1) := by decide +kernel
theorem dX4_digitBehind_96 : decode cX4_digitBehind 96 = .ok (.getfield 15, 3) := by decide +kernel
theorem dX4_digitBehind_99 : decode cX4_digitBehind 99 = .ok (.iconst 5, 1) := by decide +kernel
theorem dX4_digitBehind_100 : decode cX4_digitBehind 100 = .ok (.iload_n 1, 1) := by decide +kernel
theorem dX4_digitBehind_101 : decode cX4_digitBehind 101 = .ok (.iastore, 1) := by decide +kernel
theorem dX4_digitBehind_102 : decode cX4_digitBehind 102 = .ok (.aload_n 0, 1) := by decide +kernel
theorem dX4_digitBehind_103 : decode cX4_digitBehind 103 = .ok (.getfield 9, 3) := by decide +kernel
theorem dX4_digitBehind_106 : decode cX4_digitBehind 106 = .ok (.iload 6, 2) := by decide +kernel
theorem dX4_digitBehind_108 : decode cX4_digitBehind 108 = .ok (.iconst 1, 1) := by decide +kernel
theorem dX4_digitBehind_109 : decode cX4_digitBehind 109 = .ok (.aload_n 0, 1) := by decide +kernel
theorem dX4_digitBehind_110 : decode cX4_digitBehind 110 = .ok (.iload_n 3, 1) := by decide +kernel
theorem dX4_digitBehind_111 : decode cX4_digitBehind 111 = .ok (.iload 5, 2) := by decide +kernel
theorem q_3_157 : Cond.code yX4_workOutDigit prog_6_method_5_code 5 (some FieldType.int) ∈ gw := gw_3 (i := 157) (rfl) rfl
theorem q_3_156 : Cond.instanceMethod yX4_workOutDigit ∈ gw := gw_3 (i := 156) (by decide +kernel) rfl
theorem q_s_25 : Cond.selects "BeaconDelay$Laws" yX4_workOutDigit yX4_workOutDigit ∈ gw := gw_s (i := 25) (by decide +kernel) rfl
theorem mt_X4_workOutDigit : MtV yX4_workOutDigit cX4_workOutDigit 5 (some .int) 2 := ⟨⟨q_3_157, q_1_4, by decide +kernel, by decide +kernel, by decide +kernel⟩, q_3_156, q_s_25⟩
theorem q_3_154 : Cond.methodLink "BeaconDelay$Laws" 53 yX4_workOutDigit ∈ gw := gw_3 (i := 154) (by decide +kernel) rfl
theorem dX4_digitBehind_113 : decode cX4_digitBehind 113 = .ok (.invokevirtual 53, 3) := by decide +kernel
theorem dX4_digitBehind_116 : decode cX4_digitBehind 116 = .ok (.iadd, 1) := by decide +kernel
theorem dX4_digitBehind_117 : decode cX4_digitBehind 117 = .ok (.iastore, 1) := by decide +kernel
set_option maxHeartbeats 4000000 in
set_option maxRecDepth 100000 in
theorem k_X4_digitBehind_0 (l : Launch) (V : GV) (y : Nat → Nat) (a1 : Int32) (a2 : Int32) (a3 : Int32) (a4 : Int32) (a5 : Int32) (fy3 : Nat → Int32) (fy9 : Nat → Int32) (fy20 : Nat → Int32) (fy21 : Nat → Int32) (fy22 : Nat → Int32) (py2_0 : Int32) (py2_1 : Int32) (py2_2 : Int32) (py2_3 : Int32) (py2_4 : Int32) (py2_5 : Int32) (py2_13 : Int32) (py2_14 : Int32) (py2_15 : Int32) (py2_16 : Int32) (py2_17 : Int32) (ba1 : iv 0 9 a1) (ba2 : iv 0 3 a2) (ba3 : iv 0 4 a3) (ba4 : iv 0 4 a4) (ba5 : iv 0 1 a5) (tfy20 : ∀ j, iv 0 10 (fy20 j)) (bpy2_1 : iv 0 4 py2_1) (bpy2_2 : iv 0 4 py2_2) (bpy2_3 : iv 0 8 py2_3) (bpy2_4 : iv 0 9999 py2_4) (bpy2_5 : iv 0 9 py2_5) (bpy2_13 : iv 0 900 py2_13) (bpy2_14 : iv 0 900 py2_14) (bpy2_15 : iv 0 900 py2_15) (bpy2_16 : iv 0 900 py2_16) (bpy2_17 : iv 0 900 py2_17) : Ct l V yX4_digitBehind (.code yX4_digitBehind cX4_digitBehind 7 (some .int)) 4 [.ref (y 19), .int a1, .int a2, .int a3, .int a4, .int a5] [(y 3, aI V 4 fy3), (y 9, aI V 900 fy9), (y 19, .inr (4, o4_rrrrrr (y 2) (y 20) (y 21) (y 22) (y 23) (y 24))), (y 20, aI V 2000 fy20), (y 21, aI V 6 fy21), (y 22, aI V 64 fy22), (y 2, .inr (1, o1_iiiiiirrrrrrriiiii py2_0 py2_1 py2_2 py2_3 py2_4 py2_5 (y 3) (y 4) (y 5) (y 6) (y 7) (y 8) (y 9) py2_13 py2_14 py2_15 py2_16 py2_17))] 0 0 (QI V (fun (r : Int32) (w : va_W) => ∃ (g0 : Nat → Int32) (g1 : Nat → Int32) (g2 : Nat → Int32), (∀ j, iv 0 10 (g0 j)) ∧ iv 0 9 r ∧ (∀ D9 : Nat → Int32, LW D9 fy3 fy9 py2_14 py2_15 py2_16 py2_17 → KN D9 fy20 → r = D9 (plF a1 a2 a3 a4 a5).toNatClampNeg ∧ KN D9 g0) ∧ w = [(y 3, aI V 4 fy3), (y 9, aI V 900 fy9), (y 19, .inr (4, o4_rrrrrr (y 2) (y 20) (y 21) (y 22) (y 23) (y 24))), (y 20, aI V 2000 g0), (y 21, aI V 6 g1), (y 22, aI V 64 g2), (y 2, .inr (1, o1_iiiiiirrrrrrriiiii py2_0 py2_1 py2_2 py2_3 py2_4 py2_5 (y 3) (y 4) (y 5) (y 6) (y 7) (y 8) (y 9) py2_13 py2_14 py2_15 py2_16 py2_17))])) := by
  refine Ct.of (by decide) (Nat.le_of_ble_eq_true rfl) (fun p e s m below meth c A ls hx hb hr hml hown hlk hnm hg hP hK hD hE hA hS hl => ?_)
  have hl : lv_has ls 7 [(0, .ref (y 19)), (1, .int a1), (2, .int a2), (3, .int a3), (4, .int a4), (5, .int a5)] := hl
  refine lv_iload_n hx hb dX4_digitBehind_0 rfl (lv_at hl 1 rfl) ?_
  refine lv_iconst (v := 4) hx hb dX4_digitBehind_1 (by decide) ?_
  refine lv_imul hx hb dX4_digitBehind_2 ?_
  refine lv_topi (fun x_1 ex_1 => ?_)
  have bx_1 : iv 0 36 x_1 := by rw [ex_1]; exact iv_mulc ba1 (iv_c (4 : Int32) (a := 4) (b := 4) (by decide)) (by decide)
  refine lv_iload_n hx hb dX4_digitBehind_3 rfl (lv_at hl 2 rfl) ?_
  refine lv_iadd hx hb dX4_digitBehind_4 ?_
  refine lv_topi (fun x_2 ex_2 => ?_)
  have bx_2 : iv 0 39 x_2 := by rw [ex_2]; exact iv_add bx_1 ba2 (by decide)
  refine lv_bipush (v := 50) hx hb dX4_digitBehind_5 (by decide) ?_
  refine lv_imul hx hb dX4_digitBehind_7 ?_
  refine lv_topi (fun x_3 ex_3 => ?_)
  have bx_3 : iv 0 1950 x_3 := by rw [ex_3]; exact iv_mulc bx_2 (iv_c (50 : Int32) (a := 50) (b := 50) (by decide)) (by decide)
  refine lv_iload_n hx hb dX4_digitBehind_8 rfl (lv_at hl 3 rfl) ?_
  refine lv_bipush (v := 10) hx hb dX4_digitBehind_9 (by decide) ?_
  refine lv_imul hx hb dX4_digitBehind_11 ?_
  refine lv_topi (fun x_4 ex_4 => ?_)
  have bx_4 : iv 0 40 x_4 := by rw [ex_4]; exact iv_mulc ba3 (iv_c (10 : Int32) (a := 10) (b := 10) (by decide)) (by decide)
  refine lv_iadd hx hb dX4_digitBehind_12 ?_
  refine lv_topi (fun x_5 ex_5 => ?_)
  have bx_5 : iv 0 1990 x_5 := by rw [ex_5]; exact iv_add bx_3 bx_4 (by decide)
  refine lv_iload hx hb dX4_digitBehind_13 (lv_at hl 4 rfl) ?_
  refine lv_iconst (v := 2) hx hb dX4_digitBehind_15 (by decide) ?_
  refine lv_imul hx hb dX4_digitBehind_16 ?_
  refine lv_topi (fun x_6 ex_6 => ?_)
  have bx_6 : iv 0 8 x_6 := by rw [ex_6]; exact iv_mulc ba4 (iv_c (2 : Int32) (a := 2) (b := 2) (by decide)) (by decide)
  refine lv_iadd hx hb dX4_digitBehind_17 ?_
  refine lv_topi (fun x_7 ex_7 => ?_)
  have bx_7 : iv 0 1998 x_7 := by rw [ex_7]; exact iv_add bx_5 bx_6 (by decide)
  refine lv_iload hx hb dX4_digitBehind_18 (lv_at hl 5 rfl) ?_
  refine lv_iadd hx hb dX4_digitBehind_20 ?_
  refine lv_topi (fun x_8 ex_8 => ?_)
  have bx_8 : iv 0 1999 x_8 := by rw [ex_8]; exact iv_add bx_7 ba5 (by decide)
  refine lv_istore (lv' := [(6, .int x_8), (0, .ref (y 19)), (1, .int a1), (2, .int a2), (3, .int a3), (4, .int a4), (5, .int a5)]) hx hb dX4_digitBehind_21 hl (by decide) rfl (fun ls hl => ?_)
  refine lv_iload hx hb dX4_digitBehind_23 (lv_at hl 0 rfl) ?_
  refine lv_if_lt (tgt := 38) hx hb dX4_digitBehind_25 (by decide) (fun c_9 => absurd c_9 (iv_nlt bx_8 (iv_c (0 : Int32) (a := 0) (b := 0) (by decide)) (by decide))) (fun _ => ?_)
  refine lv_iload hx hb dX4_digitBehind_28 (lv_at hl 0 rfl) ?_
  refine lv_aload_n hx hb dX4_digitBehind_30 rfl (lv_at hl 1 rfl) ?_
  refine va_get (ci := 4) (v := .ref (y 20)) (C := RX4) (T := TX4) (N := 6) hx hb hg inX4 hown hK hP 2 rfl rfl 1 (by decide) (hg _ q_1_172) (fun _ h9 => h9) rfl dX4_digitBehind_31 ?_
  refine va_alen (v := 2000) hx hb hK hP 3 0 rfl rfl rfl dX4_digitBehind_34 ?_
  refine lv_icmp_lt (tgt := 40) hx hb dX4_digitBehind_35 (by decide) (fun _ => ?_) (fun c_10 => absurd (iv_lt bx_8 (iv_c (2000 : Int32) (a := 2000) (b := 2000) (by decide)) (by decide)) c_10)
  refine lv_aload_n hx hb dX4_digitBehind_40 rfl (lv_at hl 1 rfl) ?_
  refine va_get (ci := 4) (v := .ref (y 20)) (C := RX4) (T := TX4) (N := 6) hx hb hg inX4 hown hK hP 2 rfl rfl 1 (by decide) (hg _ q_1_172) (fun _ h9 => h9) rfl dX4_digitBehind_41 ?_
  refine lv_iload hx hb dX4_digitBehind_44 (lv_at hl 0 rfl) ?_
  refine va_iald hx hb hK hP 3 0 rfl rfl (iv_in bx_8 (by decide)) dX4_digitBehind_46 ?_
  refine lv_topi (fun x_11 ex_11 => ?_)
  have bx_11 : iv 0 10 x_11 := by rw [ex_11]; exact tfy20 _
  refine lv_if_ne (tgt := 118) hx hb dX4_digitBehind_47 (by decide) (fun c_12 => ?_) (fun c_12 => ?_)
  · have b_13 : iv 1 10 x_11 := iv_n0 c_12 bx_11 (iv_c (0 : Int32) (a := 0) (b := 0) (by decide)) (by decide)
    refine lv_aload_n hx hb dX4_digitBehind_118 rfl (lv_at hl 1 rfl) ?_
    refine va_get (ci := 4) (v := .ref (y 20)) (C := RX4) (T := TX4) (N := 6) hx hb hg inX4 hown hK hP 2 rfl rfl 1 (by decide) (hg _ q_1_172) (fun _ h9 => h9) rfl dX4_digitBehind_119 ?_
    refine lv_iload hx hb dX4_digitBehind_122 (lv_at hl 0 rfl) ?_
    refine va_iald hx hb hK hP 3 0 rfl rfl (iv_in bx_8 (by decide)) dX4_digitBehind_124 ?_
    refine tpi (y := x_11) ex_11.symm ?_
    refine lv_iconst (v := 1) hx hb dX4_digitBehind_125 (by decide) ?_
    refine lv_isub hx hb dX4_digitBehind_126 ?_
    refine lv_topi (fun x_14 ex_14 => ?_)
    have bx_14 : iv 0 9 x_14 := by rw [ex_14]; exact iv_sub b_13 (iv_c (1 : Int32) (a := 1) (b := 1) (by decide)) (by decide)
    exact fiI hx hb hr hlk hK hP hD hS dX4_digitBehind_127 (Nat.le_of_ble_eq_true rfl) (Nat.le_of_ble_eq_true rfl) (⟨fy20, fy21, fy22, tfy20, bx_14, (fun D9 hL hK => ⟨kn_hit hK bx_8 (show x_8 = plF a1 a2 a3 a4 a5 by rw [ex_8, ex_7, ex_5, ex_3, ex_2, ex_1, ex_4, ex_6]; rfl) ex_11 c_12 ex_14, hK⟩), rfl⟩)
  · have b_15 : iv 0 0 x_11 := iv_q c_12 (iv_c (0 : Int32) (a := 0) (b := 0) (by decide))
    refine lv_aload_n hx hb dX4_digitBehind_50 rfl (lv_at hl 1 rfl) ?_
    refine va_get (ci := 4) (v := .ref (y 21)) (C := RX4) (T := TX4) (N := 6) hx hb hg inX4 hown hK hP 2 rfl rfl 2 (by decide) (hg _ q_1_173) (fun _ h9 => h9) rfl dX4_digitBehind_51 ?_
    refine lv_iconst (v := 0) hx hb dX4_digitBehind_54 (by decide) ?_
    refine lv_iload_n hx hb dX4_digitBehind_55 rfl (lv_at hl 3 rfl) ?_
    refine va_iast hx hb hK hP hD hS 4 0 rfl rfl (vin (by decide +kernel)) dX4_digitBehind_56 (fun H locs hP hD hS => ?_)
    obtain ⟨f_16, ef_16, hP, hD⟩ : ∃ f_16 : Nat → Int32, f_16 = (upd fy21 (0 : Int32).toNatClampNeg a2) ∧ va_P V.1 vwCl [(y 3, aI V 4 fy3), (y 9, aI V 900 fy9), (y 19, .inr (4, o4_rrrrrr (y 2) (y 20) (y 21) (y 22) (y 23) (y 24))), (y 20, aI V 2000 fy20), (y 21, aI V 6 f_16), (y 22, aI V 64 fy22), (y 2, .inr (1, o1_iiiiiirrrrrrriiiii py2_0 py2_1 py2_2 py2_3 py2_4 py2_5 (y 3) (y 4) (y 5) (y 6) (y 7) (y 8) (y 9) py2_13 py2_14 py2_15 py2_16 py2_17))] H ∧ va_D A [(y 3, aI V 4 fy3), (y 9, aI V 900 fy9), (y 19, .inr (4, o4_rrrrrr (y 2) (y 20) (y 21) (y 22) (y 23) (y 24))), (y 20, aI V 2000 fy20), (y 21, aI V 6 f_16), (y 22, aI V 64 fy22), (y 2, .inr (1, o1_iiiiiirrrrrrriiiii py2_0 py2_1 py2_2 py2_3 py2_4 py2_5 (y 3) (y 4) (y 5) (y 6) (y 7) (y 8) (y 9) py2_13 py2_14 py2_15 py2_16 py2_17))] := ⟨_, rfl, hP, hD⟩
    refine lv_aload_n hx hb dX4_digitBehind_57 rfl (lv_at hl 1 rfl) ?_
    refine va_get (ci := 4) (v := .ref (y 21)) (C := RX4) (T := TX4) (N := 6) hx hb hg inX4 hown hK hP 2 rfl rfl 2 (by decide) (hg _ q_1_173) (fun _ h9 => h9) rfl dX4_digitBehind_58 ?_
    refine lv_iconst (v := 1) hx hb dX4_digitBehind_61 (by decide) ?_
    refine lv_iload_n hx hb dX4_digitBehind_62 rfl (lv_at hl 4 rfl) ?_
    refine va_iast hx hb hK hP hD hS 4 0 rfl rfl (vin (by decide +kernel)) dX4_digitBehind_63 (fun H locs hP hD hS => ?_)
    obtain ⟨f_17, ef_17, hP, hD⟩ : ∃ f_17 : Nat → Int32, f_17 = (upd f_16 (1 : Int32).toNatClampNeg a3) ∧ va_P V.1 vwCl [(y 3, aI V 4 fy3), (y 9, aI V 900 fy9), (y 19, .inr (4, o4_rrrrrr (y 2) (y 20) (y 21) (y 22) (y 23) (y 24))), (y 20, aI V 2000 fy20), (y 21, aI V 6 f_17), (y 22, aI V 64 fy22), (y 2, .inr (1, o1_iiiiiirrrrrrriiiii py2_0 py2_1 py2_2 py2_3 py2_4 py2_5 (y 3) (y 4) (y 5) (y 6) (y 7) (y 8) (y 9) py2_13 py2_14 py2_15 py2_16 py2_17))] H ∧ va_D A [(y 3, aI V 4 fy3), (y 9, aI V 900 fy9), (y 19, .inr (4, o4_rrrrrr (y 2) (y 20) (y 21) (y 22) (y 23) (y 24))), (y 20, aI V 2000 fy20), (y 21, aI V 6 f_17), (y 22, aI V 64 fy22), (y 2, .inr (1, o1_iiiiiirrrrrrriiiii py2_0 py2_1 py2_2 py2_3 py2_4 py2_5 (y 3) (y 4) (y 5) (y 6) (y 7) (y 8) (y 9) py2_13 py2_14 py2_15 py2_16 py2_17))] := ⟨_, rfl, hP, hD⟩
    refine lv_aload_n hx hb dX4_digitBehind_64 rfl (lv_at hl 1 rfl) ?_
    refine va_get (ci := 4) (v := .ref (y 21)) (C := RX4) (T := TX4) (N := 6) hx hb hg inX4 hown hK hP 2 rfl rfl 2 (by decide) (hg _ q_1_173) (fun _ h9 => h9) rfl dX4_digitBehind_65 ?_
    refine lv_iconst (v := 2) hx hb dX4_digitBehind_68 (by decide) ?_
    refine lv_iload hx hb dX4_digitBehind_69 (lv_at hl 5 rfl) ?_
    refine va_iast hx hb hK hP hD hS 4 0 rfl rfl (vin (by decide +kernel)) dX4_digitBehind_71 (fun H locs hP hD hS => ?_)
    obtain ⟨f_18, ef_18, hP, hD⟩ : ∃ f_18 : Nat → Int32, f_18 = (upd f_17 (2 : Int32).toNatClampNeg a4) ∧ va_P V.1 vwCl [(y 3, aI V 4 fy3), (y 9, aI V 900 fy9), (y 19, .inr (4, o4_rrrrrr (y 2) (y 20) (y 21) (y 22) (y 23) (y 24))), (y 20, aI V 2000 fy20), (y 21, aI V 6 f_18), (y 22, aI V 64 fy22), (y 2, .inr (1, o1_iiiiiirrrrrrriiiii py2_0 py2_1 py2_2 py2_3 py2_4 py2_5 (y 3) (y 4) (y 5) (y 6) (y 7) (y 8) (y 9) py2_13 py2_14 py2_15 py2_16 py2_17))] H ∧ va_D A [(y 3, aI V 4 fy3), (y 9, aI V 900 fy9), (y 19, .inr (4, o4_rrrrrr (y 2) (y 20) (y 21) (y 22) (y 23) (y 24))), (y 20, aI V 2000 fy20), (y 21, aI V 6 f_18), (y 22, aI V 64 fy22), (y 2, .inr (1, o1_iiiiiirrrrrrriiiii py2_0 py2_1 py2_2 py2_3 py2_4 py2_5 (y 3) (y 4) (y 5) (y 6) (y 7) (y 8) (y 9) py2_13 py2_14 py2_15 py2_16 py2_17))] := ⟨_, rfl, hP, hD⟩
    refine lv_aload_n hx hb dX4_digitBehind_72 rfl (lv_at hl 1 rfl) ?_
    refine va_get (ci := 4) (v := .ref (y 21)) (C := RX4) (T := TX4) (N := 6) hx hb hg inX4 hown hK hP 2 rfl rfl 2 (by decide) (hg _ q_1_173) (fun _ h9 => h9) rfl dX4_digitBehind_73 ?_
    refine lv_iconst (v := 3) hx hb dX4_digitBehind_76 (by decide) ?_
    refine lv_iload hx hb dX4_digitBehind_77 (lv_at hl 6 rfl) ?_
    refine va_iast hx hb hK hP hD hS 4 0 rfl rfl (vin (by decide +kernel)) dX4_digitBehind_79 (fun H locs hP hD hS => ?_)
    obtain ⟨f_19, ef_19, hP, hD⟩ : ∃ f_19 : Nat → Int32, f_19 = (upd f_18 (3 : Int32).toNatClampNeg a5) ∧ va_P V.1 vwCl [(y 3, aI V 4 fy3), (y 9, aI V 900 fy9), (y 19, .inr (4, o4_rrrrrr (y 2) (y 20) (y 21) (y 22) (y 23) (y 24))), (y 20, aI V 2000 fy20), (y 21, aI V 6 f_19), (y 22, aI V 64 fy22), (y 2, .inr (1, o1_iiiiiirrrrrrriiiii py2_0 py2_1 py2_2 py2_3 py2_4 py2_5 (y 3) (y 4) (y 5) (y 6) (y 7) (y 8) (y 9) py2_13 py2_14 py2_15 py2_16 py2_17))] H ∧ va_D A [(y 3, aI V 4 fy3), (y 9, aI V 900 fy9), (y 19, .inr (4, o4_rrrrrr (y 2) (y 20) (y 21) (y 22) (y 23) (y 24))), (y 20, aI V 2000 fy20), (y 21, aI V 6 f_19), (y 22, aI V 64 fy22), (y 2, .inr (1, o1_iiiiiirrrrrrriiiii py2_0 py2_1 py2_2 py2_3 py2_4 py2_5 (y 3) (y 4) (y 5) (y 6) (y 7) (y 8) (y 9) py2_13 py2_14 py2_15 py2_16 py2_17))] := ⟨_, rfl, hP, hD⟩
    refine lv_aload_n hx hb dX4_digitBehind_80 rfl (lv_at hl 1 rfl) ?_
    refine va_get (ci := 4) (v := .ref (y 21)) (C := RX4) (T := TX4) (N := 6) hx hb hg inX4 hown hK hP 2 rfl rfl 2 (by decide) (hg _ q_1_173) (fun _ h9 => h9) rfl dX4_digitBehind_81 ?_
    refine lv_iconst (v := 4) hx hb dX4_digitBehind_84 (by decide) ?_
    refine lv_aload_n hx hb dX4_digitBehind_85 rfl (lv_at hl 1 rfl) ?_
    refine va_get (ci := 4) (v := .ref (y 2)) (C := RX4) (T := TX4) (N := 6) hx hb hg inX4 hown hK hP 2 rfl rfl 0 (by decide) (hg _ q_1_171) (fun _ h9 => h9) rfl dX4_digitBehind_86 ?_
    refine va_get (ci := 1) (v := .ref (y 3)) (C := RX1) (T := TX1) (N := 18) hx hb hg inX1 hown hK hP 6 rfl rfl 6 (by decide) (hg _ q_1_56) (fun _ h9 => h9) rfl dX4_digitBehind_89 ?_
    refine lv_iload_n hx hb dX4_digitBehind_92 rfl (lv_at hl 3 rfl) ?_
    refine va_iald hx hb hK hP 0 0 rfl rfl (iv_in ba2 (by decide)) dX4_digitBehind_93 ?_
    refine lv_topi (fun x_20 ex_20 => ?_)
    refine va_iast hx hb hK hP hD hS 4 0 rfl rfl (vin (by decide +kernel)) dX4_digitBehind_94 (fun H locs hP hD hS => ?_)
    obtain ⟨f_21, ef_21, hP, hD⟩ : ∃ f_21 : Nat → Int32, f_21 = (upd f_19 (4 : Int32).toNatClampNeg x_20) ∧ va_P V.1 vwCl [(y 3, aI V 4 fy3), (y 9, aI V 900 fy9), (y 19, .inr (4, o4_rrrrrr (y 2) (y 20) (y 21) (y 22) (y 23) (y 24))), (y 20, aI V 2000 fy20), (y 21, aI V 6 f_21), (y 22, aI V 64 fy22), (y 2, .inr (1, o1_iiiiiirrrrrrriiiii py2_0 py2_1 py2_2 py2_3 py2_4 py2_5 (y 3) (y 4) (y 5) (y 6) (y 7) (y 8) (y 9) py2_13 py2_14 py2_15 py2_16 py2_17))] H ∧ va_D A [(y 3, aI V 4 fy3), (y 9, aI V 900 fy9), (y 19, .inr (4, o4_rrrrrr (y 2) (y 20) (y 21) (y 22) (y 23) (y 24))), (y 20, aI V 2000 fy20), (y 21, aI V 6 f_21), (y 22, aI V 64 fy22), (y 2, .inr (1, o1_iiiiiirrrrrrriiiii py2_0 py2_1 py2_2 py2_3 py2_4 py2_5 (y 3) (y 4) (y 5) (y 6) (y 7) (y 8) (y 9) py2_13 py2_14 py2_15 py2_16 py2_17))] := ⟨_, rfl, hP, hD⟩
    refine lv_aload_n hx hb dX4_digitBehind_95 rfl (lv_at hl 1 rfl) ?_
    refine va_get (ci := 4) (v := .ref (y 21)) (C := RX4) (T := TX4) (N := 6) hx hb hg inX4 hown hK hP 2 rfl rfl 2 (by decide) (hg _ q_1_173) (fun _ h9 => h9) rfl dX4_digitBehind_96 ?_
    refine lv_iconst (v := 5) hx hb dX4_digitBehind_99 (by decide) ?_
    refine lv_iload_n hx hb dX4_digitBehind_100 rfl (lv_at hl 2 rfl) ?_
    refine va_iast hx hb hK hP hD hS 4 0 rfl rfl (vin (by decide +kernel)) dX4_digitBehind_101 (fun H locs hP hD hS => ?_)
    obtain ⟨f_22, ef_22, hP, hD⟩ : ∃ f_22 : Nat → Int32, f_22 = (upd f_21 (5 : Int32).toNatClampNeg a1) ∧ va_P V.1 vwCl [(y 3, aI V 4 fy3), (y 9, aI V 900 fy9), (y 19, .inr (4, o4_rrrrrr (y 2) (y 20) (y 21) (y 22) (y 23) (y 24))), (y 20, aI V 2000 fy20), (y 21, aI V 6 f_22), (y 22, aI V 64 fy22), (y 2, .inr (1, o1_iiiiiirrrrrrriiiii py2_0 py2_1 py2_2 py2_3 py2_4 py2_5 (y 3) (y 4) (y 5) (y 6) (y 7) (y 8) (y 9) py2_13 py2_14 py2_15 py2_16 py2_17))] H ∧ va_D A [(y 3, aI V 4 fy3), (y 9, aI V 900 fy9), (y 19, .inr (4, o4_rrrrrr (y 2) (y 20) (y 21) (y 22) (y 23) (y 24))), (y 20, aI V 2000 fy20), (y 21, aI V 6 f_22), (y 22, aI V 64 fy22), (y 2, .inr (1, o1_iiiiiirrrrrrriiiii py2_0 py2_1 py2_2 py2_3 py2_4 py2_5 (y 3) (y 4) (y 5) (y 6) (y 7) (y 8) (y 9) py2_13 py2_14 py2_15 py2_16 py2_17))] := ⟨_, rfl, hP, hD⟩
    refine lv_aload_n hx hb dX4_digitBehind_102 rfl (lv_at hl 1 rfl) ?_
    refine va_get (ci := 4) (v := .ref (y 20)) (C := RX4) (T := TX4) (N := 6) hx hb hg inX4 hown hK hP 2 rfl rfl 1 (by decide) (hg _ q_1_172) (fun _ h9 => h9) rfl dX4_digitBehind_103 ?_
    refine lv_iload hx hb dX4_digitBehind_106 (lv_at hl 0 rfl) ?_
    refine lv_iconst (v := 1) hx hb dX4_digitBehind_108 (by decide) ?_
    refine lv_aload_n hx hb dX4_digitBehind_109 rfl (lv_at hl 1 rfl) ?_
    refine lv_iload_n hx hb dX4_digitBehind_110 rfl (lv_at hl 4 rfl) ?_
    refine lv_iload hx hb dX4_digitBehind_111 (lv_at hl 6 rfl) ?_
    refine jnI (wr := [(y 3, aI V 4 fy3), (y 20, aI V 2000 fy20)]) (rnV (rest := [.int 1, .int x_8, .ref (y 20)]) ⟨hx, hb, hml, hown, hg⟩ (k_X4_workOutDigit_0 l V y a3 a5 fy9 f_22 fy22 py2_0 py2_1 py2_2 py2_3 py2_4 py2_5 py2_13 py2_14 py2_15 py2_16 py2_17 ba3 ba5 bpy2_1 bpy2_2 bpy2_3 bpy2_4 bpy2_5 bpy2_13 bpy2_14 bpy2_15 bpy2_16 bpy2_17) mt_X4_workOutDigit q_3_154 ⟨Nat.le_of_ble_eq_true rfl, Nat.le_of_ble_eq_true rfl⟩ hK hP hD hS hA hE [1, 2, 4, 5, 6] rfl rfl 2 rfl rfl rfl rfl hl.1 rfl (Nat.le_of_ble_eq_true rfl) dX4_digitBehind_113 ⟨Nat.le_of_ble_eq_true rfl, Nat.le_of_ble_eq_true rfl⟩) hP hD hS hA [1, 2, 4, 5, 6] [0, 3] rfl rfl rfl (by decide) (fun r_23 w H locs hw hP hD hS => ?_)
    obtain ⟨f_24, br_23, g_25, rfl⟩ := hw
    have hP : va_P V.1 vwCl [(y 3, aI V 4 fy3), (y 20, aI V 2000 fy20), (y 9, aI V 900 fy9), (y 19, .inr (4, o4_rrrrrr (y 2) (y 20) (y 21) (y 22) (y 23) (y 24))), (y 21, aI V 6 f_22), (y 22, aI V 64 f_24), (y 2, .inr (1, o1_iiiiiirrrrrrriiiii py2_0 py2_1 py2_2 py2_3 py2_4 py2_5 (y 3) (y 4) (y 5) (y 6) (y 7) (y 8) (y 9) py2_13 py2_14 py2_15 py2_16 py2_17))] H := hP
    have hD := cpD hP hD
    refine lv_iadd hx hb dX4_digitBehind_116 ?_
    refine lv_topi (fun x_26 ex_26 => ?_)
    have bx_26 : iv 1 9 x_26 := by rw [ex_26]; exact iv_add (iv_c (1 : Int32) (a := 1) (b := 1) (by decide)) br_23 (by decide)
    refine va_iast hx hb hK hP hD hS 1 0 rfl rfl (iv_in bx_8 (by decide)) dX4_digitBehind_117 (fun H locs hP hD hS => ?_)
    obtain ⟨f_27, ef_27, tf_27, hP, hD⟩ : ∃ f_27 : Nat → Int32, f_27 = (upd fy20 (x_8 : Int32).toNatClampNeg x_26) ∧ (∀ j, iv 0 10 (f_27 j)) ∧ va_P V.1 vwCl [(y 3, aI V 4 fy3), (y 20, aI V 2000 f_27), (y 9, aI V 900 fy9), (y 19, .inr (4, o4_rrrrrr (y 2) (y 20) (y 21) (y 22) (y 23) (y 24))), (y 21, aI V 6 f_22), (y 22, aI V 64 f_24), (y 2, .inr (1, o1_iiiiiirrrrrrriiiii py2_0 py2_1 py2_2 py2_3 py2_4 py2_5 (y 3) (y 4) (y 5) (y 6) (y 7) (y 8) (y 9) py2_13 py2_14 py2_15 py2_16 py2_17))] H ∧ va_D A [(y 3, aI V 4 fy3), (y 20, aI V 2000 f_27), (y 9, aI V 900 fy9), (y 19, .inr (4, o4_rrrrrr (y 2) (y 20) (y 21) (y 22) (y 23) (y 24))), (y 21, aI V 6 f_22), (y 22, aI V 64 f_24), (y 2, .inr (1, o1_iiiiiirrrrrrriiiii py2_0 py2_1 py2_2 py2_3 py2_4 py2_5 (y 3) (y 4) (y 5) (y 6) (y 7) (y 8) (y 9) py2_13 py2_14 py2_15 py2_16 py2_17))] := ⟨_, rfl, ivU tfy20 _ (iv_w bx_26 (by decide)), hP, hD⟩
    refine lv_aload_n hx hb dX4_digitBehind_118 rfl (lv_at hl 1 rfl) ?_
    refine va_get (ci := 4) (v := .ref (y 20)) (C := RX4) (T := TX4) (N := 6) hx hb hg inX4 hown hK hP 3 rfl rfl 1 (by decide) (hg _ q_1_172) (fun _ h9 => h9) rfl dX4_digitBehind_119 ?_
    refine lv_iload hx hb dX4_digitBehind_122 (lv_at hl 0 rfl) ?_
    refine va_iald hx hb hK hP 1 0 rfl rfl (iv_in bx_8 (by decide)) dX4_digitBehind_124 ?_
    refine tpi (y := x_26) (show f_27 (x_8 : Int32).toNatClampNeg = x_26 from by rw [ef_27]; exact upd_at) ?_
    refine lv_iconst (v := 1) hx hb dX4_digitBehind_125 (by decide) ?_
    refine lv_isub hx hb dX4_digitBehind_126 ?_
    refine lv_topi (fun x_28 ex_28 => ?_)
    have bx_28 : iv 0 8 x_28 := by rw [ex_28]; exact iv_sub bx_26 (iv_c (1 : Int32) (a := 1) (b := 1) (by decide)) (by decide)
    have hP := subP (ws' := [(y 3, aI V 4 fy3), (y 9, aI V 900 fy9), (y 19, .inr (4, o4_rrrrrr (y 2) (y 20) (y 21) (y 22) (y 23) (y 24))), (y 20, aI V 2000 f_27), (y 21, aI V 6 f_22), (y 22, aI V 64 f_24), (y 2, .inr (1, o1_iiiiiirrrrrrriiiii py2_0 py2_1 py2_2 py2_3 py2_4 py2_5 (y 3) (y 4) (y 5) (y 6) (y 7) (y 8) (y 9) py2_13 py2_14 py2_15 py2_16 py2_17))]) hP [0, 2, 3, 1, 4, 5, 6] rfl
    have hD := subD hP hD [0, 2, 3, 1, 4, 5, 6] rfl rfl
    exact fiI hx hb hr hlk hK hP hD hS dX4_digitBehind_127 (Nat.le_of_ble_eq_true rfl) (Nat.le_of_ble_eq_true rfl) (⟨f_27, f_22, f_24, tf_27, (iv_w bx_28 (by decide)), (fun D9 hL hK => kn_new hK (show x_8 = plF a1 a2 a3 a4 a5 by rw [ex_8, ex_7, ex_5, ex_3, ex_2, ex_1, ex_4, ex_6]; rfl) (g_25 _ (fun S9 S8 => hL a1 a2 a3 a4 a5 _ S9 S8 ba1 ba2 ba3 ba4 ba5 (by have q9 := nm6 ef_16 ef_17 ef_18 ef_19 ef_21 ef_22; rw [ex_20] at q9; exact q9))) ex_26 ef_27 ex_28), rfl⟩)
theorem dX4_behind_0 : decode cX4_behind 0 = .ok (.iconst 0, 1) := by decide +kernel
theorem dX4_behind_1 : decode cX4_behind 1 = .ok (.istore 4, 2) := by decide +kernel
theorem dX4_behind_3 : decode cX4_behind 3 = .ok (.iconst 0, 1) := by decide +kernel
theorem dX4_behind_4 : decode cX4_behind 4 = .ok (.istore 5, 2) := by decide +kernel
theorem dX4_behind_6 : decode cX4_behind 6 = .ok (.iconst 0, 1) := by decide +kernel
theorem dX4_behind_7 : decode cX4_behind 7 = .ok (.istore 6, 2) := by decide +kernel
theorem dX4_behind_9 : decode cX4_behind 9 = .ok (.iload 6, 2) := by decide +kernel
theorem dX4_behind_11 : decode cX4_behind 11 = .ok (.aload_n 0, 1) := by decide +kernel
theorem dX4_behind_12 : decode cX4_behind 12 = .ok (.getfield 27, 3) := by decide +kernel
theorem q_1_39 : Cond.fieldLink "BeaconDelay$Laws" 37 "BeaconDelay$Coast" "hills" "I" ∈ gw := gw_1 (i := 39) (by decide +kernel) rfl
theorem dX4_behind_15 : decode cX4_behind 15 = .ok (.getfield 37, 3) := by decide +kernel
theorem dX4_behind_18 : decode cX4_behind 18 = .ok (.if_icmp .ge 71, 3) := by decide +kernel
theorem dX4_behind_89 : decode cX4_behind 89 = .ok (.iload 4, 2) := by decide +kernel
theorem dX4_behind_91 : decode cX4_behind 91 = .ok (.ireturn, 1) := by decide +kernel
theorem dX4_behind_21 : decode cX4_behind 21 = .ok (.iload_n 1, 1) := by decide +kernel
theorem dX4_behind_22 : decode cX4_behind 22 = .ok (.getstatic 43, 3) := by decide +kernel
theorem dX4_behind_25 : decode cX4_behind 25 = .ok (.iload 6, 2) := by decide +kernel
theorem dX4_behind_27 : decode cX4_behind 27 = .ok (.iaload, 1) := by decide +kernel
theorem dX4_behind_28 : decode cX4_behind 28 = .ok (.idiv, 1) := by decide +kernel
theorem dX4_behind_29 : decode cX4_behind 29 = .ok (.bipush 10, 2) := by decide +kernel
theorem dX4_behind_31 : decode cX4_behind 31 = .ok (.irem, 1) := by decide +kernel
theorem dX4_behind_32 : decode cX4_behind 32 = .ok (.istore 7, 2) := by decide +kernel
theorem dX4_behind_34 : decode cX4_behind 34 = .ok (.iload 6, 2) := by decide +kernel
theorem dX4_behind_36 : decode cX4_behind 36 = .ok (.iload_n 3, 1) := by decide +kernel
theorem dX4_behind_37 : decode cX4_behind 37 = .ok (.if_icmp .ne 7, 3) := by decide +kernel
theorem dX4_behind_44 : decode cX4_behind 44 = .ok (.iload 5, 2) := by decide +kernel
theorem dX4_behind_46 : decode cX4_behind 46 = .ok (.iconst 2, 1) := by decide +kernel
theorem dX4_behind_47 : decode cX4_behind 47 = .ok (.irem, 1) := by decide +kernel
theorem dX4_behind_48 : decode cX4_behind 48 = .ok (.istore 8, 2) := by decide +kernel
theorem dX4_behind_50 : decode cX4_behind 50 = .ok (.iload 4, 2) := by decide +kernel
theorem dX4_behind_52 : decode cX4_behind 52 = .ok (.aload_n 0, 1) := by decide +kernel
theorem dX4_behind_53 : decode cX4_behind 53 = .ok (.iload_n 2, 1) := by decide +kernel
theorem dX4_behind_54 : decode cX4_behind 54 = .ok (.iload 6, 2) := by decide +kernel
theorem dX4_behind_56 : decode cX4_behind 56 = .ok (.iload 7, 2) := by decide +kernel
theorem dX4_behind_58 : decode cX4_behind 58 = .ok (.iconst 2, 1) := by decide +kernel
theorem dX4_behind_59 : decode cX4_behind 59 = .ok (.idiv, 1) := by decide +kernel
theorem dX4_behind_60 : decode cX4_behind 60 = .ok (.iload 5, 2) := by decide +kernel
theorem dX4_behind_62 : decode cX4_behind 62 = .ok (.iconst 2, 1) := by decide +kernel
theorem dX4_behind_63 : decode cX4_behind 63 = .ok (.idiv, 1) := by decide +kernel
theorem dX4_behind_64 : decode cX4_behind 64 = .ok (.iload 8, 2) := by decide +kernel
theorem q_3_153 : Cond.code yX4_digitBehind prog_6_method_4_code 7 (some FieldType.int) ∈ gw := gw_3 (i := 153) (rfl) rfl
theorem q_3_151 : Cond.instanceMethod yX4_digitBehind ∈ gw := gw_3 (i := 151) (by decide +kernel) rfl
theorem q_3_152 : Cond.selects "BeaconDelay$Laws" yX4_digitBehind yX4_digitBehind ∈ gw := gw_3 (i := 152) (by decide +kernel) rfl
theorem mt_X4_digitBehind : MtV yX4_digitBehind cX4_digitBehind 7 (some .int) 5 := ⟨⟨q_3_153, q_1_4, by decide +kernel, by decide +kernel, by decide +kernel⟩, q_3_151, q_3_152⟩
theorem q_3_150 : Cond.methodLink "BeaconDelay$Laws" 46 yX4_digitBehind ∈ gw := gw_3 (i := 150) (by decide +kernel) rfl
theorem dX4_behind_66 : decode cX4_behind 66 = .ok (.invokevirtual 46, 3) := by decide +kernel
theorem dX4_behind_69 : decode cX4_behind 69 = .ok (.getstatic 43, 3) := by decide +kernel
theorem dX4_behind_72 : decode cX4_behind 72 = .ok (.iload 6, 2) := by decide +kernel
theorem dX4_behind_74 : decode cX4_behind 74 = .ok (.iaload, 1) := by decide +kernel
theorem dX4_behind_75 : decode cX4_behind 75 = .ok (.imul, 1) := by decide +kernel
theorem dX4_behind_76 : decode cX4_behind 76 = .ok (.iadd, 1) := by decide +kernel
theorem dX4_behind_77 : decode cX4_behind 77 = .ok (.istore 4, 2) := by decide +kernel
theorem dX4_behind_79 : decode cX4_behind 79 = .ok (.iload 7, 2) := by decide +kernel
theorem dX4_behind_81 : decode cX4_behind 81 = .ok (.istore 5, 2) := by decide +kernel
theorem dX4_behind_83 : decode cX4_behind 83 = .ok (.iinc 6 1, 3) := by decide +kernel
theorem dX4_behind_86 : decode cX4_behind 86 = .ok (.goto (-77), 3) := by decide +kernel
theorem dX4_behind_40 : decode cX4_behind 40 = .ok (.iconst 0, 1) := by decide +kernel
theorem dX4_behind_41 : decode cX4_behind 41 = .ok (.goto 7, 3) := by decide +kernel
set_option maxHeartbeats 4000000 in
set_option maxRecDepth 100000 in
theorem k_X4_behind_0 (l : Launch) (V : GV) (y : Nat → Nat) (a1 : Int32) (a2 : Int32) (a3 : Int32) (fy3 : Nat → Int32) (fy9 : Nat → Int32) (fy20 : Nat → Int32) (fy21 : Nat → Int32) (fy22 : Nat → Int32) (py2_0 : Int32) (py2_1 : Int32) (py2_2 : Int32) (py2_3 : Int32) (py2_4 : Int32) (py2_5 : Int32) (py2_13 : Int32) (py2_14 : Int32) (py2_15 : Int32) (py2_16 : Int32) (py2_17 : Int32) (ba1 : iv 0 9999 a1) (ba2 : iv 0 9 a2) (tfy20 : ∀ j, iv 0 10 (fy20 j)) (bpy2_1 : iv 0 4 py2_1) (bpy2_2 : iv 0 4 py2_2) (bpy2_3 : iv 0 8 py2_3) (bpy2_4 : iv 0 9999 py2_4) (bpy2_5 : iv 0 9 py2_5) (bpy2_13 : iv 0 900 py2_13) (bpy2_14 : iv 0 900 py2_14) (bpy2_15 : iv 0 900 py2_15) (bpy2_16 : iv 0 900 py2_16) (bpy2_17 : iv 0 900 py2_17) : Ct l V yX4_behind (.code yX4_behind cX4_behind 9 (some .int)) 5 [.ref (y 19), .int a1, .int a2, .int a3] [(y 3, aI V 4 fy3), (y 9, aI V 900 fy9), (y 19, .inr (4, o4_rrrrrr (y 2) (y 20) (y 21) (y 22) (y 23) (y 24))), (y 20, aI V 2000 fy20), (y 21, aI V 6 fy21), (y 22, aI V 64 fy22), (y 2, .inr (1, o1_iiiiiirrrrrrriiiii py2_0 py2_1 py2_2 py2_3 py2_4 py2_5 (y 3) (y 4) (y 5) (y 6) (y 7) (y 8) (y 9) py2_13 py2_14 py2_15 py2_16 py2_17))] 0 0 (QI V (fun (r : Int32) (w : va_W) => ∃ (g0 : Nat → Int32) (g1 : Nat → Int32) (g2 : Nat → Int32), (∀ j, iv 0 10 (g0 j)) ∧ iv 0 9999 r ∧ (∀ D9 : Nat → Int32, LW D9 fy3 fy9 py2_14 py2_15 py2_16 py2_17 → KN D9 fy20 → r = bhS D9 a1 a2 a3 (py2_1 : Int32).toNatClampNeg ∧ KN D9 g0) ∧ w = [(y 3, aI V 4 fy3), (y 9, aI V 900 fy9), (y 19, .inr (4, o4_rrrrrr (y 2) (y 20) (y 21) (y 22) (y 23) (y 24))), (y 20, aI V 2000 g0), (y 21, aI V 6 g1), (y 22, aI V 64 g2), (y 2, .inr (1, o1_iiiiiirrrrrrriiiii py2_0 py2_1 py2_2 py2_3 py2_4 py2_5 (y 3) (y 4) (y 5) (y 6) (y 7) (y 8) (y 9) py2_13 py2_14 py2_15 py2_16 py2_17))])) := by
  refine Ct.of (by decide) (Nat.le_of_ble_eq_true rfl) (fun p e s m below meth c A ls hx hb hr hml hown hlk hnm hg hP hK hD hE hA hS hl => ?_)
  have hl : lv_has ls 9 [(0, .ref (y 19)), (1, .int a1), (2, .int a2), (3, .int a3)] := hl
  refine lv_iconst (v := 0) hx hb dX4_behind_0 (by decide) ?_
  refine lv_istore (lv' := [(4, .int 0), (0, .ref (y 19)), (1, .int a1), (2, .int a2), (3, .int a3)]) hx hb dX4_behind_1 hl (by decide) rfl (fun ls hl => ?_)
  refine lv_iconst (v := 0) hx hb dX4_behind_3 (by decide) ?_
  refine lv_istore (lv' := [(5, .int 0), (4, .int 0), (0, .ref (y 19)), (1, .int a1), (2, .int a2), (3, .int a3)]) hx hb dX4_behind_4 hl (by decide) rfl (fun ls hl => ?_)
  refine lv_iconst (v := 0) hx hb dX4_behind_6 (by decide) ?_
  refine lv_istore (lv' := [(6, .int 0), (5, .int 0), (4, .int 0), (0, .ref (y 19)), (1, .int a1), (2, .int a2), (3, .int a3)]) hx hb dX4_behind_7 hl (by decide) rfl (fun ls hl => ?_)
  refine loopF (X := fun (n_7 : Nat) (H : Heap) (locs : List Loc) (ls : Array Slot) => ∃ (u_1 : Int32) (u_2 : Int32) (u_3 : Int32) (f_4 : Nat → Int32) (f_5 : Nat → Int32) (f_6 : Nat → Int32), (iv 0 4 u_1) ∧ (iv 0 9 u_2) ∧ (iv 0 9999 u_3) ∧ (∀ j, iv 0 10 (f_4 j)) ∧ ((u_3 : Int32).toInt < (pw (u_1 : Int32).toNatClampNeg).toInt) ∧ (u_2 = wsF a1 (u_1 : Int32).toNatClampNeg) ∧ (∀ D9 : Nat → Int32, LW D9 fy3 fy9 py2_14 py2_15 py2_16 py2_17 → KN D9 fy20 → u_3 = bhS D9 a1 a2 a3 (u_1 : Int32).toNatClampNeg ∧ KN D9 f_4) ∧ ((u_1 : Int32).toInt ≤ (py2_1 : Int32).toInt) ∧ n_7 = (2147483647 - (u_1 : Int32).toInt).toNat ∧ va_P V.1 vwCl [(y 3, aI V 4 fy3), (y 9, aI V 900 fy9), (y 19, .inr (4, o4_rrrrrr (y 2) (y 20) (y 21) (y 22) (y 23) (y 24))), (y 20, aI V 2000 f_4), (y 21, aI V 6 f_5), (y 22, aI V 64 f_6), (y 2, .inr (1, o1_iiiiiirrrrrrriiiii py2_0 py2_1 py2_2 py2_3 py2_4 py2_5 (y 3) (y 4) (y 5) (y 6) (y 7) (y 8) (y 9) py2_13 py2_14 py2_15 py2_16 py2_17))] H ∧ va_D A [(y 3, aI V 4 fy3), (y 9, aI V 900 fy9), (y 19, .inr (4, o4_rrrrrr (y 2) (y 20) (y 21) (y 22) (y 23) (y 24))), (y 20, aI V 2000 f_4), (y 21, aI V 6 f_5), (y 22, aI V 64 f_6), (y 2, .inr (1, o1_iiiiiirrrrrrriiiii py2_0 py2_1 py2_2 py2_3 py2_4 py2_5 (y 3) (y 4) (y 5) (y 6) (y 7) (y 8) (y 9) py2_13 py2_14 py2_15 py2_16 py2_17))] ∧ va_S A s.heap H locs ∧ lv_has ls 9 [(6, .int u_1), (5, .int u_2), (4, .int u_3), (0, .ref (y 19)), (1, .int a1), (2, .int a2), (3, .int a3)]) (g := fun ls => F0 m 9 ls []) (fun n_7 H locs ls hX ihn_7 => ?_) _ ⟨0, 0, 0, fy20, fy21, fy22, (iv_c (0 : Int32) (by decide)), (iv_c (0 : Int32) (by decide)), (iv_c (0 : Int32) (by decide)), tfy20, (by decide), ws_0, (fun D9 hL hK => ⟨rfl, hK⟩), (bpy2_1.1), rfl, hP, hD, hS, lv_sub hl [0, 1, 2, 3, 4, 5, 6] rfl⟩
  obtain ⟨u_1, u_2, u_3, f_4, f_5, f_6, bu_1, bu_2, bu_3, tf_4, inn_7_0, inn_7_1, inn_7_2, inn_7_3, en_7, hP, hD, hS, hl⟩ := hX
  refine lv_iload hx hb dX4_behind_9 (lv_at hl 0 rfl) ?_
  refine lv_aload_n hx hb dX4_behind_11 rfl (lv_at hl 3 rfl) ?_
  refine va_get (ci := 4) (v := .ref (y 2)) (C := RX4) (T := TX4) (N := 6) hx hb hg inX4 hown hK hP 2 rfl rfl 0 (by decide) (hg _ q_1_171) (fun _ h9 => h9) rfl dX4_behind_12 ?_
  refine va_get (ci := 1) (v := .int py2_1) (C := RX1) (T := TX1) (N := 18) hx hb hg inX1 hown hK hP 6 rfl rfl 1 (by decide) (hg _ q_1_39) (fun _ h9 => h9) rfl dX4_behind_15 ?_
  refine lv_icmp_ge (tgt := 89) hx hb dX4_behind_18 (by decide) (fun c_8 => ?_) (fun c_8 => ?_)
  · refine lv_iload hx hb dX4_behind_89 (lv_at hl 2 rfl) ?_
    exact fiI hx hb hr hlk hK hP hD hS dX4_behind_91 (Nat.le_of_ble_eq_true rfl) (Nat.le_of_ble_eq_true rfl) (⟨f_4, f_5, f_6, tf_4, bu_3, (fun D9 hL hK => ⟨(inn_7_2 D9 hL hK).1.trans (congrArg (fun z9 : Int32 => bhS D9 a1 a2 a3 z9.toNatClampNeg) (Int32.toInt_inj.mp (by have q9 := inn_7_3; have z_0 := Int32.le_iff_toInt_le.mp c_8; omega))), (inn_7_2 D9 hL hK).2⟩), rfl⟩)
  · have b_9 : iv 0 3 u_1 := iv_l1 (Int32.not_le.mp c_8) bu_1 bpy2_1 (by decide)
    have b_10 : iv 1 4 py2_1 := iv_l2 (Int32.not_le.mp c_8) bu_1 bpy2_1 (by decide)
    refine lv_iload_n hx hb dX4_behind_21 rfl (lv_at hl 4 rfl) ?_
    refine va_getsN (C := "BeaconDelay") (n := "POWER") (d := "[I") hx hb hE.1.1 hS hown (va_Nw.use rfl (hE.2.2.2.2.1 _ (show ("BeaconDelay$Laws", 43, "POWER", "[I") ∈ nF by decide))) (fun _ h9 => h9) dX4_behind_22 ?_
    refine lv_iload hx hb dX4_behind_25 (lv_at hl 0 rfl) ?_
    refine va_ti (v := .int (pw u_1.toNatClampNeg)) hx hb hE.1.2 hS (iv_in b_9 (by decide)) rfl dX4_behind_27 ?_
    refine lv_topi (fun x_11 ex_11 => ?_)
    have bx_11 : iv 1 10000 x_11 := by rw [ex_11]; exact pw_iv b_9 (by decide)
    refine lv_idiv hx hb dX4_behind_28 (iv_nz bx_11 (by decide)) ?_
    refine lv_topi (fun x_12 ex_12 => ?_)
    have bx_12 : iv 0 9999 x_12 := by rw [ex_12]; exact iv_divv ba1 bx_11 (by decide)
    refine lv_bipush (v := 10) hx hb dX4_behind_29 (by decide) ?_
    refine lv_irem hx hb dX4_behind_31 (by decide) ?_
    refine lv_topi (fun x_13 ex_13 => ?_)
    have bx_13 : iv 0 9 x_13 := by rw [ex_13]; exact iv_remp bx_12 (k := 10) (by decide) (by decide)
    refine lv_istore (lv' := [(7, .int x_13), (6, .int u_1), (5, .int u_2), (4, .int u_3), (0, .ref (y 19)), (1, .int a1), (2, .int a2), (3, .int a3)]) hx hb dX4_behind_32 hl (by decide) rfl (fun ls hl => ?_)
    refine lv_iload hx hb dX4_behind_34 (lv_at hl 1 rfl) ?_
    refine lv_iload_n hx hb dX4_behind_36 rfl (lv_at hl 7 rfl) ?_
    refine lv_icmp_ne (tgt := 44) hx hb dX4_behind_37 (by decide) (fun c_14 => ?_) (fun c_14 => ?_)
    · refine lv_iload hx hb dX4_behind_44 (lv_at hl 2 rfl) ?_
      refine lv_iconst (v := 2) hx hb dX4_behind_46 (by decide) ?_
      refine lv_irem hx hb dX4_behind_47 (by decide) ?_
      refine lv_topi (fun x_15 ex_15 => ?_)
      have bx_15 : iv 0 1 x_15 := by rw [ex_15]; exact iv_remp bu_2 (k := 2) (by decide) (by decide)
      refine lv_istore (lv' := [(8, .int x_15), (7, .int x_13), (6, .int u_1), (5, .int u_2), (4, .int u_3), (0, .ref (y 19)), (1, .int a1), (2, .int a2), (3, .int a3)]) hx hb dX4_behind_48 hl (by decide) rfl (fun ls hl => ?_)
      refine lv_iload hx hb dX4_behind_50 (lv_at hl 4 rfl) ?_
      refine lv_aload_n hx hb dX4_behind_52 rfl (lv_at hl 5 rfl) ?_
      refine lv_iload_n hx hb dX4_behind_53 rfl (lv_at hl 7 rfl) ?_
      refine lv_iload hx hb dX4_behind_54 (lv_at hl 2 rfl) ?_
      refine lv_iload hx hb dX4_behind_56 (lv_at hl 1 rfl) ?_
      refine lv_iconst (v := 2) hx hb dX4_behind_58 (by decide) ?_
      refine lv_idiv hx hb dX4_behind_59 (by decide) ?_
      refine lv_topi (fun x_16 ex_16 => ?_)
      have bx_16 : iv 0 4 x_16 := by rw [ex_16]; exact iv_divp bx_13 (k := 2) (by decide) (by decide)
      refine lv_iload hx hb dX4_behind_60 (lv_at hl 3 rfl) ?_
      refine lv_iconst (v := 2) hx hb dX4_behind_62 (by decide) ?_
      refine lv_idiv hx hb dX4_behind_63 (by decide) ?_
      refine lv_topi (fun x_17 ex_17 => ?_)
      have bx_17 : iv 0 4 x_17 := by rw [ex_17]; exact iv_divp bu_2 (k := 2) (by decide) (by decide)
      refine lv_iload hx hb dX4_behind_64 (lv_at hl 0 rfl) ?_
      refine jnI (wr := []) (rnV (rest := [.int u_3]) ⟨hx, hb, hml, hown, hg⟩ (k_X4_digitBehind_0 l V y a2 u_1 x_16 x_17 x_15 fy3 fy9 f_4 f_5 f_6 py2_0 py2_1 py2_2 py2_3 py2_4 py2_5 py2_13 py2_14 py2_15 py2_16 py2_17 ba2 b_9 bx_16 bx_17 bx_15 tf_4 (iv_w b_10 (by decide)) bpy2_2 bpy2_3 bpy2_4 bpy2_5 bpy2_13 bpy2_14 bpy2_15 bpy2_16 bpy2_17) mt_X4_digitBehind q_3_150 ⟨Nat.le_of_ble_eq_true rfl, Nat.le_of_ble_eq_true rfl⟩ hK hP hD hS hA hE [0, 1, 2, 3, 4, 5, 6] rfl rfl 2 rfl rfl rfl rfl hl.1 rfl (Nat.le_of_ble_eq_true rfl) dX4_behind_66 ⟨Nat.le_of_ble_eq_true rfl, Nat.le_of_ble_eq_true rfl⟩) hP hD hS hA [0, 1, 2, 3, 4, 5, 6] [] rfl rfl rfl (by decide) (fun r_18 w H locs hw hP hD hS => ?_)
      obtain ⟨f_19, f_20, f_21, tf_19, br_18, g_22, rfl⟩ := hw
      have hP : va_P V.1 vwCl [(y 3, aI V 4 fy3), (y 9, aI V 900 fy9), (y 19, .inr (4, o4_rrrrrr (y 2) (y 20) (y 21) (y 22) (y 23) (y 24))), (y 20, aI V 2000 f_19), (y 21, aI V 6 f_20), (y 22, aI V 64 f_21), (y 2, .inr (1, o1_iiiiiirrrrrrriiiii py2_0 py2_1 py2_2 py2_3 py2_4 py2_5 (y 3) (y 4) (y 5) (y 6) (y 7) (y 8) (y 9) py2_13 py2_14 py2_15 py2_16 py2_17))] H := hP
      have hD := cpD hP hD
      refine va_getsN (C := "BeaconDelay") (n := "POWER") (d := "[I") hx hb hE.1.1 hS hown (va_Nw.use rfl (hE.2.2.2.2.1 _ (show ("BeaconDelay$Laws", 43, "POWER", "[I") ∈ nF by decide))) (fun _ h9 => h9) dX4_behind_69 ?_
      refine lv_iload hx hb dX4_behind_72 (lv_at hl 2 rfl) ?_
      refine va_ti (v := .int (pw u_1.toNatClampNeg)) hx hb hE.1.2 hS (iv_in b_9 (by decide)) rfl dX4_behind_74 ?_
      refine tpi (y := x_11) ex_11.symm ?_
      refine lv_imul hx hb dX4_behind_75 ?_
      refine lv_topi (fun x_23 ex_23 => ?_)
      refine lv_iadd hx hb dX4_behind_76 ?_
      refine lv_topi (fun x_24 ex_24 => ?_)
      have q_x_24 := bh_r b_9 bu_3.1 inn_7_0 br_18 ex_11 ex_23 ex_24
      have bx_24 : iv 0 9999 x_24 := q_x_24.1
      refine lv_istore (lv' := [(4, .int x_24), (8, .int x_15), (7, .int x_13), (6, .int u_1), (5, .int u_2), (0, .ref (y 19)), (1, .int a1), (2, .int a2), (3, .int a3)]) hx hb dX4_behind_77 hl (by decide) rfl (fun ls hl => ?_)
      refine lv_iload hx hb dX4_behind_79 (lv_at hl 2 rfl) ?_
      refine lv_istore (lv' := [(5, .int x_13), (4, .int x_24), (8, .int x_15), (7, .int x_13), (6, .int u_1), (0, .ref (y 19)), (1, .int a1), (2, .int a2), (3, .int a3)]) hx hb dX4_behind_81 hl (by decide) rfl (fun ls hl => ?_)
      obtain ⟨x_25, ex_25⟩ : ∃ z9 : Int32, z9 = u_1 + 1 := ⟨_, rfl⟩
      have bx_25 : iv 1 4 x_25 := by rw [ex_25]; exact iv_add b_9 (iv_c (1 : Int32) (a := 1) (b := 1) (by decide)) (by decide)
      refine lv_iinc (v := x_25) (lv' := [(6, .int x_25), (5, .int x_13), (4, .int x_24), (8, .int x_15), (7, .int x_13), (0, .ref (y 19)), (1, .int a1), (2, .int a2), (3, .int a3)]) hx hb dX4_behind_83 hl (k := 4) rfl (by rw [ex_25]; rfl) (by decide) rfl (fun ls hl => ?_)
      refine lv_goto (tgt := 9) hx hb dX4_behind_86 (by decide) ?_
      exact ihn_7 _ _ _ _ (by rw [en_7, ex_25]; exact mu_up b_9 (by decide)) ⟨x_25, x_13, x_24, f_19, f_20, f_21, (iv_w bx_25 (by decide)), bx_13, bx_24, tf_19, (by have q9 := q_x_24.2; rw [← ex_25] at q9; exact q9), (ws_s b_9 ex_25 ex_11 ex_12 ex_13), (fun D9 hL hK => ⟨bh_e b_9 ex_25 ex_11 ex_12 ex_13 ex_16 inn_7_1 ex_17 (sn_0 b_9.1 c_14 inn_7_1 ex_15) (inn_7_2 D9 hL hK).1 (g_22 D9 hL (inn_7_2 D9 hL hK).2).1 ex_23 ex_24, (g_22 D9 hL (inn_7_2 D9 hL hK).2).2⟩), (by have q9 := inc_toInt ex_25 b_9 (by decide); have z_0 := Int32.lt_iff_toInt_lt.mp (Int32.not_le.mp c_8); have z_1 : ¬ ((u_1 : Int32).toInt = (a3 : Int32).toInt) := fun q9 => c_14 (Int32.toInt_inj.mp q9); omega), rfl, hP, hD, hS, lv_sub hl [0, 1, 2, 5, 6, 7, 8] rfl⟩
    · have b_26 : iv 0 3 a3 := iv_q c_14.symm b_9
      refine lv_iconst (v := 0) hx hb dX4_behind_40 (by decide) ?_
      refine lv_goto (tgt := 48) hx hb dX4_behind_41 (by decide) ?_
      refine lv_istore (lv' := [(8, .int 0), (7, .int x_13), (6, .int u_1), (5, .int u_2), (4, .int u_3), (0, .ref (y 19)), (1, .int a1), (2, .int a2), (3, .int a3)]) hx hb dX4_behind_48 hl (by decide) rfl (fun ls hl => ?_)
      refine lv_iload hx hb dX4_behind_50 (lv_at hl 4 rfl) ?_
      refine lv_aload_n hx hb dX4_behind_52 rfl (lv_at hl 5 rfl) ?_
      refine lv_iload_n hx hb dX4_behind_53 rfl (lv_at hl 7 rfl) ?_
      refine lv_iload hx hb dX4_behind_54 (lv_at hl 2 rfl) ?_
      refine lv_iload hx hb dX4_behind_56 (lv_at hl 1 rfl) ?_
      refine lv_iconst (v := 2) hx hb dX4_behind_58 (by decide) ?_
      refine lv_idiv hx hb dX4_behind_59 (by decide) ?_
      refine lv_topi (fun x_27 ex_27 => ?_)
      have bx_27 : iv 0 4 x_27 := by rw [ex_27]; exact iv_divp bx_13 (k := 2) (by decide) (by decide)
      refine lv_iload hx hb dX4_behind_60 (lv_at hl 3 rfl) ?_
      refine lv_iconst (v := 2) hx hb dX4_behind_62 (by decide) ?_
      refine lv_idiv hx hb dX4_behind_63 (by decide) ?_
      refine lv_topi (fun x_28 ex_28 => ?_)
      have bx_28 : iv 0 4 x_28 := by rw [ex_28]; exact iv_divp bu_2 (k := 2) (by decide) (by decide)
      refine lv_iload hx hb dX4_behind_64 (lv_at hl 0 rfl) ?_
      refine jnI (wr := []) (rnV (rest := [.int u_3]) ⟨hx, hb, hml, hown, hg⟩ (k_X4_digitBehind_0 l V y a2 u_1 x_27 x_28 0 fy3 fy9 f_4 f_5 f_6 py2_0 py2_1 py2_2 py2_3 py2_4 py2_5 py2_13 py2_14 py2_15 py2_16 py2_17 ba2 b_9 bx_27 bx_28 (iv_c (0 : Int32) (by decide)) tf_4 (iv_w b_10 (by decide)) bpy2_2 bpy2_3 bpy2_4 bpy2_5 bpy2_13 bpy2_14 bpy2_15 bpy2_16 bpy2_17) mt_X4_digitBehind q_3_150 ⟨Nat.le_of_ble_eq_true rfl, Nat.le_of_ble_eq_true rfl⟩ hK hP hD hS hA hE [0, 1, 2, 3, 4, 5, 6] rfl rfl 2 rfl rfl rfl rfl hl.1 rfl (Nat.le_of_ble_eq_true rfl) dX4_behind_66 ⟨Nat.le_of_ble_eq_true rfl, Nat.le_of_ble_eq_true rfl⟩) hP hD hS hA [0, 1, 2, 3, 4, 5, 6] [] rfl rfl rfl (by decide) (fun r_29 w H locs hw hP hD hS => ?_)
      obtain ⟨f_30, f_31, f_32, tf_30, br_29, g_33, rfl⟩ := hw
      have hP : va_P V.1 vwCl [(y 3, aI V 4 fy3), (y 9, aI V 900 fy9), (y 19, .inr (4, o4_rrrrrr (y 2) (y 20) (y 21) (y 22) (y 23) (y 24))), (y 20, aI V 2000 f_30), (y 21, aI V 6 f_31), (y 22, aI V 64 f_32), (y 2, .inr (1, o1_iiiiiirrrrrrriiiii py2_0 py2_1 py2_2 py2_3 py2_4 py2_5 (y 3) (y 4) (y 5) (y 6) (y 7) (y 8) (y 9) py2_13 py2_14 py2_15 py2_16 py2_17))] H := hP
      have hD := cpD hP hD
      refine va_getsN (C := "BeaconDelay") (n := "POWER") (d := "[I") hx hb hE.1.1 hS hown (va_Nw.use rfl (hE.2.2.2.2.1 _ (show ("BeaconDelay$Laws", 43, "POWER", "[I") ∈ nF by decide))) (fun _ h9 => h9) dX4_behind_69 ?_
      refine lv_iload hx hb dX4_behind_72 (lv_at hl 2 rfl) ?_
      refine va_ti (v := .int (pw u_1.toNatClampNeg)) hx hb hE.1.2 hS (iv_in b_9 (by decide)) rfl dX4_behind_74 ?_
      refine tpi (y := x_11) ex_11.symm ?_
      refine lv_imul hx hb dX4_behind_75 ?_
      refine lv_topi (fun x_34 ex_34 => ?_)
      refine lv_iadd hx hb dX4_behind_76 ?_
      refine lv_topi (fun x_35 ex_35 => ?_)
      have q_x_35 := bh_r b_9 bu_3.1 inn_7_0 br_29 ex_11 ex_34 ex_35
      have bx_35 : iv 0 9999 x_35 := q_x_35.1
      refine lv_istore (lv' := [(4, .int x_35), (8, .int 0), (7, .int x_13), (6, .int u_1), (5, .int u_2), (0, .ref (y 19)), (1, .int a1), (2, .int a2), (3, .int a3)]) hx hb dX4_behind_77 hl (by decide) rfl (fun ls hl => ?_)
      refine lv_iload hx hb dX4_behind_79 (lv_at hl 2 rfl) ?_
      refine lv_istore (lv' := [(5, .int x_13), (4, .int x_35), (8, .int 0), (7, .int x_13), (6, .int u_1), (0, .ref (y 19)), (1, .int a1), (2, .int a2), (3, .int a3)]) hx hb dX4_behind_81 hl (by decide) rfl (fun ls hl => ?_)
      obtain ⟨x_36, ex_36⟩ : ∃ z9 : Int32, z9 = u_1 + 1 := ⟨_, rfl⟩
      have bx_36 : iv 1 4 x_36 := by rw [ex_36]; exact iv_add b_9 (iv_c (1 : Int32) (a := 1) (b := 1) (by decide)) (by decide)
      refine lv_iinc (v := x_36) (lv' := [(6, .int x_36), (5, .int x_13), (4, .int x_35), (8, .int 0), (7, .int x_13), (0, .ref (y 19)), (1, .int a1), (2, .int a2), (3, .int a3)]) hx hb dX4_behind_83 hl (k := 4) rfl (by rw [ex_36]; rfl) (by decide) rfl (fun ls hl => ?_)
      refine lv_goto (tgt := 9) hx hb dX4_behind_86 (by decide) ?_
      exact ihn_7 _ _ _ _ (by rw [en_7, ex_36]; exact mu_up b_9 (by decide)) ⟨x_36, x_13, x_35, f_30, f_31, f_32, (iv_w bx_36 (by decide)), bx_13, bx_35, tf_30, (by have q9 := q_x_35.2; rw [← ex_36] at q9; exact q9), (ws_s b_9 ex_36 ex_11 ex_12 ex_13), (fun D9 hL hK => ⟨bh_e b_9 ex_36 ex_11 ex_12 ex_13 ex_27 inn_7_1 ex_28 (sn_1 b_9.1 c_14) (inn_7_2 D9 hL hK).1 (g_33 D9 hL (inn_7_2 D9 hL hK).2).1 ex_34 ex_35, (g_33 D9 hL (inn_7_2 D9 hL hK).2).2⟩), (by have q9 := inc_toInt ex_36 b_9 (by decide); have z_0 := Int32.lt_iff_toInt_lt.mp (Int32.not_le.mp c_8); have z_1 := congrArg Int32.toInt c_14; omega), rfl, hP, hD, hS, lv_sub hl [0, 1, 2, 5, 6, 7, 8] rfl⟩
theorem dX9_takes_0 : decode cX9_takes 0 = .ok (.aload_n 0, 1) := by decide +kernel
theorem dX9_takes_1 : decode cX9_takes 1 = .ok (.iload_n 2, 1) := by decide +kernel
theorem dX9_takes_2 : decode cX9_takes 2 = .ok (.invokevirtual 128, 3) := by decide +kernel
theorem dX9_takes_5 : decode cX9_takes 5 = .ok (.ifCond .ne 6, 3) := by decide +kernel
theorem dX9_takes_8 : decode cX9_takes 8 = .ok (.bipush (-2), 2) := by decide +kernel
theorem dX9_takes_10 : decode cX9_takes 10 = .ok (.ireturn, 1) := by decide +kernel
theorem dX9_takes_11 : decode cX9_takes 11 = .ok (.aload_n 0, 1) := by decide +kernel
theorem dX9_takes_12 : decode cX9_takes 12 = .ok (.iload_n 1, 1) := by decide +kernel
theorem dX9_takes_13 : decode cX9_takes 13 = .ok (.i2l, 1) := by decide +kernel
theorem q_3_144 : Cond.code yX9_isNight prog_1_method_12_code 3 (some FieldType.boolean) ∈ gw := gw_3 (i := 144) (rfl) rfl
theorem q_3_143 : Cond.instanceMethod yX9_isNight ∈ gw := gw_3 (i := 143) (by decide +kernel) rfl
theorem q_s_24 : Cond.selects "BeaconDelay" yX9_isNight yX9_isNight ∈ gw := gw_s (i := 24) (by decide +kernel) rfl
theorem mt_X9_isNight : MtV yX9_isNight cX9_isNight 3 (some .boolean) 1 := ⟨⟨q_3_144, q_1_1, by decide +kernel, by decide +kernel, by decide +kernel⟩, q_3_143, q_s_24⟩
theorem q_3_141 : Cond.methodLink "BeaconDelay" 151 yX9_isNight ∈ gw := gw_3 (i := 141) (by decide +kernel) rfl
theorem dX9_takes_14 : decode cX9_takes 14 = .ok (.invokevirtual 151, 3) := by decide +kernel
theorem dX9_takes_17 : decode cX9_takes 17 = .ok (.ifCond .eq 26, 3) := by decide +kernel
theorem dX9_takes_43 : decode cX9_takes 43 = .ok (.bipush (-5), 2) := by decide +kernel
theorem dX9_takes_45 : decode cX9_takes 45 = .ok (.ireturn, 1) := by decide +kernel
theorem dX9_takes_20 : decode cX9_takes 20 = .ok (.aload_n 0, 1) := by decide +kernel
theorem q_2_40 : Cond.fieldLink "BeaconDelay" 34 "BeaconDelay" "laws" "LBeaconDelay$Laws;" ∈ gw := gw_2 (i := 40) (by decide +kernel) rfl
theorem dX9_takes_21 : decode cX9_takes 21 = .ok (.getfield 34, 3) := by decide +kernel
theorem dX9_takes_24 : decode cX9_takes 24 = .ok (.aload_n 0, 1) := by decide +kernel
theorem dX9_takes_25 : decode cX9_takes 25 = .ok (.getfield 113, 3) := by decide +kernel
theorem dX9_takes_28 : decode cX9_takes 28 = .ok (.aload_n 0, 1) := by decide +kernel
theorem dX9_takes_29 : decode cX9_takes 29 = .ok (.getfield 116, 3) := by decide +kernel
theorem dX9_takes_32 : decode cX9_takes 32 = .ok (.iload_n 1, 1) := by decide +kernel
theorem q_3_148 : Cond.code yX4_behind prog_6_method_3_code 9 (some FieldType.int) ∈ gw := gw_3 (i := 148) (rfl) rfl
theorem q_3_146 : Cond.instanceMethod yX4_behind ∈ gw := gw_3 (i := 146) (by decide +kernel) rfl
theorem q_3_147 : Cond.selects "BeaconDelay$Laws" yX4_behind yX4_behind ∈ gw := gw_3 (i := 147) (by decide +kernel) rfl
theorem mt_X4_behind : MtV yX4_behind cX4_behind 9 (some .int) 3 := ⟨⟨q_3_148, q_1_4, by decide +kernel, by decide +kernel, by decide +kernel⟩, q_3_146, q_3_147⟩
theorem q_3_145 : Cond.methodLink "BeaconDelay" 155 yX4_behind ∈ gw := gw_3 (i := 145) (by decide +kernel) rfl
theorem dX9_takes_33 : decode cX9_takes 33 = .ok (.invokevirtual 155, 3) := by decide +kernel
theorem dX9_takes_36 : decode cX9_takes 36 = .ok (.iload_n 2, 1) := by decide +kernel
theorem dX9_takes_37 : decode cX9_takes 37 = .ok (.invokestatic 139, 3) := by decide +kernel
theorem dX9_takes_40 : decode cX9_takes 40 = .ok (.goto 5, 3) := by decide +kernel
set_option maxRecDepth 100000 in
noncomputable def F_k_X9_takes_0 (D9 : Nat → Int32) (a1 : Int32) (a2 : Int32) (py0_12 : Int32) (py0_13 : Int32) (py2_1 : Int32) : Int32 := if F_k_X9_isHill_0 a2 py2_1 = 0 then ((((-2) : Int32))) else (if F_k_X9_isHill_0 a2 py2_1 = 1 then ((((-2) : Int32))) else (bnd (a1.toInt64 : Int64) fun (j_21 : Int64) => bnd (F_k_X9_isNight_0 j_21 py2_1 : Int32) fun (r_22 : Int32) => if r_22 = (0 : Int32) then ((((-5) : Int32))) else (bnd (bhS D9 py0_12 py0_13 a1 (py2_1 : Int32).toNatClampNeg : Int32) fun (r_28 : Int32) => bnd (F_k_X9_tookIn_0 r_28 a2 : Int32) fun (r_34 : Int32) => (r_34))))
set_option maxHeartbeats 4000000 in
set_option maxRecDepth 100000 in
theorem k_X9_takes_0 (l : Launch) (V : GV) (y : Nat → Nat) (D9 : Nat → Int32) (a1 : Int32) (a2 : Int32) (py0_1 : Int32) (o10 : Value) (o11 : Value) (py0_12 : Int32) (py0_13 : Int32) (py0_14 : Int32) (py2_0 : Int32) (py2_1 : Int32) (py2_2 : Int32) (py2_3 : Int32) (py2_4 : Int32) (py2_5 : Int32) (py2_13 : Int32) (py2_14 : Int32) (py2_15 : Int32) (py2_16 : Int32) (py2_17 : Int32) (fy3 : Nat → Int32) (fy9 : Nat → Int32) (fy20 : Nat → Int32) (fy21 : Nat → Int32) (fy22 : Nat → Int32) (bpy0_1 : iv 0 900 py0_1) (bpy0_12 : iv 0 9999 py0_12) (bpy0_13 : iv 0 9 py0_13) (bpy2_1 : iv 0 4 py2_1) (bpy2_2 : iv 0 4 py2_2) (bpy2_3 : iv 0 8 py2_3) (bpy2_4 : iv 0 9999 py2_4) (bpy2_5 : iv 0 9 py2_5) (bpy2_13 : iv 0 900 py2_13) (bpy2_14 : iv 0 900 py2_14) (bpy2_15 : iv 0 900 py2_15) (bpy2_16 : iv 0 900 py2_16) (bpy2_17 : iv 0 900 py2_17) (tfy20 : ∀ j, iv 0 10 (fy20 j)) (hL9 : LW D9 fy3 fy9 py2_14 py2_15 py2_16 py2_17) (hK9 : KN D9 fy20) : Ct l V yX9_takes (.code yX9_takes cX9_takes 3 (some .int)) 6 [.ref (y 0), .int a1, .int a2] [(y 0, .inr (9, o9_rirrrrrrrrvviii (y 1) py0_1 (y 2) (y 10) (y 19) (y 25) (y 26) (y 30) (y 31) (y 32) o10 o11 py0_12 py0_13 py0_14)), (y 2, .inr (1, o1_iiiiiirrrrrrriiiii py2_0 py2_1 py2_2 py2_3 py2_4 py2_5 (y 3) (y 4) (y 5) (y 6) (y 7) (y 8) (y 9) py2_13 py2_14 py2_15 py2_16 py2_17)), (y 3, aI V 4 fy3), (y 9, aI V 900 fy9), (y 19, .inr (4, o4_rrrrrr (y 2) (y 20) (y 21) (y 22) (y 23) (y 24))), (y 20, aI V 2000 fy20), (y 21, aI V 6 fy21), (y 22, aI V 64 fy22)] 0 0 (QI V (fun (r : Int32) (w : va_W) => ∃ (g0 : Nat → Int32) (g1 : Nat → Int32) (g2 : Nat → Int32), (∀ j, iv 0 10 (g0 j)) ∧ iv (-5) 1 r ∧ r = (F_k_X9_takes_0 D9 a1 a2 py0_12 py0_13 py2_1) ∧ KN D9 g0 ∧ w = [(y 0, .inr (9, o9_rirrrrrrrrvviii (y 1) py0_1 (y 2) (y 10) (y 19) (y 25) (y 26) (y 30) (y 31) (y 32) o10 o11 py0_12 py0_13 py0_14)), (y 2, .inr (1, o1_iiiiiirrrrrrriiiii py2_0 py2_1 py2_2 py2_3 py2_4 py2_5 (y 3) (y 4) (y 5) (y 6) (y 7) (y 8) (y 9) py2_13 py2_14 py2_15 py2_16 py2_17)), (y 3, aI V 4 fy3), (y 9, aI V 900 fy9), (y 19, .inr (4, o4_rrrrrr (y 2) (y 20) (y 21) (y 22) (y 23) (y 24))), (y 20, aI V 2000 g0), (y 21, aI V 6 g1), (y 22, aI V 64 g2)])) := by
  refine Ct.of (by decide) (Nat.le_of_ble_eq_true rfl) (fun p e s m below meth c A ls hx hb hr hml hown hlk hnm hg hP hK hD hE hA hS hl => ?_)
  have hl : lv_has ls 3 [(0, .ref (y 0)), (1, .int a1), (2, .int a2)] := hl
  obtain ⟨T0, hT0⟩ : ∃ T9, T9 = F_k_X9_takes_0 D9 a1 a2 py0_12 py0_13 py2_1 := ⟨_, rfl⟩
  have hR := hT0.trans (F_k_X9_takes_0.eq_1 ..)
  refine lv_aload_n hx hb dX9_takes_0 rfl (lv_at hl 0 rfl) ?_
  refine lv_iload_n hx hb dX9_takes_1 rfl (lv_at hl 2 rfl) ?_
  refine jnI (wr := [(y 3, aI V 4 fy3), (y 9, aI V 900 fy9), (y 19, .inr (4, o4_rrrrrr (y 2) (y 20) (y 21) (y 22) (y 23) (y 24))), (y 20, aI V 2000 fy20), (y 21, aI V 6 fy21), (y 22, aI V 64 fy22)]) (rnV (rest := []) ⟨hx, hb, hml, hown, hg⟩ (k_X9_isHill_0 l V y a2 py0_1 o10 o11 py0_12 py0_13 py0_14 py2_0 py2_1 py2_2 py2_3 py2_4 py2_5 py2_13 py2_14 py2_15 py2_16 py2_17 bpy0_1 bpy0_12 bpy0_13 bpy2_1 bpy2_2 bpy2_3 bpy2_4 bpy2_5 bpy2_13 bpy2_14 bpy2_15 bpy2_16 bpy2_17) mt_X9_isHill q_3_122 ⟨Nat.le_of_ble_eq_true rfl, Nat.le_of_ble_eq_true rfl⟩ hK hP hD hS hA hE [0, 1] rfl rfl 0 rfl rfl rfl rfl hl.1 rfl (Nat.le_of_ble_eq_true rfl) dX9_takes_2 ⟨Nat.le_of_ble_eq_true rfl, Nat.le_of_ble_eq_true rfl⟩) hP hD hS hA [0, 1] [2, 3, 4, 5, 6, 7] rfl rfl rfl (by decide) (fun r_1 w H locs hw hP hD hS => ?_)
  rcases hw with ⟨c_2, rfl, et_3, rfl⟩ | ⟨c_4, c_5, rfl, et_6, rfl⟩ | ⟨c_7, c_8, rfl, et_9, rfl⟩
  · have hP : va_P V.1 vwCl [(y 3, aI V 4 fy3), (y 9, aI V 900 fy9), (y 19, .inr (4, o4_rrrrrr (y 2) (y 20) (y 21) (y 22) (y 23) (y 24))), (y 20, aI V 2000 fy20), (y 21, aI V 6 fy21), (y 22, aI V 64 fy22), (y 0, .inr (9, o9_rirrrrrrrrvviii (y 1) py0_1 (y 2) (y 10) (y 19) (y 25) (y 26) (y 30) (y 31) (y 32) o10 o11 py0_12 py0_13 py0_14)), (y 2, .inr (1, o1_iiiiiirrrrrrriiiii py2_0 py2_1 py2_2 py2_3 py2_4 py2_5 (y 3) (y 4) (y 5) (y 6) (y 7) (y 8) (y 9) py2_13 py2_14 py2_15 py2_16 py2_17))] H := hP
    have hD := cpD hP hD
    replace hR := ti hR et_3.symm
    have b_10 : iv (-2147483648) (-1) a2 := iv_l1 c_2 (iv_top a2) (iv_c (0 : Int32) (a := 0) (b := 0) (by decide)) (by decide)
    refine lv_if_ne (tgt := 11) hx hb dX9_takes_5 (by decide) (fun c_12 => absurd c_12 (by decide)) (fun _ => ?_)
    refine lv_bipush (v := (-2)) hx hb dX9_takes_8 (by decide) ?_
    have hP := subP (ws' := [(y 0, .inr (9, o9_rirrrrrrrrvviii (y 1) py0_1 (y 2) (y 10) (y 19) (y 25) (y 26) (y 30) (y 31) (y 32) o10 o11 py0_12 py0_13 py0_14)), (y 2, .inr (1, o1_iiiiiirrrrrrriiiii py2_0 py2_1 py2_2 py2_3 py2_4 py2_5 (y 3) (y 4) (y 5) (y 6) (y 7) (y 8) (y 9) py2_13 py2_14 py2_15 py2_16 py2_17)), (y 3, aI V 4 fy3), (y 9, aI V 900 fy9), (y 19, .inr (4, o4_rrrrrr (y 2) (y 20) (y 21) (y 22) (y 23) (y 24))), (y 20, aI V 2000 fy20), (y 21, aI V 6 fy21), (y 22, aI V 64 fy22)]) hP [6, 7, 0, 1, 2, 3, 4, 5] rfl
    have hD := subD hP hD [6, 7, 0, 1, 2, 3, 4, 5] rfl rfl
    exact fiI hx hb hr hlk hK hP hD hS dX9_takes_10 (Nat.le_of_ble_eq_true rfl) (Nat.le_of_ble_eq_true rfl) (⟨fy20, fy21, fy22, tfy20, (iv_c ((-2) : Int32) (by decide)), (hR.symm.trans hT0), hK9, rfl⟩)
  · have hP : va_P V.1 vwCl [(y 3, aI V 4 fy3), (y 9, aI V 900 fy9), (y 19, .inr (4, o4_rrrrrr (y 2) (y 20) (y 21) (y 22) (y 23) (y 24))), (y 20, aI V 2000 fy20), (y 21, aI V 6 fy21), (y 22, aI V 64 fy22), (y 0, .inr (9, o9_rirrrrrrrrvviii (y 1) py0_1 (y 2) (y 10) (y 19) (y 25) (y 26) (y 30) (y 31) (y 32) o10 o11 py0_12 py0_13 py0_14)), (y 2, .inr (1, o1_iiiiiirrrrrrriiiii py2_0 py2_1 py2_2 py2_3 py2_4 py2_5 (y 3) (y 4) (y 5) (y 6) (y 7) (y 8) (y 9) py2_13 py2_14 py2_15 py2_16 py2_17))] H := hP
    have hD := cpD hP hD
    replace hR := te hR (by rw [← et_6]; decide)
    replace hR := ti hR et_6.symm
    have b_13 : iv 0 2147483647 a2 := iv_e2 (Int32.not_lt.mp c_4) (iv_c (0 : Int32) (a := 0) (b := 0) (by decide)) (iv_top a2) (by decide)
    refine lv_if_ne (tgt := 11) hx hb dX9_takes_5 (by decide) (fun c_15 => absurd c_15 (by decide)) (fun _ => ?_)
    refine lv_bipush (v := (-2)) hx hb dX9_takes_8 (by decide) ?_
    have hP := subP (ws' := [(y 0, .inr (9, o9_rirrrrrrrrvviii (y 1) py0_1 (y 2) (y 10) (y 19) (y 25) (y 26) (y 30) (y 31) (y 32) o10 o11 py0_12 py0_13 py0_14)), (y 2, .inr (1, o1_iiiiiirrrrrrriiiii py2_0 py2_1 py2_2 py2_3 py2_4 py2_5 (y 3) (y 4) (y 5) (y 6) (y 7) (y 8) (y 9) py2_13 py2_14 py2_15 py2_16 py2_17)), (y 3, aI V 4 fy3), (y 9, aI V 900 fy9), (y 19, .inr (4, o4_rrrrrr (y 2) (y 20) (y 21) (y 22) (y 23) (y 24))), (y 20, aI V 2000 fy20), (y 21, aI V 6 fy21), (y 22, aI V 64 fy22)]) hP [6, 7, 0, 1, 2, 3, 4, 5] rfl
    have hD := subD hP hD [6, 7, 0, 1, 2, 3, 4, 5] rfl rfl
    exact fiI hx hb hr hlk hK hP hD hS dX9_takes_10 (Nat.le_of_ble_eq_true rfl) (Nat.le_of_ble_eq_true rfl) (⟨fy20, fy21, fy22, tfy20, (iv_c ((-2) : Int32) (by decide)), (hR.symm.trans hT0), hK9, rfl⟩)
  · have hP : va_P V.1 vwCl [(y 3, aI V 4 fy3), (y 9, aI V 900 fy9), (y 19, .inr (4, o4_rrrrrr (y 2) (y 20) (y 21) (y 22) (y 23) (y 24))), (y 20, aI V 2000 fy20), (y 21, aI V 6 fy21), (y 22, aI V 64 fy22), (y 0, .inr (9, o9_rirrrrrrrrvviii (y 1) py0_1 (y 2) (y 10) (y 19) (y 25) (y 26) (y 30) (y 31) (y 32) o10 o11 py0_12 py0_13 py0_14)), (y 2, .inr (1, o1_iiiiiirrrrrrriiiii py2_0 py2_1 py2_2 py2_3 py2_4 py2_5 (y 3) (y 4) (y 5) (y 6) (y 7) (y 8) (y 9) py2_13 py2_14 py2_15 py2_16 py2_17))] H := hP
    have hD := cpD hP hD
    replace hR := te hR (by rw [← et_9]; decide)
    replace hR := te hR (by rw [← et_9]; decide)
    have b_16 : iv 0 2147483647 a2 := iv_e2 (Int32.not_lt.mp c_7) (iv_c (0 : Int32) (a := 0) (b := 0) (by decide)) (iv_top a2) (by decide)
    have b_17 : iv 0 3 a2 := iv_l1 (Int32.not_le.mp c_8) b_16 bpy2_1 (by decide)
    have b_18 : iv 1 4 py2_1 := iv_l2 (Int32.not_le.mp c_8) b_16 bpy2_1 (by decide)
    refine lv_if_ne (tgt := 11) hx hb dX9_takes_5 (by decide) (fun _ => ?_) (fun c_20 => absurd c_20 (by decide))
    refine lv_aload_n hx hb dX9_takes_11 rfl (lv_at hl 0 rfl) ?_
    refine lv_iload_n hx hb dX9_takes_12 rfl (lv_at hl 1 rfl) ?_
    refine lv_i2l hx hb dX9_takes_13 rfl ?_
    refine lv_topl (fun j_21 ej_21 => ?_)
    replace hR := tb hR ej_21
    refine jnI (wr := [(y 3, aI V 4 fy3), (y 9, aI V 900 fy9), (y 19, .inr (4, o4_rrrrrr (y 2) (y 20) (y 21) (y 22) (y 23) (y 24))), (y 20, aI V 2000 fy20), (y 21, aI V 6 fy21), (y 22, aI V 64 fy22)]) (rnV (rest := []) ⟨hx, hb, hml, hown, hg⟩ (k_X9_isNight_0 l V y j_21 py0_1 o10 o11 py0_12 py0_13 py0_14 py2_0 py2_1 py2_2 py2_3 py2_4 py2_5 py2_13 py2_14 py2_15 py2_16 py2_17 bpy0_1 bpy0_12 bpy0_13 (iv_w b_18 (by decide)) bpy2_2 bpy2_3 bpy2_4 bpy2_5 bpy2_13 bpy2_14 bpy2_15 bpy2_16 bpy2_17) mt_X9_isNight q_3_141 ⟨Nat.le_of_ble_eq_true rfl, Nat.le_of_ble_eq_true rfl⟩ hK hP hD hS hA hE [6, 7] rfl rfl 6 rfl rfl rfl rfl hl.1 rfl (Nat.le_of_ble_eq_true rfl) dX9_takes_14 ⟨Nat.le_of_ble_eq_true rfl, Nat.le_of_ble_eq_true rfl⟩) hP hD hS hA [6, 7] [0, 1, 2, 3, 4, 5] rfl rfl rfl (by decide) (fun r_22 w H locs hw hP hD hS => ?_)
    obtain ⟨br_22, et_23, rfl⟩ := hw
    replace hR := tb hR et_23
    have hP : va_P V.1 vwCl [(y 3, aI V 4 fy3), (y 9, aI V 900 fy9), (y 19, .inr (4, o4_rrrrrr (y 2) (y 20) (y 21) (y 22) (y 23) (y 24))), (y 20, aI V 2000 fy20), (y 21, aI V 6 fy21), (y 22, aI V 64 fy22), (y 0, .inr (9, o9_rirrrrrrrrvviii (y 1) py0_1 (y 2) (y 10) (y 19) (y 25) (y 26) (y 30) (y 31) (y 32) o10 o11 py0_12 py0_13 py0_14)), (y 2, .inr (1, o1_iiiiiirrrrrrriiiii py2_0 py2_1 py2_2 py2_3 py2_4 py2_5 (y 3) (y 4) (y 5) (y 6) (y 7) (y 8) (y 9) py2_13 py2_14 py2_15 py2_16 py2_17))] H := hP
    have hD := cpD hP hD
    refine lv_if_eq (tgt := 43) hx hb dX9_takes_17 (by decide) (fun c_25 => ?_) (fun c_25 => ?_)
    · replace hR := ti hR c_25
      have b_26 : iv 0 0 r_22 := iv_q c_25 (iv_c (0 : Int32) (a := 0) (b := 0) (by decide))
      refine lv_bipush (v := (-5)) hx hb dX9_takes_43 (by decide) ?_
      have hP := subP (ws' := [(y 0, .inr (9, o9_rirrrrrrrrvviii (y 1) py0_1 (y 2) (y 10) (y 19) (y 25) (y 26) (y 30) (y 31) (y 32) o10 o11 py0_12 py0_13 py0_14)), (y 2, .inr (1, o1_iiiiiirrrrrrriiiii py2_0 py2_1 py2_2 py2_3 py2_4 py2_5 (y 3) (y 4) (y 5) (y 6) (y 7) (y 8) (y 9) py2_13 py2_14 py2_15 py2_16 py2_17)), (y 3, aI V 4 fy3), (y 9, aI V 900 fy9), (y 19, .inr (4, o4_rrrrrr (y 2) (y 20) (y 21) (y 22) (y 23) (y 24))), (y 20, aI V 2000 fy20), (y 21, aI V 6 fy21), (y 22, aI V 64 fy22)]) hP [6, 7, 0, 1, 2, 3, 4, 5] rfl
      have hD := subD hP hD [6, 7, 0, 1, 2, 3, 4, 5] rfl rfl
      exact fiI hx hb hr hlk hK hP hD hS dX9_takes_45 (Nat.le_of_ble_eq_true rfl) (Nat.le_of_ble_eq_true rfl) (⟨fy20, fy21, fy22, tfy20, (iv_c ((-5) : Int32) (by decide)), (hR.symm.trans hT0), hK9, rfl⟩)
    · replace hR := te hR c_25
      have b_27 : iv 1 1 r_22 := iv_n0 c_25 br_22 (iv_c (0 : Int32) (a := 0) (b := 0) (by decide)) (by decide)
      refine lv_aload_n hx hb dX9_takes_20 rfl (lv_at hl 0 rfl) ?_
      refine va_get (ci := 9) (v := .ref (y 19)) (C := RX9) (T := TX9) (N := 15) hx hb hg inX9 hown hK hP 6 rfl rfl 4 (by decide) (hg _ q_2_40) (fun _ h9 => h9) rfl dX9_takes_21 ?_
      refine lv_aload_n hx hb dX9_takes_24 rfl (lv_at hl 0 rfl) ?_
      refine va_get (ci := 9) (v := .int py0_12) (C := RX9) (T := TX9) (N := 15) hx hb hg inX9 hown hK hP 6 rfl rfl 12 (by decide) (hg _ q_2_48) (fun _ h9 => h9) rfl dX9_takes_25 ?_
      refine lv_aload_n hx hb dX9_takes_28 rfl (lv_at hl 0 rfl) ?_
      refine va_get (ci := 9) (v := .int py0_13) (C := RX9) (T := TX9) (N := 15) hx hb hg inX9 hown hK hP 6 rfl rfl 13 (by decide) (hg _ q_2_49) (fun _ h9 => h9) rfl dX9_takes_29 ?_
      refine lv_iload_n hx hb dX9_takes_32 rfl (lv_at hl 1 rfl) ?_
      refine jnI (wr := [(y 0, .inr (9, o9_rirrrrrrrrvviii (y 1) py0_1 (y 2) (y 10) (y 19) (y 25) (y 26) (y 30) (y 31) (y 32) o10 o11 py0_12 py0_13 py0_14))]) (rnV (rest := []) ⟨hx, hb, hml, hown, hg⟩ (k_X4_behind_0 l V y py0_12 py0_13 a1 fy3 fy9 fy20 fy21 fy22 py2_0 py2_1 py2_2 py2_3 py2_4 py2_5 py2_13 py2_14 py2_15 py2_16 py2_17 bpy0_12 bpy0_13 tfy20 (iv_w b_18 (by decide)) bpy2_2 bpy2_3 bpy2_4 bpy2_5 bpy2_13 bpy2_14 bpy2_15 bpy2_16 bpy2_17) mt_X4_behind q_3_145 ⟨Nat.le_of_ble_eq_true rfl, Nat.le_of_ble_eq_true rfl⟩ hK hP hD hS hA hE [0, 1, 2, 3, 4, 5, 7] rfl rfl 2 rfl rfl rfl rfl hl.1 rfl (Nat.le_of_ble_eq_true rfl) dX9_takes_33 ⟨Nat.le_of_ble_eq_true rfl, Nat.le_of_ble_eq_true rfl⟩) hP hD hS hA [0, 1, 2, 3, 4, 5, 7] [6] rfl rfl rfl (by decide) (fun r_28 w H locs hw hP hD hS => ?_)
      obtain ⟨f_29, f_30, f_31, tf_29, br_28, g_32, rfl⟩ := hw
      have qkn_33 := g_32 D9 hL9 hK9
      have er_28 : r_28 = bhS D9 py0_12 py0_13 a1 (py2_1 : Int32).toNatClampNeg := qkn_33.1
      have kn_33 := qkn_33.2
      replace hR := tb hR er_28
      have hP : va_P V.1 vwCl [(y 0, .inr (9, o9_rirrrrrrrrvviii (y 1) py0_1 (y 2) (y 10) (y 19) (y 25) (y 26) (y 30) (y 31) (y 32) o10 o11 py0_12 py0_13 py0_14)), (y 3, aI V 4 fy3), (y 9, aI V 900 fy9), (y 19, .inr (4, o4_rrrrrr (y 2) (y 20) (y 21) (y 22) (y 23) (y 24))), (y 20, aI V 2000 f_29), (y 21, aI V 6 f_30), (y 22, aI V 64 f_31), (y 2, .inr (1, o1_iiiiiirrrrrrriiiii py2_0 py2_1 py2_2 py2_3 py2_4 py2_5 (y 3) (y 4) (y 5) (y 6) (y 7) (y 8) (y 9) py2_13 py2_14 py2_15 py2_16 py2_17))] H := hP
      have hD := cpD hP hD
      refine lv_iload_n hx hb dX9_takes_36 rfl (lv_at hl 2 rfl) ?_
      refine jnI (wr := [(y 0, .inr (9, o9_rirrrrrrrrvviii (y 1) py0_1 (y 2) (y 10) (y 19) (y 25) (y 26) (y 30) (y 31) (y 32) o10 o11 py0_12 py0_13 py0_14)), (y 3, aI V 4 fy3), (y 9, aI V 900 fy9), (y 19, .inr (4, o4_rrrrrr (y 2) (y 20) (y 21) (y 22) (y 23) (y 24))), (y 20, aI V 2000 f_29), (y 21, aI V 6 f_30), (y 22, aI V 64 f_31), (y 2, .inr (1, o1_iiiiiirrrrrrriiiii py2_0 py2_1 py2_2 py2_3 py2_4 py2_5 (y 3) (y 4) (y 5) (y 6) (y 7) (y 8) (y 9) py2_13 py2_14 py2_15 py2_16 py2_17))]) (rnS (rest := []) ⟨hx, hb, hml, hown, hg⟩ (k_X9_tookIn_0 l V r_28 a2 br_28 (iv_w b_17 (by decide))) mt_X9_tookIn q_3_130 ⟨Nat.le_of_ble_eq_true rfl, Nat.le_of_ble_eq_true rfl⟩ hK hP hD hS hA hE [] rfl rfl rfl hl.1 rfl (Nat.le_of_ble_eq_true rfl) dX9_takes_37 ⟨Nat.le_of_ble_eq_true rfl, Nat.le_of_ble_eq_true rfl⟩) hP hD hS hA [] [0, 1, 2, 3, 4, 5, 6, 7] rfl rfl rfl (by decide) (fun r_34 w H locs hw hP hD hS => ?_)
      obtain ⟨br_34, er_34, et_35, rfl⟩ := hw
      replace hR := tb hR et_35
      have hP : va_P V.1 vwCl [(y 0, .inr (9, o9_rirrrrrrrrvviii (y 1) py0_1 (y 2) (y 10) (y 19) (y 25) (y 26) (y 30) (y 31) (y 32) o10 o11 py0_12 py0_13 py0_14)), (y 3, aI V 4 fy3), (y 9, aI V 900 fy9), (y 19, .inr (4, o4_rrrrrr (y 2) (y 20) (y 21) (y 22) (y 23) (y 24))), (y 20, aI V 2000 f_29), (y 21, aI V 6 f_30), (y 22, aI V 64 f_31), (y 2, .inr (1, o1_iiiiiirrrrrrriiiii py2_0 py2_1 py2_2 py2_3 py2_4 py2_5 (y 3) (y 4) (y 5) (y 6) (y 7) (y 8) (y 9) py2_13 py2_14 py2_15 py2_16 py2_17))] H := hP
      have hD := cpD hP hD
      refine lv_goto (tgt := 45) hx hb dX9_takes_40 (by decide) ?_
      have hP := subP (ws' := [(y 0, .inr (9, o9_rirrrrrrrrvviii (y 1) py0_1 (y 2) (y 10) (y 19) (y 25) (y 26) (y 30) (y 31) (y 32) o10 o11 py0_12 py0_13 py0_14)), (y 2, .inr (1, o1_iiiiiirrrrrrriiiii py2_0 py2_1 py2_2 py2_3 py2_4 py2_5 (y 3) (y 4) (y 5) (y 6) (y 7) (y 8) (y 9) py2_13 py2_14 py2_15 py2_16 py2_17)), (y 3, aI V 4 fy3), (y 9, aI V 900 fy9), (y 19, .inr (4, o4_rrrrrr (y 2) (y 20) (y 21) (y 22) (y 23) (y 24))), (y 20, aI V 2000 f_29), (y 21, aI V 6 f_30), (y 22, aI V 64 f_31)]) hP [0, 7, 1, 2, 3, 4, 5, 6] rfl
      have hD := subD hP hD [0, 7, 1, 2, 3, 4, 5, 6] rfl rfl
      exact fiI hx hb hr hlk hK hP hD hS dX9_takes_45 (Nat.le_of_ble_eq_true rfl) (Nat.le_of_ble_eq_true rfl) (⟨f_29, f_30, f_31, tf_29, (iv_w br_34 (by decide)), (hR.symm.trans hT0), kn_33, rfl⟩)
theorem dX9_by_0 : decode cX9_by 0 = .ok (.aload_n 0, 1) := by decide +kernel
theorem dX9_by_1 : decode cX9_by 1 = .ok (.iload_n 2, 1) := by decide +kernel
theorem dX9_by_2 : decode cX9_by 2 = .ok (.invokevirtual 128, 3) := by decide +kernel
theorem dX9_by_5 : decode cX9_by 5 = .ok (.ifCond .ne 6, 3) := by decide +kernel
theorem dX9_by_8 : decode cX9_by 8 = .ok (.bipush (-2), 2) := by decide +kernel
theorem dX9_by_10 : decode cX9_by 10 = .ok (.ireturn, 1) := by decide +kernel
theorem dX9_by_11 : decode cX9_by 11 = .ok (.aload_n 0, 1) := by decide +kernel
theorem dX9_by_12 : decode cX9_by 12 = .ok (.iload_n 1, 1) := by decide +kernel
theorem dX9_by_13 : decode cX9_by 13 = .ok (.i2l, 1) := by decide +kernel
theorem dX9_by_14 : decode cX9_by 14 = .ok (.invokevirtual 151, 3) := by decide +kernel
theorem dX9_by_17 : decode cX9_by 17 = .ok (.ifCond .eq 26, 3) := by decide +kernel
theorem dX9_by_43 : decode cX9_by 43 = .ok (.bipush (-5), 2) := by decide +kernel
theorem dX9_by_45 : decode cX9_by 45 = .ok (.ireturn, 1) := by decide +kernel
theorem dX9_by_20 : decode cX9_by 20 = .ok (.aload_n 0, 1) := by decide +kernel
theorem dX9_by_21 : decode cX9_by 21 = .ok (.getfield 34, 3) := by decide +kernel
theorem dX9_by_24 : decode cX9_by 24 = .ok (.aload_n 0, 1) := by decide +kernel
theorem dX9_by_25 : decode cX9_by 25 = .ok (.getfield 113, 3) := by decide +kernel
theorem dX9_by_28 : decode cX9_by 28 = .ok (.aload_n 0, 1) := by decide +kernel
theorem dX9_by_29 : decode cX9_by 29 = .ok (.getfield 116, 3) := by decide +kernel
theorem dX9_by_32 : decode cX9_by 32 = .ok (.iload_n 1, 1) := by decide +kernel
theorem dX9_by_33 : decode cX9_by 33 = .ok (.invokevirtual 155, 3) := by decide +kernel
theorem dX9_by_36 : decode cX9_by 36 = .ok (.iload_n 2, 1) := by decide +kernel
theorem dX9_by_37 : decode cX9_by 37 = .ok (.invokestatic 132, 3) := by decide +kernel
theorem dX9_by_40 : decode cX9_by 40 = .ok (.goto 5, 3) := by decide +kernel
set_option maxRecDepth 100000 in
noncomputable def F_k_X9_by_0 (D9 : Nat → Int32) (a1 : Int32) (a2 : Int32) (py0_12 : Int32) (py0_13 : Int32) (py2_1 : Int32) : Int32 := if F_k_X9_isHill_0 a2 py2_1 = 0 then ((((-2) : Int32))) else (if F_k_X9_isHill_0 a2 py2_1 = 1 then ((((-2) : Int32))) else (bnd (a1.toInt64 : Int64) fun (j_21 : Int64) => bnd (F_k_X9_isNight_0 j_21 py2_1 : Int32) fun (r_22 : Int32) => if r_22 = (0 : Int32) then ((((-5) : Int32))) else (bnd (bhS D9 py0_12 py0_13 a1 (py2_1 : Int32).toNatClampNeg : Int32) fun (r_28 : Int32) => bnd (F_k_X9_stackIn_0 r_28 a2 : Int32) fun (r_34 : Int32) => (r_34))))
set_option maxHeartbeats 4000000 in
set_option maxRecDepth 100000 in
theorem k_X9_by_0 (l : Launch) (V : GV) (y : Nat → Nat) (D9 : Nat → Int32) (a1 : Int32) (a2 : Int32) (py0_1 : Int32) (o10 : Value) (o11 : Value) (py0_12 : Int32) (py0_13 : Int32) (py0_14 : Int32) (py2_0 : Int32) (py2_1 : Int32) (py2_2 : Int32) (py2_3 : Int32) (py2_4 : Int32) (py2_5 : Int32) (py2_13 : Int32) (py2_14 : Int32) (py2_15 : Int32) (py2_16 : Int32) (py2_17 : Int32) (fy3 : Nat → Int32) (fy9 : Nat → Int32) (fy20 : Nat → Int32) (fy21 : Nat → Int32) (fy22 : Nat → Int32) (bpy0_1 : iv 0 900 py0_1) (bpy0_12 : iv 0 9999 py0_12) (bpy0_13 : iv 0 9 py0_13) (bpy2_1 : iv 0 4 py2_1) (bpy2_2 : iv 0 4 py2_2) (bpy2_3 : iv 0 8 py2_3) (bpy2_4 : iv 0 9999 py2_4) (bpy2_5 : iv 0 9 py2_5) (bpy2_13 : iv 0 900 py2_13) (bpy2_14 : iv 0 900 py2_14) (bpy2_15 : iv 0 900 py2_15) (bpy2_16 : iv 0 900 py2_16) (bpy2_17 : iv 0 900 py2_17) (tfy20 : ∀ j, iv 0 10 (fy20 j)) (hL9 : LW D9 fy3 fy9 py2_14 py2_15 py2_16 py2_17) (hK9 : KN D9 fy20) : Ct l V yX9_by (.code yX9_by cX9_by 3 (some .int)) 6 [.ref (y 0), .int a1, .int a2] [(y 0, .inr (9, o9_rirrrrrrrrvviii (y 1) py0_1 (y 2) (y 10) (y 19) (y 25) (y 26) (y 30) (y 31) (y 32) o10 o11 py0_12 py0_13 py0_14)), (y 2, .inr (1, o1_iiiiiirrrrrrriiiii py2_0 py2_1 py2_2 py2_3 py2_4 py2_5 (y 3) (y 4) (y 5) (y 6) (y 7) (y 8) (y 9) py2_13 py2_14 py2_15 py2_16 py2_17)), (y 3, aI V 4 fy3), (y 9, aI V 900 fy9), (y 19, .inr (4, o4_rrrrrr (y 2) (y 20) (y 21) (y 22) (y 23) (y 24))), (y 20, aI V 2000 fy20), (y 21, aI V 6 fy21), (y 22, aI V 64 fy22)] 0 0 (QI V (fun (r : Int32) (w : va_W) => ∃ (g0 : Nat → Int32) (g1 : Nat → Int32) (g2 : Nat → Int32), (∀ j, iv 0 10 (g0 j)) ∧ iv (-5) 4 r ∧ r = (F_k_X9_by_0 D9 a1 a2 py0_12 py0_13 py2_1) ∧ KN D9 g0 ∧ w = [(y 0, .inr (9, o9_rirrrrrrrrvviii (y 1) py0_1 (y 2) (y 10) (y 19) (y 25) (y 26) (y 30) (y 31) (y 32) o10 o11 py0_12 py0_13 py0_14)), (y 2, .inr (1, o1_iiiiiirrrrrrriiiii py2_0 py2_1 py2_2 py2_3 py2_4 py2_5 (y 3) (y 4) (y 5) (y 6) (y 7) (y 8) (y 9) py2_13 py2_14 py2_15 py2_16 py2_17)), (y 3, aI V 4 fy3), (y 9, aI V 900 fy9), (y 19, .inr (4, o4_rrrrrr (y 2) (y 20) (y 21) (y 22) (y 23) (y 24))), (y 20, aI V 2000 g0), (y 21, aI V 6 g1), (y 22, aI V 64 g2)])) := by
  refine Ct.of (by decide) (Nat.le_of_ble_eq_true rfl) (fun p e s m below meth c A ls hx hb hr hml hown hlk hnm hg hP hK hD hE hA hS hl => ?_)
  have hl : lv_has ls 3 [(0, .ref (y 0)), (1, .int a1), (2, .int a2)] := hl
  obtain ⟨T0, hT0⟩ : ∃ T9, T9 = F_k_X9_by_0 D9 a1 a2 py0_12 py0_13 py2_1 := ⟨_, rfl⟩
  have hR := hT0.trans (F_k_X9_by_0.eq_1 ..)
  refine lv_aload_n hx hb dX9_by_0 rfl (lv_at hl 0 rfl) ?_
  refine lv_iload_n hx hb dX9_by_1 rfl (lv_at hl 2 rfl) ?_
  refine jnI (wr := [(y 3, aI V 4 fy3), (y 9, aI V 900 fy9), (y 19, .inr (4, o4_rrrrrr (y 2) (y 20) (y 21) (y 22) (y 23) (y 24))), (y 20, aI V 2000 fy20), (y 21, aI V 6 fy21), (y 22, aI V 64 fy22)]) (rnV (rest := []) ⟨hx, hb, hml, hown, hg⟩ (k_X9_isHill_0 l V y a2 py0_1 o10 o11 py0_12 py0_13 py0_14 py2_0 py2_1 py2_2 py2_3 py2_4 py2_5 py2_13 py2_14 py2_15 py2_16 py2_17 bpy0_1 bpy0_12 bpy0_13 bpy2_1 bpy2_2 bpy2_3 bpy2_4 bpy2_5 bpy2_13 bpy2_14 bpy2_15 bpy2_16 bpy2_17) mt_X9_isHill q_3_122 ⟨Nat.le_of_ble_eq_true rfl, Nat.le_of_ble_eq_true rfl⟩ hK hP hD hS hA hE [0, 1] rfl rfl 0 rfl rfl rfl rfl hl.1 rfl (Nat.le_of_ble_eq_true rfl) dX9_by_2 ⟨Nat.le_of_ble_eq_true rfl, Nat.le_of_ble_eq_true rfl⟩) hP hD hS hA [0, 1] [2, 3, 4, 5, 6, 7] rfl rfl rfl (by decide) (fun r_1 w H locs hw hP hD hS => ?_)
  rcases hw with ⟨c_2, rfl, et_3, rfl⟩ | ⟨c_4, c_5, rfl, et_6, rfl⟩ | ⟨c_7, c_8, rfl, et_9, rfl⟩
  · have hP : va_P V.1 vwCl [(y 3, aI V 4 fy3), (y 9, aI V 900 fy9), (y 19, .inr (4, o4_rrrrrr (y 2) (y 20) (y 21) (y 22) (y 23) (y 24))), (y 20, aI V 2000 fy20), (y 21, aI V 6 fy21), (y 22, aI V 64 fy22), (y 0, .inr (9, o9_rirrrrrrrrvviii (y 1) py0_1 (y 2) (y 10) (y 19) (y 25) (y 26) (y 30) (y 31) (y 32) o10 o11 py0_12 py0_13 py0_14)), (y 2, .inr (1, o1_iiiiiirrrrrrriiiii py2_0 py2_1 py2_2 py2_3 py2_4 py2_5 (y 3) (y 4) (y 5) (y 6) (y 7) (y 8) (y 9) py2_13 py2_14 py2_15 py2_16 py2_17))] H := hP
    have hD := cpD hP hD
    replace hR := ti hR et_3.symm
    have b_10 : iv (-2147483648) (-1) a2 := iv_l1 c_2 (iv_top a2) (iv_c (0 : Int32) (a := 0) (b := 0) (by decide)) (by decide)
    refine lv_if_ne (tgt := 11) hx hb dX9_by_5 (by decide) (fun c_12 => absurd c_12 (by decide)) (fun _ => ?_)
    refine lv_bipush (v := (-2)) hx hb dX9_by_8 (by decide) ?_
    have hP := subP (ws' := [(y 0, .inr (9, o9_rirrrrrrrrvviii (y 1) py0_1 (y 2) (y 10) (y 19) (y 25) (y 26) (y 30) (y 31) (y 32) o10 o11 py0_12 py0_13 py0_14)), (y 2, .inr (1, o1_iiiiiirrrrrrriiiii py2_0 py2_1 py2_2 py2_3 py2_4 py2_5 (y 3) (y 4) (y 5) (y 6) (y 7) (y 8) (y 9) py2_13 py2_14 py2_15 py2_16 py2_17)), (y 3, aI V 4 fy3), (y 9, aI V 900 fy9), (y 19, .inr (4, o4_rrrrrr (y 2) (y 20) (y 21) (y 22) (y 23) (y 24))), (y 20, aI V 2000 fy20), (y 21, aI V 6 fy21), (y 22, aI V 64 fy22)]) hP [6, 7, 0, 1, 2, 3, 4, 5] rfl
    have hD := subD hP hD [6, 7, 0, 1, 2, 3, 4, 5] rfl rfl
    exact fiI hx hb hr hlk hK hP hD hS dX9_by_10 (Nat.le_of_ble_eq_true rfl) (Nat.le_of_ble_eq_true rfl) (⟨fy20, fy21, fy22, tfy20, (iv_c ((-2) : Int32) (by decide)), (hR.symm.trans hT0), hK9, rfl⟩)
  · have hP : va_P V.1 vwCl [(y 3, aI V 4 fy3), (y 9, aI V 900 fy9), (y 19, .inr (4, o4_rrrrrr (y 2) (y 20) (y 21) (y 22) (y 23) (y 24))), (y 20, aI V 2000 fy20), (y 21, aI V 6 fy21), (y 22, aI V 64 fy22), (y 0, .inr (9, o9_rirrrrrrrrvviii (y 1) py0_1 (y 2) (y 10) (y 19) (y 25) (y 26) (y 30) (y 31) (y 32) o10 o11 py0_12 py0_13 py0_14)), (y 2, .inr (1, o1_iiiiiirrrrrrriiiii py2_0 py2_1 py2_2 py2_3 py2_4 py2_5 (y 3) (y 4) (y 5) (y 6) (y 7) (y 8) (y 9) py2_13 py2_14 py2_15 py2_16 py2_17))] H := hP
    have hD := cpD hP hD
    replace hR := te hR (by rw [← et_6]; decide)
    replace hR := ti hR et_6.symm
    have b_13 : iv 0 2147483647 a2 := iv_e2 (Int32.not_lt.mp c_4) (iv_c (0 : Int32) (a := 0) (b := 0) (by decide)) (iv_top a2) (by decide)
    refine lv_if_ne (tgt := 11) hx hb dX9_by_5 (by decide) (fun c_15 => absurd c_15 (by decide)) (fun _ => ?_)
    refine lv_bipush (v := (-2)) hx hb dX9_by_8 (by decide) ?_
    have hP := subP (ws' := [(y 0, .inr (9, o9_rirrrrrrrrvviii (y 1) py0_1 (y 2) (y 10) (y 19) (y 25) (y 26) (y 30) (y 31) (y 32) o10 o11 py0_12 py0_13 py0_14)), (y 2, .inr (1, o1_iiiiiirrrrrrriiiii py2_0 py2_1 py2_2 py2_3 py2_4 py2_5 (y 3) (y 4) (y 5) (y 6) (y 7) (y 8) (y 9) py2_13 py2_14 py2_15 py2_16 py2_17)), (y 3, aI V 4 fy3), (y 9, aI V 900 fy9), (y 19, .inr (4, o4_rrrrrr (y 2) (y 20) (y 21) (y 22) (y 23) (y 24))), (y 20, aI V 2000 fy20), (y 21, aI V 6 fy21), (y 22, aI V 64 fy22)]) hP [6, 7, 0, 1, 2, 3, 4, 5] rfl
    have hD := subD hP hD [6, 7, 0, 1, 2, 3, 4, 5] rfl rfl
    exact fiI hx hb hr hlk hK hP hD hS dX9_by_10 (Nat.le_of_ble_eq_true rfl) (Nat.le_of_ble_eq_true rfl) (⟨fy20, fy21, fy22, tfy20, (iv_c ((-2) : Int32) (by decide)), (hR.symm.trans hT0), hK9, rfl⟩)
  · have hP : va_P V.1 vwCl [(y 3, aI V 4 fy3), (y 9, aI V 900 fy9), (y 19, .inr (4, o4_rrrrrr (y 2) (y 20) (y 21) (y 22) (y 23) (y 24))), (y 20, aI V 2000 fy20), (y 21, aI V 6 fy21), (y 22, aI V 64 fy22), (y 0, .inr (9, o9_rirrrrrrrrvviii (y 1) py0_1 (y 2) (y 10) (y 19) (y 25) (y 26) (y 30) (y 31) (y 32) o10 o11 py0_12 py0_13 py0_14)), (y 2, .inr (1, o1_iiiiiirrrrrrriiiii py2_0 py2_1 py2_2 py2_3 py2_4 py2_5 (y 3) (y 4) (y 5) (y 6) (y 7) (y 8) (y 9) py2_13 py2_14 py2_15 py2_16 py2_17))] H := hP
    have hD := cpD hP hD
    replace hR := te hR (by rw [← et_9]; decide)
    replace hR := te hR (by rw [← et_9]; decide)
    have b_16 : iv 0 2147483647 a2 := iv_e2 (Int32.not_lt.mp c_7) (iv_c (0 : Int32) (a := 0) (b := 0) (by decide)) (iv_top a2) (by decide)
    have b_17 : iv 0 3 a2 := iv_l1 (Int32.not_le.mp c_8) b_16 bpy2_1 (by decide)
    have b_18 : iv 1 4 py2_1 := iv_l2 (Int32.not_le.mp c_8) b_16 bpy2_1 (by decide)
    refine lv_if_ne (tgt := 11) hx hb dX9_by_5 (by decide) (fun _ => ?_) (fun c_20 => absurd c_20 (by decide))
    refine lv_aload_n hx hb dX9_by_11 rfl (lv_at hl 0 rfl) ?_
    refine lv_iload_n hx hb dX9_by_12 rfl (lv_at hl 1 rfl) ?_
    refine lv_i2l hx hb dX9_by_13 rfl ?_
    refine lv_topl (fun j_21 ej_21 => ?_)
    replace hR := tb hR ej_21
    refine jnI (wr := [(y 3, aI V 4 fy3), (y 9, aI V 900 fy9), (y 19, .inr (4, o4_rrrrrr (y 2) (y 20) (y 21) (y 22) (y 23) (y 24))), (y 20, aI V 2000 fy20), (y 21, aI V 6 fy21), (y 22, aI V 64 fy22)]) (rnV (rest := []) ⟨hx, hb, hml, hown, hg⟩ (k_X9_isNight_0 l V y j_21 py0_1 o10 o11 py0_12 py0_13 py0_14 py2_0 py2_1 py2_2 py2_3 py2_4 py2_5 py2_13 py2_14 py2_15 py2_16 py2_17 bpy0_1 bpy0_12 bpy0_13 (iv_w b_18 (by decide)) bpy2_2 bpy2_3 bpy2_4 bpy2_5 bpy2_13 bpy2_14 bpy2_15 bpy2_16 bpy2_17) mt_X9_isNight q_3_141 ⟨Nat.le_of_ble_eq_true rfl, Nat.le_of_ble_eq_true rfl⟩ hK hP hD hS hA hE [6, 7] rfl rfl 6 rfl rfl rfl rfl hl.1 rfl (Nat.le_of_ble_eq_true rfl) dX9_by_14 ⟨Nat.le_of_ble_eq_true rfl, Nat.le_of_ble_eq_true rfl⟩) hP hD hS hA [6, 7] [0, 1, 2, 3, 4, 5] rfl rfl rfl (by decide) (fun r_22 w H locs hw hP hD hS => ?_)
    obtain ⟨br_22, et_23, rfl⟩ := hw
    replace hR := tb hR et_23
    have hP : va_P V.1 vwCl [(y 3, aI V 4 fy3), (y 9, aI V 900 fy9), (y 19, .inr (4, o4_rrrrrr (y 2) (y 20) (y 21) (y 22) (y 23) (y 24))), (y 20, aI V 2000 fy20), (y 21, aI V 6 fy21), (y 22, aI V 64 fy22), (y 0, .inr (9, o9_rirrrrrrrrvviii (y 1) py0_1 (y 2) (y 10) (y 19) (y 25) (y 26) (y 30) (y 31) (y 32) o10 o11 py0_12 py0_13 py0_14)), (y 2, .inr (1, o1_iiiiiirrrrrrriiiii py2_0 py2_1 py2_2 py2_3 py2_4 py2_5 (y 3) (y 4) (y 5) (y 6) (y 7) (y 8) (y 9) py2_13 py2_14 py2_15 py2_16 py2_17))] H := hP
    have hD := cpD hP hD
    refine lv_if_eq (tgt := 43) hx hb dX9_by_17 (by decide) (fun c_25 => ?_) (fun c_25 => ?_)
    · replace hR := ti hR c_25
      have b_26 : iv 0 0 r_22 := iv_q c_25 (iv_c (0 : Int32) (a := 0) (b := 0) (by decide))
      refine lv_bipush (v := (-5)) hx hb dX9_by_43 (by decide) ?_
      have hP := subP (ws' := [(y 0, .inr (9, o9_rirrrrrrrrvviii (y 1) py0_1 (y 2) (y 10) (y 19) (y 25) (y 26) (y 30) (y 31) (y 32) o10 o11 py0_12 py0_13 py0_14)), (y 2, .inr (1, o1_iiiiiirrrrrrriiiii py2_0 py2_1 py2_2 py2_3 py2_4 py2_5 (y 3) (y 4) (y 5) (y 6) (y 7) (y 8) (y 9) py2_13 py2_14 py2_15 py2_16 py2_17)), (y 3, aI V 4 fy3), (y 9, aI V 900 fy9), (y 19, .inr (4, o4_rrrrrr (y 2) (y 20) (y 21) (y 22) (y 23) (y 24))), (y 20, aI V 2000 fy20), (y 21, aI V 6 fy21), (y 22, aI V 64 fy22)]) hP [6, 7, 0, 1, 2, 3, 4, 5] rfl
      have hD := subD hP hD [6, 7, 0, 1, 2, 3, 4, 5] rfl rfl
      exact fiI hx hb hr hlk hK hP hD hS dX9_by_45 (Nat.le_of_ble_eq_true rfl) (Nat.le_of_ble_eq_true rfl) (⟨fy20, fy21, fy22, tfy20, (iv_c ((-5) : Int32) (by decide)), (hR.symm.trans hT0), hK9, rfl⟩)
    · replace hR := te hR c_25
      have b_27 : iv 1 1 r_22 := iv_n0 c_25 br_22 (iv_c (0 : Int32) (a := 0) (b := 0) (by decide)) (by decide)
      refine lv_aload_n hx hb dX9_by_20 rfl (lv_at hl 0 rfl) ?_
      refine va_get (ci := 9) (v := .ref (y 19)) (C := RX9) (T := TX9) (N := 15) hx hb hg inX9 hown hK hP 6 rfl rfl 4 (by decide) (hg _ q_2_40) (fun _ h9 => h9) rfl dX9_by_21 ?_
      refine lv_aload_n hx hb dX9_by_24 rfl (lv_at hl 0 rfl) ?_
      refine va_get (ci := 9) (v := .int py0_12) (C := RX9) (T := TX9) (N := 15) hx hb hg inX9 hown hK hP 6 rfl rfl 12 (by decide) (hg _ q_2_48) (fun _ h9 => h9) rfl dX9_by_25 ?_
      refine lv_aload_n hx hb dX9_by_28 rfl (lv_at hl 0 rfl) ?_
      refine va_get (ci := 9) (v := .int py0_13) (C := RX9) (T := TX9) (N := 15) hx hb hg inX9 hown hK hP 6 rfl rfl 13 (by decide) (hg _ q_2_49) (fun _ h9 => h9) rfl dX9_by_29 ?_
      refine lv_iload_n hx hb dX9_by_32 rfl (lv_at hl 1 rfl) ?_
      refine jnI (wr := [(y 0, .inr (9, o9_rirrrrrrrrvviii (y 1) py0_1 (y 2) (y 10) (y 19) (y 25) (y 26) (y 30) (y 31) (y 32) o10 o11 py0_12 py0_13 py0_14))]) (rnV (rest := []) ⟨hx, hb, hml, hown, hg⟩ (k_X4_behind_0 l V y py0_12 py0_13 a1 fy3 fy9 fy20 fy21 fy22 py2_0 py2_1 py2_2 py2_3 py2_4 py2_5 py2_13 py2_14 py2_15 py2_16 py2_17 bpy0_12 bpy0_13 tfy20 (iv_w b_18 (by decide)) bpy2_2 bpy2_3 bpy2_4 bpy2_5 bpy2_13 bpy2_14 bpy2_15 bpy2_16 bpy2_17) mt_X4_behind q_3_145 ⟨Nat.le_of_ble_eq_true rfl, Nat.le_of_ble_eq_true rfl⟩ hK hP hD hS hA hE [0, 1, 2, 3, 4, 5, 7] rfl rfl 2 rfl rfl rfl rfl hl.1 rfl (Nat.le_of_ble_eq_true rfl) dX9_by_33 ⟨Nat.le_of_ble_eq_true rfl, Nat.le_of_ble_eq_true rfl⟩) hP hD hS hA [0, 1, 2, 3, 4, 5, 7] [6] rfl rfl rfl (by decide) (fun r_28 w H locs hw hP hD hS => ?_)
      obtain ⟨f_29, f_30, f_31, tf_29, br_28, g_32, rfl⟩ := hw
      have qkn_33 := g_32 D9 hL9 hK9
      have er_28 : r_28 = bhS D9 py0_12 py0_13 a1 (py2_1 : Int32).toNatClampNeg := qkn_33.1
      have kn_33 := qkn_33.2
      replace hR := tb hR er_28
      have hP : va_P V.1 vwCl [(y 0, .inr (9, o9_rirrrrrrrrvviii (y 1) py0_1 (y 2) (y 10) (y 19) (y 25) (y 26) (y 30) (y 31) (y 32) o10 o11 py0_12 py0_13 py0_14)), (y 3, aI V 4 fy3), (y 9, aI V 900 fy9), (y 19, .inr (4, o4_rrrrrr (y 2) (y 20) (y 21) (y 22) (y 23) (y 24))), (y 20, aI V 2000 f_29), (y 21, aI V 6 f_30), (y 22, aI V 64 f_31), (y 2, .inr (1, o1_iiiiiirrrrrrriiiii py2_0 py2_1 py2_2 py2_3 py2_4 py2_5 (y 3) (y 4) (y 5) (y 6) (y 7) (y 8) (y 9) py2_13 py2_14 py2_15 py2_16 py2_17))] H := hP
      have hD := cpD hP hD
      refine lv_iload_n hx hb dX9_by_36 rfl (lv_at hl 2 rfl) ?_
      refine jnI (wr := [(y 0, .inr (9, o9_rirrrrrrrrvviii (y 1) py0_1 (y 2) (y 10) (y 19) (y 25) (y 26) (y 30) (y 31) (y 32) o10 o11 py0_12 py0_13 py0_14)), (y 3, aI V 4 fy3), (y 9, aI V 900 fy9), (y 19, .inr (4, o4_rrrrrr (y 2) (y 20) (y 21) (y 22) (y 23) (y 24))), (y 20, aI V 2000 f_29), (y 21, aI V 6 f_30), (y 22, aI V 64 f_31), (y 2, .inr (1, o1_iiiiiirrrrrrriiiii py2_0 py2_1 py2_2 py2_3 py2_4 py2_5 (y 3) (y 4) (y 5) (y 6) (y 7) (y 8) (y 9) py2_13 py2_14 py2_15 py2_16 py2_17))]) (rnS (rest := []) ⟨hx, hb, hml, hown, hg⟩ (k_X9_stackIn_0 l V r_28 a2 br_28 (iv_w b_17 (by decide))) mt_X9_stackIn q_3_126 ⟨Nat.le_of_ble_eq_true rfl, Nat.le_of_ble_eq_true rfl⟩ hK hP hD hS hA hE [] rfl rfl rfl hl.1 rfl (Nat.le_of_ble_eq_true rfl) dX9_by_37 ⟨Nat.le_of_ble_eq_true rfl, Nat.le_of_ble_eq_true rfl⟩) hP hD hS hA [] [0, 1, 2, 3, 4, 5, 6, 7] rfl rfl rfl (by decide) (fun r_34 w H locs hw hP hD hS => ?_)
      obtain ⟨br_34, er_34, et_35, rfl⟩ := hw
      replace hR := tb hR et_35
      have hP : va_P V.1 vwCl [(y 0, .inr (9, o9_rirrrrrrrrvviii (y 1) py0_1 (y 2) (y 10) (y 19) (y 25) (y 26) (y 30) (y 31) (y 32) o10 o11 py0_12 py0_13 py0_14)), (y 3, aI V 4 fy3), (y 9, aI V 900 fy9), (y 19, .inr (4, o4_rrrrrr (y 2) (y 20) (y 21) (y 22) (y 23) (y 24))), (y 20, aI V 2000 f_29), (y 21, aI V 6 f_30), (y 22, aI V 64 f_31), (y 2, .inr (1, o1_iiiiiirrrrrrriiiii py2_0 py2_1 py2_2 py2_3 py2_4 py2_5 (y 3) (y 4) (y 5) (y 6) (y 7) (y 8) (y 9) py2_13 py2_14 py2_15 py2_16 py2_17))] H := hP
      have hD := cpD hP hD
      refine lv_goto (tgt := 45) hx hb dX9_by_40 (by decide) ?_
      have hP := subP (ws' := [(y 0, .inr (9, o9_rirrrrrrrrvviii (y 1) py0_1 (y 2) (y 10) (y 19) (y 25) (y 26) (y 30) (y 31) (y 32) o10 o11 py0_12 py0_13 py0_14)), (y 2, .inr (1, o1_iiiiiirrrrrrriiiii py2_0 py2_1 py2_2 py2_3 py2_4 py2_5 (y 3) (y 4) (y 5) (y 6) (y 7) (y 8) (y 9) py2_13 py2_14 py2_15 py2_16 py2_17)), (y 3, aI V 4 fy3), (y 9, aI V 900 fy9), (y 19, .inr (4, o4_rrrrrr (y 2) (y 20) (y 21) (y 22) (y 23) (y 24))), (y 20, aI V 2000 f_29), (y 21, aI V 6 f_30), (y 22, aI V 64 f_31)]) hP [0, 7, 1, 2, 3, 4, 5, 6] rfl
      have hD := subD hP hD [0, 7, 1, 2, 3, 4, 5, 6] rfl rfl
      exact fiI hx hb hr hlk hK hP hD hS dX9_by_45 (Nat.le_of_ble_eq_true rfl) (Nat.le_of_ble_eq_true rfl) (⟨f_29, f_30, f_31, tf_29, (iv_w br_34 (by decide)), (hR.symm.trans hT0), kn_33, rfl⟩)
theorem dX5_forgetEldest_0 : decode cX5_forgetEldest 0 = .ok (.aload_n 0, 1) := by decide +kernel
theorem dX5_forgetEldest_1 : decode cX5_forgetEldest 1 = .ok (.iconst 1, 1) := by decide +kernel
theorem dX5_forgetEldest_2 : decode cX5_forgetEldest 2 = .ok (.aload_n 0, 1) := by decide +kernel
theorem dX5_forgetEldest_3 : decode cX5_forgetEldest 3 = .ok (.iconst 0, 1) := by decide +kernel
theorem dX5_forgetEldest_4 : decode cX5_forgetEldest 4 = .ok (.bipush 9, 2) := by decide +kernel
theorem q_3_184 : Cond.methodLink "BeaconDelay$Past" 29 arraycopyName ∈ gw := gw_3 (i := 184) (by decide +kernel) rfl
theorem q_3_102 : Cond.native arraycopyName ∈ gw := gw_3 (i := 102) (by decide +kernel) rfl
theorem q_3_101 : Cond.static arraycopyName ∈ gw := gw_3 (i := 101) (by decide +kernel) rfl
theorem q_1_16 : Cond.initialized "java/lang/System" ∈ gw := gw_1 (i := 16) (by decide +kernel) rfl
theorem dX5_forgetEldest_6 : decode cX5_forgetEldest 6 = .ok (.invokestatic 29, 3) := by decide +kernel
theorem dX5_forgetEldest_9 : decode cX5_forgetEldest 9 = .ok (.return_, 1) := by decide +kernel
set_option maxRecDepth 100000 in
noncomputable def F_k_X5_forgetEldest_0 (fy27 : Nat → Int32) : (Nat → Int32) := bnd (va_cpy fy27 fy27 (1 : Int32).toNatClampNeg (0 : Int32).toNatClampNeg (9 : Int32).toNatClampNeg : Nat → Int32) fun (f_1 : Nat → Int32) => (f_1)
set_option maxHeartbeats 4000000 in
set_option maxRecDepth 100000 in
theorem k_X5_forgetEldest_0 (l : Launch) (V : GV) (y : Nat → Nat) (fy27 : Nat → Int32) (tfy27 : ∀ j, iv 0 9999 (fy27 j)) : Ct l V yX5_forgetEldest (.code yX5_forgetEldest cX5_forgetEldest 1 none) 3 [.ref (y 27)] [(y 27, aI V 10 fy27)] 0 0 (QV V (fun (w : va_W) => ∃ (g0 : Nat → Int32), (∀ j, iv 0 9999 (g0 j)) ∧ g0 = (F_k_X5_forgetEldest_0 fy27) ∧ w = [(y 27, aI V 10 g0)])) := by
  refine Ct.of (by decide) (Nat.le_of_ble_eq_true rfl) (fun p e s m below meth c A ls hx hb hr hml hown hlk hnm hg hP hK hD hE hA hS hl => ?_)
  have hl : lv_has ls 1 [(0, .ref (y 27))] := hl
  obtain ⟨T0, hT0⟩ : ∃ T9, T9 = F_k_X5_forgetEldest_0 fy27 := ⟨_, rfl⟩
  have hR := hT0.trans (F_k_X5_forgetEldest_0.eq_1 ..)
  refine lv_aload_n hx hb dX5_forgetEldest_0 rfl (lv_at hl 0 rfl) ?_
  refine lv_iconst (v := 1) hx hb dX5_forgetEldest_1 (by decide) ?_
  refine lv_aload_n hx hb dX5_forgetEldest_2 rfl (lv_at hl 0 rfl) ?_
  refine lv_iconst (v := 0) hx hb dX5_forgetEldest_3 (by decide) ?_
  refine lv_bipush (v := 9) hx hb dX5_forgetEldest_4 (by decide) ?_
  refine va_copyi hx hb (hml.trans hl.1.symm) hown (hg _ q_3_184) (hg _ q_3_102) (hg _ q_3_101) (hg _ q_1_16) hK hP hD hS 0 0 0 0 rfl rfl rfl rfl rfl (by decide) (by decide) (by decide) (by decide) (by decide) (fun _ _ => rfl) (Nat.le_of_ble_eq_true rfl) (by decide +kernel) dX5_forgetEldest_6 (fun H locs hP hD hS => ?_)
  obtain ⟨f_1, ef_1, tf_1, hP, hD⟩ : ∃ f_1 : Nat → Int32, f_1 = va_cpy fy27 fy27 (1 : Int32).toNatClampNeg (0 : Int32).toNatClampNeg (9 : Int32).toNatClampNeg ∧ (∀ j, iv 0 9999 (f_1 j)) ∧ va_P V.1 vwCl [(y 27, aI V 10 f_1)] H ∧ va_D A [(y 27, aI V 10 f_1)] := ⟨_, rfl, ivCpy tfy27 tfy27 _ _ _, hP, hD⟩
  replace hR := tb hR ef_1
  exact fiV hx hb hr hlk hK hP hD hS dX5_forgetEldest_9 (Nat.le_of_ble_eq_true rfl) (Nat.le_of_ble_eq_true rfl) (⟨f_1, tf_1, (hR.symm.trans hT0), rfl⟩)
set_option maxRecDepth 100000 in
noncomputable def F_k_X5_forgetEldest_1 (fy28 : Nat → Int32) : (Nat → Int32) := bnd (va_cpy fy28 fy28 (1 : Int32).toNatClampNeg (0 : Int32).toNatClampNeg (9 : Int32).toNatClampNeg : Nat → Int32) fun (f_1 : Nat → Int32) => (f_1)
set_option maxHeartbeats 4000000 in
set_option maxRecDepth 100000 in
theorem k_X5_forgetEldest_1 (l : Launch) (V : GV) (y : Nat → Nat) (fy28 : Nat → Int32) (tfy28 : ∀ j, iv 0 9 (fy28 j)) : Ct l V yX5_forgetEldest (.code yX5_forgetEldest cX5_forgetEldest 1 none) 3 [.ref (y 28)] [(y 28, aI V 10 fy28)] 0 0 (QV V (fun (w : va_W) => ∃ (g0 : Nat → Int32), (∀ j, iv 0 9 (g0 j)) ∧ g0 = (F_k_X5_forgetEldest_1 fy28) ∧ w = [(y 28, aI V 10 g0)])) := by
  refine Ct.of (by decide) (Nat.le_of_ble_eq_true rfl) (fun p e s m below meth c A ls hx hb hr hml hown hlk hnm hg hP hK hD hE hA hS hl => ?_)
  have hl : lv_has ls 1 [(0, .ref (y 28))] := hl
  obtain ⟨T0, hT0⟩ : ∃ T9, T9 = F_k_X5_forgetEldest_1 fy28 := ⟨_, rfl⟩
  have hR := hT0.trans (F_k_X5_forgetEldest_1.eq_1 ..)
  refine lv_aload_n hx hb dX5_forgetEldest_0 rfl (lv_at hl 0 rfl) ?_
  refine lv_iconst (v := 1) hx hb dX5_forgetEldest_1 (by decide) ?_
  refine lv_aload_n hx hb dX5_forgetEldest_2 rfl (lv_at hl 0 rfl) ?_
  refine lv_iconst (v := 0) hx hb dX5_forgetEldest_3 (by decide) ?_
  refine lv_bipush (v := 9) hx hb dX5_forgetEldest_4 (by decide) ?_
  refine va_copyi hx hb (hml.trans hl.1.symm) hown (hg _ q_3_184) (hg _ q_3_102) (hg _ q_3_101) (hg _ q_1_16) hK hP hD hS 0 0 0 0 rfl rfl rfl rfl rfl (by decide) (by decide) (by decide) (by decide) (by decide) (fun _ _ => rfl) (Nat.le_of_ble_eq_true rfl) (by decide +kernel) dX5_forgetEldest_6 (fun H locs hP hD hS => ?_)
  obtain ⟨f_1, ef_1, tf_1, hP, hD⟩ : ∃ f_1 : Nat → Int32, f_1 = va_cpy fy28 fy28 (1 : Int32).toNatClampNeg (0 : Int32).toNatClampNeg (9 : Int32).toNatClampNeg ∧ (∀ j, iv 0 9 (f_1 j)) ∧ va_P V.1 vwCl [(y 28, aI V 10 f_1)] H ∧ va_D A [(y 28, aI V 10 f_1)] := ⟨_, rfl, ivCpy tfy28 tfy28 _ _ _, hP, hD⟩
  replace hR := tb hR ef_1
  exact fiV hx hb hr hlk hK hP hD hS dX5_forgetEldest_9 (Nat.le_of_ble_eq_true rfl) (Nat.le_of_ble_eq_true rfl) (⟨f_1, tf_1, (hR.symm.trans hT0), rfl⟩)
set_option maxRecDepth 100000 in
noncomputable def F_k_X5_forgetEldest_2 (fy29 : Nat → Int32) : (Nat → Int32) := bnd (va_cpy fy29 fy29 (1 : Int32).toNatClampNeg (0 : Int32).toNatClampNeg (9 : Int32).toNatClampNeg : Nat → Int32) fun (f_1 : Nat → Int32) => (f_1)
set_option maxHeartbeats 4000000 in
set_option maxRecDepth 100000 in
theorem k_X5_forgetEldest_2 (l : Launch) (V : GV) (y : Nat → Nat) (fy29 : Nat → Int32) : Ct l V yX5_forgetEldest (.code yX5_forgetEldest cX5_forgetEldest 1 none) 3 [.ref (y 29)] [(y 29, aI V 10 fy29)] 0 0 (QV V (fun (w : va_W) => ∃ (g0 : Nat → Int32), g0 = (F_k_X5_forgetEldest_2 fy29) ∧ w = [(y 29, aI V 10 g0)])) := by
  refine Ct.of (by decide) (Nat.le_of_ble_eq_true rfl) (fun p e s m below meth c A ls hx hb hr hml hown hlk hnm hg hP hK hD hE hA hS hl => ?_)
  have hl : lv_has ls 1 [(0, .ref (y 29))] := hl
  obtain ⟨T0, hT0⟩ : ∃ T9, T9 = F_k_X5_forgetEldest_2 fy29 := ⟨_, rfl⟩
  have hR := hT0.trans (F_k_X5_forgetEldest_2.eq_1 ..)
  refine lv_aload_n hx hb dX5_forgetEldest_0 rfl (lv_at hl 0 rfl) ?_
  refine lv_iconst (v := 1) hx hb dX5_forgetEldest_1 (by decide) ?_
  refine lv_aload_n hx hb dX5_forgetEldest_2 rfl (lv_at hl 0 rfl) ?_
  refine lv_iconst (v := 0) hx hb dX5_forgetEldest_3 (by decide) ?_
  refine lv_bipush (v := 9) hx hb dX5_forgetEldest_4 (by decide) ?_
  refine va_copyi hx hb (hml.trans hl.1.symm) hown (hg _ q_3_184) (hg _ q_3_102) (hg _ q_3_101) (hg _ q_1_16) hK hP hD hS 0 0 0 0 rfl rfl rfl rfl rfl (by decide) (by decide) (by decide) (by decide) (by decide) (fun _ _ => rfl) (Nat.le_of_ble_eq_true rfl) (by decide +kernel) dX5_forgetEldest_6 (fun H locs hP hD hS => ?_)
  obtain ⟨f_1, ef_1, hP, hD⟩ : ∃ f_1 : Nat → Int32, f_1 = va_cpy fy29 fy29 (1 : Int32).toNatClampNeg (0 : Int32).toNatClampNeg (9 : Int32).toNatClampNeg ∧ va_P V.1 vwCl [(y 29, aI V 10 f_1)] H ∧ va_D A [(y 29, aI V 10 f_1)] := ⟨_, rfl, hP, hD⟩
  replace hR := tb hR ef_1
  exact fiV hx hb hr hlk hK hP hD hS dX5_forgetEldest_9 (Nat.le_of_ble_eq_true rfl) (Nat.le_of_ble_eq_true rfl) (⟨f_1, (hR.symm.trans hT0), rfl⟩)
theorem dX5_keep_0 : decode cX5_keep 0 = .ok (.aload_n 0, 1) := by decide +kernel
theorem q_1_217 : Cond.fieldLink "BeaconDelay$Past" 21 "BeaconDelay$Past" "count" "I" ∈ gw := gw_1 (i := 217) (by decide +kernel) rfl
theorem dX5_keep_1 : decode cX5_keep 1 = .ok (.getfield 21, 3) := by decide +kernel
theorem dX5_keep_4 : decode cX5_keep 4 = .ok (.bipush 10, 2) := by decide +kernel
theorem dX5_keep_6 : decode cX5_keep 6 = .ok (.if_icmp .ne 34, 3) := by decide +kernel
theorem dX5_keep_40 : decode cX5_keep 40 = .ok (.aload_n 0, 1) := by decide +kernel
theorem q_1_211 : Cond.fieldLink "BeaconDelay$Past" 9 "BeaconDelay$Past" "standing" "[I" ∈ gw := gw_1 (i := 211) (by decide +kernel) rfl
theorem dX5_keep_41 : decode cX5_keep 41 = .ok (.getfield 9, 3) := by decide +kernel
theorem dX5_keep_44 : decode cX5_keep 44 = .ok (.aload_n 0, 1) := by decide +kernel
theorem dX5_keep_45 : decode cX5_keep 45 = .ok (.getfield 21, 3) := by decide +kernel
theorem dX5_keep_48 : decode cX5_keep 48 = .ok (.iload_n 1, 1) := by decide +kernel
theorem dX5_keep_49 : decode cX5_keep 49 = .ok (.iastore, 1) := by decide +kernel
theorem dX5_keep_50 : decode cX5_keep 50 = .ok (.aload_n 0, 1) := by decide +kernel
theorem q_1_213 : Cond.fieldLink "BeaconDelay$Past" 15 "BeaconDelay$Past" "weather" "[I" ∈ gw := gw_1 (i := 213) (by decide +kernel) rfl
theorem dX5_keep_51 : decode cX5_keep 51 = .ok (.getfield 15, 3) := by decide +kernel
theorem dX5_keep_54 : decode cX5_keep 54 = .ok (.aload_n 0, 1) := by decide +kernel
theorem dX5_keep_55 : decode cX5_keep 55 = .ok (.getfield 21, 3) := by decide +kernel
theorem dX5_keep_58 : decode cX5_keep 58 = .ok (.iload_n 2, 1) := by decide +kernel
theorem dX5_keep_59 : decode cX5_keep 59 = .ok (.iastore, 1) := by decide +kernel
theorem dX5_keep_60 : decode cX5_keep 60 = .ok (.aload_n 0, 1) := by decide +kernel
theorem q_1_215 : Cond.fieldLink "BeaconDelay$Past" 18 "BeaconDelay$Past" "nights" "[I" ∈ gw := gw_1 (i := 215) (by decide +kernel) rfl
theorem dX5_keep_61 : decode cX5_keep 61 = .ok (.getfield 18, 3) := by decide +kernel
theorem dX5_keep_64 : decode cX5_keep 64 = .ok (.aload_n 0, 1) := by decide +kernel
theorem dX5_keep_65 : decode cX5_keep 65 = .ok (.getfield 21, 3) := by decide +kernel
theorem dX5_keep_68 : decode cX5_keep 68 = .ok (.iload_n 3, 1) := by decide +kernel
theorem dX5_keep_69 : decode cX5_keep 69 = .ok (.iastore, 1) := by decide +kernel
theorem dX5_keep_70 : decode cX5_keep 70 = .ok (.aload_n 0, 1) := by decide +kernel
theorem dX5_keep_71 : decode cX5_keep 71 = .ok (.dup, 1) := by decide +kernel
theorem dX5_keep_72 : decode cX5_keep 72 = .ok (.getfield 21, 3) := by decide +kernel
theorem dX5_keep_75 : decode cX5_keep 75 = .ok (.iconst 1, 1) := by decide +kernel
theorem dX5_keep_76 : decode cX5_keep 76 = .ok (.iadd, 1) := by decide +kernel
theorem dX5_keep_77 : decode cX5_keep 77 = .ok (.putfield 21, 3) := by decide +kernel
theorem dX5_keep_80 : decode cX5_keep 80 = .ok (.return_, 1) := by decide +kernel
theorem dX5_keep_9 : decode cX5_keep 9 = .ok (.aload_n 0, 1) := by decide +kernel
theorem dX5_keep_10 : decode cX5_keep 10 = .ok (.getfield 9, 3) := by decide +kernel
theorem q_3_183 : Cond.code yX5_forgetEldest prog_7_method_3_code 1 none ∈ gw := gw_3 (i := 183) (rfl) rfl
theorem q_1_6 : Cond.initialized "BeaconDelay$Past" ∈ gw := gw_1 (i := 6) (by decide +kernel) rfl
theorem q_3_182 : Cond.static yX5_forgetEldest ∈ gw := gw_3 (i := 182) (by decide +kernel) rfl
theorem mt_X5_forgetEldest : MtS yX5_forgetEldest cX5_forgetEldest 1 none 1 := ⟨⟨q_3_183, q_1_6, by decide +kernel, by decide +kernel, by decide +kernel⟩, q_3_182⟩
theorem q_3_181 : Cond.methodLink "BeaconDelay$Past" 25 yX5_forgetEldest ∈ gw := gw_3 (i := 181) (by decide +kernel) rfl
theorem dX5_keep_13 : decode cX5_keep 13 = .ok (.invokestatic 25, 3) := by decide +kernel
theorem dX5_keep_16 : decode cX5_keep 16 = .ok (.aload_n 0, 1) := by decide +kernel
theorem dX5_keep_17 : decode cX5_keep 17 = .ok (.getfield 15, 3) := by decide +kernel
theorem dX5_keep_20 : decode cX5_keep 20 = .ok (.invokestatic 25, 3) := by decide +kernel
theorem dX5_keep_23 : decode cX5_keep 23 = .ok (.aload_n 0, 1) := by decide +kernel
theorem dX5_keep_24 : decode cX5_keep 24 = .ok (.getfield 18, 3) := by decide +kernel
theorem dX5_keep_27 : decode cX5_keep 27 = .ok (.invokestatic 25, 3) := by decide +kernel
theorem dX5_keep_30 : decode cX5_keep 30 = .ok (.aload_n 0, 1) := by decide +kernel
theorem dX5_keep_31 : decode cX5_keep 31 = .ok (.dup, 1) := by decide +kernel
theorem dX5_keep_32 : decode cX5_keep 32 = .ok (.getfield 21, 3) := by decide +kernel
theorem dX5_keep_35 : decode cX5_keep 35 = .ok (.iconst 1, 1) := by decide +kernel
theorem dX5_keep_36 : decode cX5_keep 36 = .ok (.isub, 1) := by decide +kernel
theorem dX5_keep_37 : decode cX5_keep 37 = .ok (.putfield 21, 3) := by decide +kernel
set_option maxRecDepth 100000 in
noncomputable def F_k_X5_keep_0 (a1 : Int32) (a2 : Int32) (a3 : Int32) (py26_3 : Int32) (fy27 : Nat → Int32) (fy28 : Nat → Int32) (fy29 : Nat → Int32) : Int32 × (Nat → Int32) × (Nat → Int32) × (Nat → Int32) := if py26_3 = (10 : Int32) then (bnd (F_k_X5_forgetEldest_0 fy27 : Nat → Int32) fun (f_8 : Nat → Int32) => bnd (F_k_X5_forgetEldest_1 fy28 : Nat → Int32) fun (f_11 : Nat → Int32) => bnd (F_k_X5_forgetEldest_2 fy29 : Nat → Int32) fun (f_14 : Nat → Int32) => bnd (py26_3 - (1 : Int32) : Int32) fun (x_17 : Int32) => bnd ((upd f_8 (x_17 : Int32).toNatClampNeg a1) : Nat → Int32) fun (f_18 : Nat → Int32) => bnd ((upd f_11 (x_17 : Int32).toNatClampNeg a2) : Nat → Int32) fun (f_19 : Nat → Int32) => bnd ((upd f_14 (x_17 : Int32).toNatClampNeg a3) : Nat → Int32) fun (f_20 : Nat → Int32) => bnd (x_17 + (1 : Int32) : Int32) fun (x_21 : Int32) => (x_21, f_18, f_19, f_20)) else (bnd ((upd fy27 (py26_3 : Int32).toNatClampNeg a1) : Nat → Int32) fun (f_3 : Nat → Int32) => bnd ((upd fy28 (py26_3 : Int32).toNatClampNeg a2) : Nat → Int32) fun (f_4 : Nat → Int32) => bnd ((upd fy29 (py26_3 : Int32).toNatClampNeg a3) : Nat → Int32) fun (f_5 : Nat → Int32) => bnd (py26_3 + (1 : Int32) : Int32) fun (x_6 : Int32) => (x_6, f_3, f_4, f_5))
set_option maxHeartbeats 4000000 in
set_option maxRecDepth 100000 in
theorem k_X5_keep_0 (l : Launch) (V : GV) (y : Nat → Nat) (a1 : Int32) (a2 : Int32) (a3 : Int32) (py26_3 : Int32) (fy27 : Nat → Int32) (fy28 : Nat → Int32) (fy29 : Nat → Int32) (ba1 : iv 0 9999 a1) (ba2 : iv 0 9 a2) (bpy26_3 : iv 0 10 py26_3) (tfy27 : ∀ j, iv 0 9999 (fy27 j)) (tfy28 : ∀ j, iv 0 9 (fy28 j)) : Ct l V yX5_keep (.code yX5_keep cX5_keep 4 none) 4 [.ref (y 26), .int a1, .int a2, .int a3] [(y 26, .inr (5, o5_rrri (y 27) (y 28) (y 29) py26_3)), (y 27, aI V 10 fy27), (y 28, aI V 10 fy28), (y 29, aI V 10 fy29)] 0 0 (QV V (fun (w : va_W) => ∃ (v0 : Int32) (g1 : Nat → Int32) (g2 : Nat → Int32) (g3 : Nat → Int32), iv 0 10 v0 ∧ (∀ j, iv 0 9999 (g1 j)) ∧ (∀ j, iv 0 9 (g2 j)) ∧ v0 = (F_k_X5_keep_0 a1 a2 a3 py26_3 fy27 fy28 fy29).1 ∧ g1 = (F_k_X5_keep_0 a1 a2 a3 py26_3 fy27 fy28 fy29).2.1 ∧ g2 = (F_k_X5_keep_0 a1 a2 a3 py26_3 fy27 fy28 fy29).2.2.1 ∧ g3 = (F_k_X5_keep_0 a1 a2 a3 py26_3 fy27 fy28 fy29).2.2.2 ∧ w = [(y 26, .inr (5, o5_rrri (y 27) (y 28) (y 29) v0)), (y 27, aI V 10 g1), (y 28, aI V 10 g2), (y 29, aI V 10 g3)])) := by
  refine Ct.of (by decide) (Nat.le_of_ble_eq_true rfl) (fun p e s m below meth c A ls hx hb hr hml hown hlk hnm hg hP hK hD hE hA hS hl => ?_)
  have hl : lv_has ls 4 [(0, .ref (y 26)), (1, .int a1), (2, .int a2), (3, .int a3)] := hl
  obtain ⟨T0, hT0⟩ : ∃ T9, T9 = F_k_X5_keep_0 a1 a2 a3 py26_3 fy27 fy28 fy29 := ⟨_, rfl⟩
  have hR := hT0.trans (F_k_X5_keep_0.eq_1 ..)
  refine lv_aload_n hx hb dX5_keep_0 rfl (lv_at hl 0 rfl) ?_
  refine va_get (ci := 5) (v := .int py26_3) (C := RX5) (T := TX5) (N := 4) hx hb hg inX5 hown hK hP 0 rfl rfl 3 (by decide) (hg _ q_1_217) (fun _ h9 => h9) rfl dX5_keep_1 ?_
  refine lv_bipush (v := 10) hx hb dX5_keep_4 (by decide) ?_
  refine lv_icmp_ne (tgt := 40) hx hb dX5_keep_6 (by decide) (fun c_1 => ?_) (fun c_1 => ?_)
  · replace hR := te hR c_1
    have b_2 : iv 0 9 py26_3 := iv_n1 c_1 bpy26_3 (iv_c (10 : Int32) (a := 10) (b := 10) (by decide)) (by decide)
    refine lv_aload_n hx hb dX5_keep_40 rfl (lv_at hl 0 rfl) ?_
    refine va_get (ci := 5) (v := .ref (y 27)) (C := RX5) (T := TX5) (N := 4) hx hb hg inX5 hown hK hP 0 rfl rfl 0 (by decide) (hg _ q_1_211) (fun _ h9 => h9) rfl dX5_keep_41 ?_
    refine lv_aload_n hx hb dX5_keep_44 rfl (lv_at hl 0 rfl) ?_
    refine va_get (ci := 5) (v := .int py26_3) (C := RX5) (T := TX5) (N := 4) hx hb hg inX5 hown hK hP 0 rfl rfl 3 (by decide) (hg _ q_1_217) (fun _ h9 => h9) rfl dX5_keep_45 ?_
    refine lv_iload_n hx hb dX5_keep_48 rfl (lv_at hl 1 rfl) ?_
    refine va_iast hx hb hK hP hD hS 1 0 rfl rfl (iv_in b_2 (by decide)) dX5_keep_49 (fun H locs hP hD hS => ?_)
    obtain ⟨f_3, ef_3, tf_3, hP, hD⟩ : ∃ f_3 : Nat → Int32, f_3 = (upd fy27 (py26_3 : Int32).toNatClampNeg a1) ∧ (∀ j, iv 0 9999 (f_3 j)) ∧ va_P V.1 vwCl [(y 26, .inr (5, o5_rrri (y 27) (y 28) (y 29) py26_3)), (y 27, aI V 10 f_3), (y 28, aI V 10 fy28), (y 29, aI V 10 fy29)] H ∧ va_D A [(y 26, .inr (5, o5_rrri (y 27) (y 28) (y 29) py26_3)), (y 27, aI V 10 f_3), (y 28, aI V 10 fy28), (y 29, aI V 10 fy29)] := ⟨_, rfl, ivU tfy27 _ ba1, hP, hD⟩
    replace hR := tb hR ef_3
    refine lv_aload_n hx hb dX5_keep_50 rfl (lv_at hl 0 rfl) ?_
    refine va_get (ci := 5) (v := .ref (y 28)) (C := RX5) (T := TX5) (N := 4) hx hb hg inX5 hown hK hP 0 rfl rfl 1 (by decide) (hg _ q_1_213) (fun _ h9 => h9) rfl dX5_keep_51 ?_
    refine lv_aload_n hx hb dX5_keep_54 rfl (lv_at hl 0 rfl) ?_
    refine va_get (ci := 5) (v := .int py26_3) (C := RX5) (T := TX5) (N := 4) hx hb hg inX5 hown hK hP 0 rfl rfl 3 (by decide) (hg _ q_1_217) (fun _ h9 => h9) rfl dX5_keep_55 ?_
    refine lv_iload_n hx hb dX5_keep_58 rfl (lv_at hl 2 rfl) ?_
    refine va_iast hx hb hK hP hD hS 2 0 rfl rfl (iv_in b_2 (by decide)) dX5_keep_59 (fun H locs hP hD hS => ?_)
    obtain ⟨f_4, ef_4, tf_4, hP, hD⟩ : ∃ f_4 : Nat → Int32, f_4 = (upd fy28 (py26_3 : Int32).toNatClampNeg a2) ∧ (∀ j, iv 0 9 (f_4 j)) ∧ va_P V.1 vwCl [(y 26, .inr (5, o5_rrri (y 27) (y 28) (y 29) py26_3)), (y 27, aI V 10 f_3), (y 28, aI V 10 f_4), (y 29, aI V 10 fy29)] H ∧ va_D A [(y 26, .inr (5, o5_rrri (y 27) (y 28) (y 29) py26_3)), (y 27, aI V 10 f_3), (y 28, aI V 10 f_4), (y 29, aI V 10 fy29)] := ⟨_, rfl, ivU tfy28 _ ba2, hP, hD⟩
    replace hR := tb hR ef_4
    refine lv_aload_n hx hb dX5_keep_60 rfl (lv_at hl 0 rfl) ?_
    refine va_get (ci := 5) (v := .ref (y 29)) (C := RX5) (T := TX5) (N := 4) hx hb hg inX5 hown hK hP 0 rfl rfl 2 (by decide) (hg _ q_1_215) (fun _ h9 => h9) rfl dX5_keep_61 ?_
    refine lv_aload_n hx hb dX5_keep_64 rfl (lv_at hl 0 rfl) ?_
    refine va_get (ci := 5) (v := .int py26_3) (C := RX5) (T := TX5) (N := 4) hx hb hg inX5 hown hK hP 0 rfl rfl 3 (by decide) (hg _ q_1_217) (fun _ h9 => h9) rfl dX5_keep_65 ?_
    refine lv_iload_n hx hb dX5_keep_68 rfl (lv_at hl 3 rfl) ?_
    refine va_iast hx hb hK hP hD hS 3 0 rfl rfl (iv_in b_2 (by decide)) dX5_keep_69 (fun H locs hP hD hS => ?_)
    obtain ⟨f_5, ef_5, hP, hD⟩ : ∃ f_5 : Nat → Int32, f_5 = (upd fy29 (py26_3 : Int32).toNatClampNeg a3) ∧ va_P V.1 vwCl [(y 26, .inr (5, o5_rrri (y 27) (y 28) (y 29) py26_3)), (y 27, aI V 10 f_3), (y 28, aI V 10 f_4), (y 29, aI V 10 f_5)] H ∧ va_D A [(y 26, .inr (5, o5_rrri (y 27) (y 28) (y 29) py26_3)), (y 27, aI V 10 f_3), (y 28, aI V 10 f_4), (y 29, aI V 10 f_5)] := ⟨_, rfl, hP, hD⟩
    replace hR := tb hR ef_5
    refine lv_aload_n hx hb dX5_keep_70 rfl (lv_at hl 0 rfl) ?_
    refine lv_dup hx hb dX5_keep_71 rfl ?_
    refine va_get (ci := 5) (v := .int py26_3) (C := RX5) (T := TX5) (N := 4) hx hb hg inX5 hown hK hP 0 rfl rfl 3 (by decide) (hg _ q_1_217) (fun _ h9 => h9) rfl dX5_keep_72 ?_
    refine lv_iconst (v := 1) hx hb dX5_keep_75 (by decide) ?_
    refine lv_iadd hx hb dX5_keep_76 ?_
    refine lv_topi (fun x_6 ex_6 => ?_)
    have bx_6 : iv 1 10 x_6 := by rw [ex_6]; exact iv_add b_2 (iv_c (1 : Int32) (a := 1) (b := 1) (by decide)) (by decide)
    replace hR := tb hR ex_6
    refine va_put (ci := 5) (v := .int x_6) (ty := .int) (C := RX5) (T := TX5) (N := 4) hx hb hg inX5 tyX5 tyX5_ok nmX5 hown hK hP hD hS 0 rfl rfl 3 (by decide) (hg _ q_1_217) (fun _ h9 => h9) rfl (by decide +kernel) rfl rfl (Nat.le_of_ble_eq_true rfl) dX5_keep_77 (fun H locs hP hD hS => ?_)
    have hP : va_P V.1 vwCl [(y 26, .inr (5, o5_rrri (y 27) (y 28) (y 29) x_6)), (y 27, aI V 10 f_3), (y 28, aI V 10 f_4), (y 29, aI V 10 f_5)] H := hP
    have hD := cpD hP hD
    exact fiV hx hb hr hlk hK hP hD hS dX5_keep_80 (Nat.le_of_ble_eq_true rfl) (Nat.le_of_ble_eq_true rfl) (⟨x_6, f_3, f_4, f_5, (iv_w bx_6 (by decide)), tf_3, tf_4, (congrArg Prod.fst (hR.symm.trans hT0)), (congrArg Prod.fst (congrArg Prod.snd (hR.symm.trans hT0))), (congrArg Prod.fst (congrArg Prod.snd (congrArg Prod.snd (hR.symm.trans hT0)))), (congrArg Prod.snd (congrArg Prod.snd (congrArg Prod.snd (hR.symm.trans hT0)))), rfl⟩)
  · replace hR := ti hR c_1
    have b_7 : iv 10 10 py26_3 := iv_q c_1 (iv_c (10 : Int32) (a := 10) (b := 10) (by decide))
    refine lv_aload_n hx hb dX5_keep_9 rfl (lv_at hl 0 rfl) ?_
    refine va_get (ci := 5) (v := .ref (y 27)) (C := RX5) (T := TX5) (N := 4) hx hb hg inX5 hown hK hP 0 rfl rfl 0 (by decide) (hg _ q_1_211) (fun _ h9 => h9) rfl dX5_keep_10 ?_
    refine jnV (wr := [(y 26, .inr (5, o5_rrri (y 27) (y 28) (y 29) py26_3)), (y 28, aI V 10 fy28), (y 29, aI V 10 fy29)]) (rnS (rest := []) ⟨hx, hb, hml, hown, hg⟩ (k_X5_forgetEldest_0 l V y fy27 tfy27) mt_X5_forgetEldest q_3_181 ⟨Nat.le_of_ble_eq_true rfl, Nat.le_of_ble_eq_true rfl⟩ hK hP hD hS hA hE [1] rfl rfl rfl hl.1 rfl (Nat.le_of_ble_eq_true rfl) dX5_keep_13 ⟨Nat.le_of_ble_eq_true rfl, Nat.le_of_ble_eq_true rfl⟩) hP hD hS hA [1] [0, 2, 3] rfl rfl rfl (by decide) (fun  w H locs hw hP hD hS => ?_)
    obtain ⟨f_8, tf_8, et_9, rfl⟩ := hw
    replace hR := tb hR et_9
    have hP : va_P V.1 vwCl [(y 26, .inr (5, o5_rrri (y 27) (y 28) (y 29) py26_3)), (y 28, aI V 10 fy28), (y 29, aI V 10 fy29), (y 27, aI V 10 f_8)] H := hP
    have hD := cpD hP hD
    refine lv_aload_n hx hb dX5_keep_16 rfl (lv_at hl 0 rfl) ?_
    refine va_get (ci := 5) (v := .ref (y 28)) (C := RX5) (T := TX5) (N := 4) hx hb hg inX5 hown hK hP 0 rfl rfl 1 (by decide) (hg _ q_1_213) (fun _ h9 => h9) rfl dX5_keep_17 ?_
    refine jnV (wr := [(y 26, .inr (5, o5_rrri (y 27) (y 28) (y 29) py26_3)), (y 29, aI V 10 fy29), (y 27, aI V 10 f_8)]) (rnS (rest := []) ⟨hx, hb, hml, hown, hg⟩ (k_X5_forgetEldest_1 l V y fy28 tfy28) mt_X5_forgetEldest q_3_181 ⟨Nat.le_of_ble_eq_true rfl, Nat.le_of_ble_eq_true rfl⟩ hK hP hD hS hA hE [1] rfl rfl rfl hl.1 rfl (Nat.le_of_ble_eq_true rfl) dX5_keep_20 ⟨Nat.le_of_ble_eq_true rfl, Nat.le_of_ble_eq_true rfl⟩) hP hD hS hA [1] [0, 2, 3] rfl rfl rfl (by decide) (fun  w H locs hw hP hD hS => ?_)
    obtain ⟨f_11, tf_11, et_12, rfl⟩ := hw
    replace hR := tb hR et_12
    have hP : va_P V.1 vwCl [(y 26, .inr (5, o5_rrri (y 27) (y 28) (y 29) py26_3)), (y 29, aI V 10 fy29), (y 27, aI V 10 f_8), (y 28, aI V 10 f_11)] H := hP
    have hD := cpD hP hD
    refine lv_aload_n hx hb dX5_keep_23 rfl (lv_at hl 0 rfl) ?_
    refine va_get (ci := 5) (v := .ref (y 29)) (C := RX5) (T := TX5) (N := 4) hx hb hg inX5 hown hK hP 0 rfl rfl 2 (by decide) (hg _ q_1_215) (fun _ h9 => h9) rfl dX5_keep_24 ?_
    refine jnV (wr := [(y 26, .inr (5, o5_rrri (y 27) (y 28) (y 29) py26_3)), (y 27, aI V 10 f_8), (y 28, aI V 10 f_11)]) (rnS (rest := []) ⟨hx, hb, hml, hown, hg⟩ (k_X5_forgetEldest_2 l V y fy29) mt_X5_forgetEldest q_3_181 ⟨Nat.le_of_ble_eq_true rfl, Nat.le_of_ble_eq_true rfl⟩ hK hP hD hS hA hE [1] rfl rfl rfl hl.1 rfl (Nat.le_of_ble_eq_true rfl) dX5_keep_27 ⟨Nat.le_of_ble_eq_true rfl, Nat.le_of_ble_eq_true rfl⟩) hP hD hS hA [1] [0, 2, 3] rfl rfl rfl (by decide) (fun  w H locs hw hP hD hS => ?_)
    obtain ⟨f_14, et_15, rfl⟩ := hw
    replace hR := tb hR et_15
    have hP : va_P V.1 vwCl [(y 26, .inr (5, o5_rrri (y 27) (y 28) (y 29) py26_3)), (y 27, aI V 10 f_8), (y 28, aI V 10 f_11), (y 29, aI V 10 f_14)] H := hP
    have hD := cpD hP hD
    refine lv_aload_n hx hb dX5_keep_30 rfl (lv_at hl 0 rfl) ?_
    refine lv_dup hx hb dX5_keep_31 rfl ?_
    refine va_get (ci := 5) (v := .int py26_3) (C := RX5) (T := TX5) (N := 4) hx hb hg inX5 hown hK hP 0 rfl rfl 3 (by decide) (hg _ q_1_217) (fun _ h9 => h9) rfl dX5_keep_32 ?_
    refine lv_iconst (v := 1) hx hb dX5_keep_35 (by decide) ?_
    refine lv_isub hx hb dX5_keep_36 ?_
    refine lv_topi (fun x_17 ex_17 => ?_)
    have bx_17 : iv 9 9 x_17 := by rw [ex_17]; exact iv_sub b_7 (iv_c (1 : Int32) (a := 1) (b := 1) (by decide)) (by decide)
    replace hR := tb hR ex_17
    refine va_put (ci := 5) (v := .int x_17) (ty := .int) (C := RX5) (T := TX5) (N := 4) hx hb hg inX5 tyX5 tyX5_ok nmX5 hown hK hP hD hS 0 rfl rfl 3 (by decide) (hg _ q_1_217) (fun _ h9 => h9) rfl (by decide +kernel) rfl rfl (Nat.le_of_ble_eq_true rfl) dX5_keep_37 (fun H locs hP hD hS => ?_)
    have hP : va_P V.1 vwCl [(y 26, .inr (5, o5_rrri (y 27) (y 28) (y 29) x_17)), (y 27, aI V 10 f_8), (y 28, aI V 10 f_11), (y 29, aI V 10 f_14)] H := hP
    have hD := cpD hP hD
    refine lv_aload_n hx hb dX5_keep_40 rfl (lv_at hl 0 rfl) ?_
    refine va_get (ci := 5) (v := .ref (y 27)) (C := RX5) (T := TX5) (N := 4) hx hb hg inX5 hown hK hP 0 rfl rfl 0 (by decide) (hg _ q_1_211) (fun _ h9 => h9) rfl dX5_keep_41 ?_
    refine lv_aload_n hx hb dX5_keep_44 rfl (lv_at hl 0 rfl) ?_
    refine va_get (ci := 5) (v := .int x_17) (C := RX5) (T := TX5) (N := 4) hx hb hg inX5 hown hK hP 0 rfl rfl 3 (by decide) (hg _ q_1_217) (fun _ h9 => h9) rfl dX5_keep_45 ?_
    refine lv_iload_n hx hb dX5_keep_48 rfl (lv_at hl 1 rfl) ?_
    refine va_iast hx hb hK hP hD hS 1 0 rfl rfl (iv_in bx_17 (by decide)) dX5_keep_49 (fun H locs hP hD hS => ?_)
    obtain ⟨f_18, ef_18, tf_18, hP, hD⟩ : ∃ f_18 : Nat → Int32, f_18 = (upd f_8 (x_17 : Int32).toNatClampNeg a1) ∧ (∀ j, iv 0 9999 (f_18 j)) ∧ va_P V.1 vwCl [(y 26, .inr (5, o5_rrri (y 27) (y 28) (y 29) x_17)), (y 27, aI V 10 f_18), (y 28, aI V 10 f_11), (y 29, aI V 10 f_14)] H ∧ va_D A [(y 26, .inr (5, o5_rrri (y 27) (y 28) (y 29) x_17)), (y 27, aI V 10 f_18), (y 28, aI V 10 f_11), (y 29, aI V 10 f_14)] := ⟨_, rfl, ivU tf_8 _ ba1, hP, hD⟩
    replace hR := tb hR ef_18
    refine lv_aload_n hx hb dX5_keep_50 rfl (lv_at hl 0 rfl) ?_
    refine va_get (ci := 5) (v := .ref (y 28)) (C := RX5) (T := TX5) (N := 4) hx hb hg inX5 hown hK hP 0 rfl rfl 1 (by decide) (hg _ q_1_213) (fun _ h9 => h9) rfl dX5_keep_51 ?_
    refine lv_aload_n hx hb dX5_keep_54 rfl (lv_at hl 0 rfl) ?_
    refine va_get (ci := 5) (v := .int x_17) (C := RX5) (T := TX5) (N := 4) hx hb hg inX5 hown hK hP 0 rfl rfl 3 (by decide) (hg _ q_1_217) (fun _ h9 => h9) rfl dX5_keep_55 ?_
    refine lv_iload_n hx hb dX5_keep_58 rfl (lv_at hl 2 rfl) ?_
    refine va_iast hx hb hK hP hD hS 2 0 rfl rfl (iv_in bx_17 (by decide)) dX5_keep_59 (fun H locs hP hD hS => ?_)
    obtain ⟨f_19, ef_19, tf_19, hP, hD⟩ : ∃ f_19 : Nat → Int32, f_19 = (upd f_11 (x_17 : Int32).toNatClampNeg a2) ∧ (∀ j, iv 0 9 (f_19 j)) ∧ va_P V.1 vwCl [(y 26, .inr (5, o5_rrri (y 27) (y 28) (y 29) x_17)), (y 27, aI V 10 f_18), (y 28, aI V 10 f_19), (y 29, aI V 10 f_14)] H ∧ va_D A [(y 26, .inr (5, o5_rrri (y 27) (y 28) (y 29) x_17)), (y 27, aI V 10 f_18), (y 28, aI V 10 f_19), (y 29, aI V 10 f_14)] := ⟨_, rfl, ivU tf_11 _ ba2, hP, hD⟩
    replace hR := tb hR ef_19
    refine lv_aload_n hx hb dX5_keep_60 rfl (lv_at hl 0 rfl) ?_
    refine va_get (ci := 5) (v := .ref (y 29)) (C := RX5) (T := TX5) (N := 4) hx hb hg inX5 hown hK hP 0 rfl rfl 2 (by decide) (hg _ q_1_215) (fun _ h9 => h9) rfl dX5_keep_61 ?_
    refine lv_aload_n hx hb dX5_keep_64 rfl (lv_at hl 0 rfl) ?_
    refine va_get (ci := 5) (v := .int x_17) (C := RX5) (T := TX5) (N := 4) hx hb hg inX5 hown hK hP 0 rfl rfl 3 (by decide) (hg _ q_1_217) (fun _ h9 => h9) rfl dX5_keep_65 ?_
    refine lv_iload_n hx hb dX5_keep_68 rfl (lv_at hl 3 rfl) ?_
    refine va_iast hx hb hK hP hD hS 3 0 rfl rfl (iv_in bx_17 (by decide)) dX5_keep_69 (fun H locs hP hD hS => ?_)
    obtain ⟨f_20, ef_20, hP, hD⟩ : ∃ f_20 : Nat → Int32, f_20 = (upd f_14 (x_17 : Int32).toNatClampNeg a3) ∧ va_P V.1 vwCl [(y 26, .inr (5, o5_rrri (y 27) (y 28) (y 29) x_17)), (y 27, aI V 10 f_18), (y 28, aI V 10 f_19), (y 29, aI V 10 f_20)] H ∧ va_D A [(y 26, .inr (5, o5_rrri (y 27) (y 28) (y 29) x_17)), (y 27, aI V 10 f_18), (y 28, aI V 10 f_19), (y 29, aI V 10 f_20)] := ⟨_, rfl, hP, hD⟩
    replace hR := tb hR ef_20
    refine lv_aload_n hx hb dX5_keep_70 rfl (lv_at hl 0 rfl) ?_
    refine lv_dup hx hb dX5_keep_71 rfl ?_
    refine va_get (ci := 5) (v := .int x_17) (C := RX5) (T := TX5) (N := 4) hx hb hg inX5 hown hK hP 0 rfl rfl 3 (by decide) (hg _ q_1_217) (fun _ h9 => h9) rfl dX5_keep_72 ?_
    refine lv_iconst (v := 1) hx hb dX5_keep_75 (by decide) ?_
    refine lv_iadd hx hb dX5_keep_76 ?_
    refine lv_topi (fun x_21 ex_21 => ?_)
    have bx_21 : iv 10 10 x_21 := by rw [ex_21]; exact iv_add bx_17 (iv_c (1 : Int32) (a := 1) (b := 1) (by decide)) (by decide)
    replace hR := tb hR ex_21
    refine va_put (ci := 5) (v := .int x_21) (ty := .int) (C := RX5) (T := TX5) (N := 4) hx hb hg inX5 tyX5 tyX5_ok nmX5 hown hK hP hD hS 0 rfl rfl 3 (by decide) (hg _ q_1_217) (fun _ h9 => h9) rfl (by decide +kernel) rfl rfl (Nat.le_of_ble_eq_true rfl) dX5_keep_77 (fun H locs hP hD hS => ?_)
    have hP : va_P V.1 vwCl [(y 26, .inr (5, o5_rrri (y 27) (y 28) (y 29) x_21)), (y 27, aI V 10 f_18), (y 28, aI V 10 f_19), (y 29, aI V 10 f_20)] H := hP
    have hD := cpD hP hD
    exact fiV hx hb hr hlk hK hP hD hS dX5_keep_80 (Nat.le_of_ble_eq_true rfl) (Nat.le_of_ble_eq_true rfl) (⟨x_21, f_18, f_19, f_20, (iv_w bx_21 (by decide)), tf_18, tf_19, (congrArg Prod.fst (hR.symm.trans hT0)), (congrArg Prod.fst (congrArg Prod.snd (hR.symm.trans hT0))), (congrArg Prod.fst (congrArg Prod.snd (congrArg Prod.snd (hR.symm.trans hT0)))), (congrArg Prod.snd (congrArg Prod.snd (congrArg Prod.snd (hR.symm.trans hT0)))), rfl⟩)
theorem dX9_whyNoStealing_0 : decode cX9_whyNoStealing 0 = .ok (.aload_n 0, 1) := by decide +kernel
theorem dX9_whyNoStealing_1 : decode cX9_whyNoStealing 1 = .ok (.iload_n 1, 1) := by decide +kernel
theorem dX9_whyNoStealing_2 : decode cX9_whyNoStealing 2 = .ok (.invokevirtual 128, 3) := by decide +kernel
theorem dX9_whyNoStealing_5 : decode cX9_whyNoStealing 5 = .ok (.ifCond .ne 5, 3) := by decide +kernel
theorem dX9_whyNoStealing_8 : decode cX9_whyNoStealing 8 = .ok (.iconst 1, 1) := by decide +kernel
theorem dX9_whyNoStealing_9 : decode cX9_whyNoStealing 9 = .ok (.ireturn, 1) := by decide +kernel
theorem dX9_whyNoStealing_10 : decode cX9_whyNoStealing 10 = .ok (.aload_n 0, 1) := by decide +kernel
theorem dX9_whyNoStealing_11 : decode cX9_whyNoStealing 11 = .ok (.getfield 113, 3) := by decide +kernel
theorem dX9_whyNoStealing_14 : decode cX9_whyNoStealing 14 = .ok (.iload_n 1, 1) := by decide +kernel
theorem dX9_whyNoStealing_15 : decode cX9_whyNoStealing 15 = .ok (.invokestatic 132, 3) := by decide +kernel
theorem dX9_whyNoStealing_18 : decode cX9_whyNoStealing 18 = .ok (.ifCond .ne 7, 3) := by decide +kernel
theorem dX9_whyNoStealing_25 : decode cX9_whyNoStealing 25 = .ok (.iconst 0, 1) := by decide +kernel
theorem dX9_whyNoStealing_26 : decode cX9_whyNoStealing 26 = .ok (.ireturn, 1) := by decide +kernel
theorem dX9_whyNoStealing_21 : decode cX9_whyNoStealing 21 = .ok (.iconst 2, 1) := by decide +kernel
theorem dX9_whyNoStealing_22 : decode cX9_whyNoStealing 22 = .ok (.goto 4, 3) := by decide +kernel
set_option maxRecDepth 100000 in
noncomputable def F_k_X9_whyNoStealing_0 (a1 : Int32) (py0_12 : Int32) (py2_1 : Int32) : Int32 := if F_k_X9_isHill_0 a1 py2_1 = 0 then ((0)) else (if F_k_X9_isHill_0 a1 py2_1 = 1 then ((1)) else (bnd (F_k_X9_stackIn_0 py0_12 a1 : Int32) fun (r_21 : Int32) => if r_21 = (0 : Int32) then ((3)) else ((2))))
set_option maxHeartbeats 4000000 in
set_option maxRecDepth 100000 in
theorem k_X9_whyNoStealing_0 (l : Launch) (V : GV) (y : Nat → Nat) (a1 : Int32) (py0_1 : Int32) (o10 : Value) (o11 : Value) (py0_12 : Int32) (py0_13 : Int32) (py0_14 : Int32) (py2_0 : Int32) (py2_1 : Int32) (py2_2 : Int32) (py2_3 : Int32) (py2_4 : Int32) (py2_5 : Int32) (py2_13 : Int32) (py2_14 : Int32) (py2_15 : Int32) (py2_16 : Int32) (py2_17 : Int32) (bpy0_1 : iv 0 900 py0_1) (bpy0_12 : iv 0 9999 py0_12) (bpy0_13 : iv 0 9 py0_13) (bpy2_1 : iv 0 4 py2_1) (bpy2_2 : iv 0 4 py2_2) (bpy2_3 : iv 0 8 py2_3) (bpy2_4 : iv 0 9999 py2_4) (bpy2_5 : iv 0 9 py2_5) (bpy2_13 : iv 0 900 py2_13) (bpy2_14 : iv 0 900 py2_14) (bpy2_15 : iv 0 900 py2_15) (bpy2_16 : iv 0 900 py2_16) (bpy2_17 : iv 0 900 py2_17) : Ct l V yX9_whyNoStealing (.code yX9_whyNoStealing cX9_whyNoStealing 2 (some .int)) 2 [.ref (y 0), .int a1] [(y 0, .inr (9, o9_rirrrrrrrrvviii (y 1) py0_1 (y 2) (y 10) (y 19) (y 25) (y 26) (y 30) (y 31) (y 32) o10 o11 py0_12 py0_13 py0_14)), (y 2, .inr (1, o1_iiiiiirrrrrrriiiii py2_0 py2_1 py2_2 py2_3 py2_4 py2_5 (y 3) (y 4) (y 5) (y 6) (y 7) (y 8) (y 9) py2_13 py2_14 py2_15 py2_16 py2_17))] 0 0 (QI V (fun (r : Int32) (w : va_W) => ((a1 < 0) ∧ r = 1 ∧ 1 = wyF a1 py2_1 py0_12 ∧ (0 : Int32) = F_k_X9_whyNoStealing_0 a1 py0_12 py2_1 ∧ w = [(y 0, .inr (9, o9_rirrrrrrrrvviii (y 1) py0_1 (y 2) (y 10) (y 19) (y 25) (y 26) (y 30) (y 31) (y 32) o10 o11 py0_12 py0_13 py0_14)), (y 2, .inr (1, o1_iiiiiirrrrrrriiiii py2_0 py2_1 py2_2 py2_3 py2_4 py2_5 (y 3) (y 4) (y 5) (y 6) (y 7) (y 8) (y 9) py2_13 py2_14 py2_15 py2_16 py2_17))]) ∨ ((¬ a1 < 0) ∧ (py2_1 ≤ a1) ∧ r = 1 ∧ 1 = wyF a1 py2_1 py0_12 ∧ (1 : Int32) = F_k_X9_whyNoStealing_0 a1 py0_12 py2_1 ∧ w = [(y 0, .inr (9, o9_rirrrrrrrrvviii (y 1) py0_1 (y 2) (y 10) (y 19) (y 25) (y 26) (y 30) (y 31) (y 32) o10 o11 py0_12 py0_13 py0_14)), (y 2, .inr (1, o1_iiiiiirrrrrrriiiii py2_0 py2_1 py2_2 py2_3 py2_4 py2_5 (y 3) (y 4) (y 5) (y 6) (y 7) (y 8) (y 9) py2_13 py2_14 py2_15 py2_16 py2_17))]) ∨ ((¬ a1 < 0) ∧ (¬ py2_1 ≤ a1) ∧ r = 0 ∧ 0 = wyF a1 py2_1 py0_12 ∧ (2 : Int32) = F_k_X9_whyNoStealing_0 a1 py0_12 py2_1 ∧ w = [(y 0, .inr (9, o9_rirrrrrrrrvviii (y 1) py0_1 (y 2) (y 10) (y 19) (y 25) (y 26) (y 30) (y 31) (y 32) o10 o11 py0_12 py0_13 py0_14)), (y 2, .inr (1, o1_iiiiiirrrrrrriiiii py2_0 py2_1 py2_2 py2_3 py2_4 py2_5 (y 3) (y 4) (y 5) (y 6) (y 7) (y 8) (y 9) py2_13 py2_14 py2_15 py2_16 py2_17))]) ∨ ((¬ a1 < 0) ∧ (¬ py2_1 ≤ a1) ∧ r = 2 ∧ 2 = wyF a1 py2_1 py0_12 ∧ (3 : Int32) = F_k_X9_whyNoStealing_0 a1 py0_12 py2_1 ∧ w = [(y 0, .inr (9, o9_rirrrrrrrrvviii (y 1) py0_1 (y 2) (y 10) (y 19) (y 25) (y 26) (y 30) (y 31) (y 32) o10 o11 py0_12 py0_13 py0_14)), (y 2, .inr (1, o1_iiiiiirrrrrrriiiii py2_0 py2_1 py2_2 py2_3 py2_4 py2_5 (y 3) (y 4) (y 5) (y 6) (y 7) (y 8) (y 9) py2_13 py2_14 py2_15 py2_16 py2_17))]))) := by
  refine Ct.of (by decide) (Nat.le_of_ble_eq_true rfl) (fun p e s m below meth c A ls hx hb hr hml hown hlk hnm hg hP hK hD hE hA hS hl => ?_)
  have hl : lv_has ls 2 [(0, .ref (y 0)), (1, .int a1)] := hl
  obtain ⟨T0, hT0⟩ : ∃ T9, T9 = F_k_X9_whyNoStealing_0 a1 py0_12 py2_1 := ⟨_, rfl⟩
  have hR := hT0.trans (F_k_X9_whyNoStealing_0.eq_1 ..)
  refine lv_aload_n hx hb dX9_whyNoStealing_0 rfl (lv_at hl 0 rfl) ?_
  refine lv_iload_n hx hb dX9_whyNoStealing_1 rfl (lv_at hl 1 rfl) ?_
  refine jnI (wr := []) (rnV (rest := []) ⟨hx, hb, hml, hown, hg⟩ (k_X9_isHill_0 l V y a1 py0_1 o10 o11 py0_12 py0_13 py0_14 py2_0 py2_1 py2_2 py2_3 py2_4 py2_5 py2_13 py2_14 py2_15 py2_16 py2_17 bpy0_1 bpy0_12 bpy0_13 bpy2_1 bpy2_2 bpy2_3 bpy2_4 bpy2_5 bpy2_13 bpy2_14 bpy2_15 bpy2_16 bpy2_17) mt_X9_isHill q_3_122 ⟨Nat.le_of_ble_eq_true rfl, Nat.le_of_ble_eq_true rfl⟩ hK hP hD hS hA hE [0, 1] rfl rfl 0 rfl rfl rfl rfl hl.1 rfl (Nat.le_of_ble_eq_true rfl) dX9_whyNoStealing_2 ⟨Nat.le_of_ble_eq_true rfl, Nat.le_of_ble_eq_true rfl⟩) hP hD hS hA [0, 1] [] rfl rfl rfl (by decide) (fun r_1 w H locs hw hP hD hS => ?_)
  rcases hw with ⟨c_2, rfl, et_3, rfl⟩ | ⟨c_4, c_5, rfl, et_6, rfl⟩ | ⟨c_7, c_8, rfl, et_9, rfl⟩
  · have hP : va_P V.1 vwCl [(y 0, .inr (9, o9_rirrrrrrrrvviii (y 1) py0_1 (y 2) (y 10) (y 19) (y 25) (y 26) (y 30) (y 31) (y 32) o10 o11 py0_12 py0_13 py0_14)), (y 2, .inr (1, o1_iiiiiirrrrrrriiiii py2_0 py2_1 py2_2 py2_3 py2_4 py2_5 (y 3) (y 4) (y 5) (y 6) (y 7) (y 8) (y 9) py2_13 py2_14 py2_15 py2_16 py2_17))] H := hP
    have hD := cpD hP hD
    replace hR := ti hR et_3.symm
    have b_10 : iv (-2147483648) (-1) a1 := iv_l1 c_2 (iv_top a1) (iv_c (0 : Int32) (a := 0) (b := 0) (by decide)) (by decide)
    refine lv_if_ne (tgt := 10) hx hb dX9_whyNoStealing_5 (by decide) (fun c_12 => absurd c_12 (by decide)) (fun _ => ?_)
    refine lv_iconst (v := 1) hx hb dX9_whyNoStealing_8 (by decide) ?_
    exact fiI hx hb hr hlk hK hP hD hS dX9_whyNoStealing_9 (Nat.le_of_ble_eq_true rfl) (Nat.le_of_ble_eq_true rfl) (Or.inl ⟨c_2, rfl, (wy_1 (by have z_0 := Int32.lt_iff_toInt_lt.mp c_2; have k_0 : (0 : Int32).toInt = 0 := (by decide); omega)), (hR.symm.trans hT0), rfl⟩)
  · have hP : va_P V.1 vwCl [(y 0, .inr (9, o9_rirrrrrrrrvviii (y 1) py0_1 (y 2) (y 10) (y 19) (y 25) (y 26) (y 30) (y 31) (y 32) o10 o11 py0_12 py0_13 py0_14)), (y 2, .inr (1, o1_iiiiiirrrrrrriiiii py2_0 py2_1 py2_2 py2_3 py2_4 py2_5 (y 3) (y 4) (y 5) (y 6) (y 7) (y 8) (y 9) py2_13 py2_14 py2_15 py2_16 py2_17))] H := hP
    have hD := cpD hP hD
    replace hR := te hR (by rw [← et_6]; decide)
    replace hR := ti hR et_6.symm
    have b_13 : iv 0 2147483647 a1 := iv_e2 (Int32.not_lt.mp c_4) (iv_c (0 : Int32) (a := 0) (b := 0) (by decide)) (iv_top a1) (by decide)
    refine lv_if_ne (tgt := 10) hx hb dX9_whyNoStealing_5 (by decide) (fun c_15 => absurd c_15 (by decide)) (fun _ => ?_)
    refine lv_iconst (v := 1) hx hb dX9_whyNoStealing_8 (by decide) ?_
    exact fiI hx hb hr hlk hK hP hD hS dX9_whyNoStealing_9 (Nat.le_of_ble_eq_true rfl) (Nat.le_of_ble_eq_true rfl) (Or.inr (Or.inl ⟨c_4, c_5, rfl, (wy_1 (by have z_0 := Int32.le_iff_toInt_le.mp (Int32.not_lt.mp c_4); have z_1 := Int32.le_iff_toInt_le.mp c_5; have k_0 : (0 : Int32).toInt = 0 := (by decide); omega)), (hR.symm.trans hT0), rfl⟩))
  · have hP : va_P V.1 vwCl [(y 0, .inr (9, o9_rirrrrrrrrvviii (y 1) py0_1 (y 2) (y 10) (y 19) (y 25) (y 26) (y 30) (y 31) (y 32) o10 o11 py0_12 py0_13 py0_14)), (y 2, .inr (1, o1_iiiiiirrrrrrriiiii py2_0 py2_1 py2_2 py2_3 py2_4 py2_5 (y 3) (y 4) (y 5) (y 6) (y 7) (y 8) (y 9) py2_13 py2_14 py2_15 py2_16 py2_17))] H := hP
    have hD := cpD hP hD
    replace hR := te hR (by rw [← et_9]; decide)
    replace hR := te hR (by rw [← et_9]; decide)
    have b_16 : iv 0 2147483647 a1 := iv_e2 (Int32.not_lt.mp c_7) (iv_c (0 : Int32) (a := 0) (b := 0) (by decide)) (iv_top a1) (by decide)
    have b_17 : iv 0 3 a1 := iv_l1 (Int32.not_le.mp c_8) b_16 bpy2_1 (by decide)
    have b_18 : iv 1 4 py2_1 := iv_l2 (Int32.not_le.mp c_8) b_16 bpy2_1 (by decide)
    refine lv_if_ne (tgt := 10) hx hb dX9_whyNoStealing_5 (by decide) (fun _ => ?_) (fun c_20 => absurd c_20 (by decide))
    refine lv_aload_n hx hb dX9_whyNoStealing_10 rfl (lv_at hl 0 rfl) ?_
    refine va_get (ci := 9) (v := .int py0_12) (C := RX9) (T := TX9) (N := 15) hx hb hg inX9 hown hK hP 0 rfl rfl 12 (by decide) (hg _ q_2_48) (fun _ h9 => h9) rfl dX9_whyNoStealing_11 ?_
    refine lv_iload_n hx hb dX9_whyNoStealing_14 rfl (lv_at hl 1 rfl) ?_
    refine jnI (wr := [(y 0, .inr (9, o9_rirrrrrrrrvviii (y 1) py0_1 (y 2) (y 10) (y 19) (y 25) (y 26) (y 30) (y 31) (y 32) o10 o11 py0_12 py0_13 py0_14)), (y 2, .inr (1, o1_iiiiiirrrrrrriiiii py2_0 py2_1 py2_2 py2_3 py2_4 py2_5 (y 3) (y 4) (y 5) (y 6) (y 7) (y 8) (y 9) py2_13 py2_14 py2_15 py2_16 py2_17))]) (rnS (rest := []) ⟨hx, hb, hml, hown, hg⟩ (k_X9_stackIn_0 l V py0_12 a1 bpy0_12 (iv_w b_17 (by decide))) mt_X9_stackIn q_3_126 ⟨Nat.le_of_ble_eq_true rfl, Nat.le_of_ble_eq_true rfl⟩ hK hP hD hS hA hE [] rfl rfl rfl hl.1 rfl (Nat.le_of_ble_eq_true rfl) dX9_whyNoStealing_15 ⟨Nat.le_of_ble_eq_true rfl, Nat.le_of_ble_eq_true rfl⟩) hP hD hS hA [] [0, 1] rfl rfl rfl (by decide) (fun r_21 w H locs hw hP hD hS => ?_)
    obtain ⟨br_21, er_21, et_22, rfl⟩ := hw
    replace hR := tb hR et_22
    have hP : va_P V.1 vwCl [(y 0, .inr (9, o9_rirrrrrrrrvviii (y 1) py0_1 (y 2) (y 10) (y 19) (y 25) (y 26) (y 30) (y 31) (y 32) o10 o11 py0_12 py0_13 py0_14)), (y 2, .inr (1, o1_iiiiiirrrrrrriiiii py2_0 py2_1 py2_2 py2_3 py2_4 py2_5 (y 3) (y 4) (y 5) (y 6) (y 7) (y 8) (y 9) py2_13 py2_14 py2_15 py2_16 py2_17))] H := hP
    have hD := cpD hP hD
    refine lv_if_ne (tgt := 25) hx hb dX9_whyNoStealing_18 (by decide) (fun c_24 => ?_) (fun c_24 => ?_)
    · replace hR := te hR c_24
      have b_25 : iv 1 4 r_21 := iv_n0 c_24 br_21 (iv_c (0 : Int32) (a := 0) (b := 0) (by decide)) (by decide)
      refine lv_iconst (v := 0) hx hb dX9_whyNoStealing_25 (by decide) ?_
      exact fiI hx hb hr hlk hK hP hD hS dX9_whyNoStealing_26 (Nat.le_of_ble_eq_true rfl) (Nat.le_of_ble_eq_true rfl) (Or.inr (Or.inr (Or.inl ⟨c_7, c_8, rfl, (wy_0 (by have z_0 := Int32.le_iff_toInt_le.mp (Int32.not_lt.mp c_7); have z_1 := Int32.lt_iff_toInt_lt.mp (Int32.not_le.mp c_8); have k_0 : (0 : Int32).toInt = 0 := (by decide); omega) er_21 c_24), (hR.symm.trans hT0), rfl⟩)))
    · replace hR := ti hR c_24
      have b_26 : iv 0 0 r_21 := iv_q c_24 (iv_c (0 : Int32) (a := 0) (b := 0) (by decide))
      refine lv_iconst (v := 2) hx hb dX9_whyNoStealing_21 (by decide) ?_
      refine lv_goto (tgt := 26) hx hb dX9_whyNoStealing_22 (by decide) ?_
      exact fiI hx hb hr hlk hK hP hD hS dX9_whyNoStealing_26 (Nat.le_of_ble_eq_true rfl) (Nat.le_of_ble_eq_true rfl) (Or.inr (Or.inr (Or.inr (⟨c_7, c_8, rfl, (wy_2 (by have z_0 := Int32.le_iff_toInt_le.mp (Int32.not_lt.mp c_7); have z_1 := Int32.lt_iff_toInt_lt.mp (Int32.not_le.mp c_8); have k_0 : (0 : Int32).toInt = 0 := (by decide); omega) er_21 c_24), (hR.symm.trans hT0), rfl⟩))))
theorem dX9_takeByHand_0 : decode cX9_takeByHand 0 = .ok (.aload_n 0, 1) := by decide +kernel
theorem dX9_takeByHand_1 : decode cX9_takeByHand 1 = .ok (.getfield 113, 3) := by decide +kernel
theorem dX9_takeByHand_4 : decode cX9_takeByHand 4 = .ok (.iload_n 1, 1) := by decide +kernel
theorem dX9_takeByHand_5 : decode cX9_takeByHand 5 = .ok (.invokestatic 132, 3) := by decide +kernel
theorem dX9_takeByHand_8 : decode cX9_takeByHand 8 = .ok (.iconst 2, 1) := by decide +kernel
theorem dX9_takeByHand_9 : decode cX9_takeByHand 9 = .ok (.imul, 1) := by decide +kernel
theorem dX9_takeByHand_10 : decode cX9_takeByHand 10 = .ok (.aload_n 0, 1) := by decide +kernel
theorem dX9_takeByHand_11 : decode cX9_takeByHand 11 = .ok (.getfield 113, 3) := by decide +kernel
theorem dX9_takeByHand_14 : decode cX9_takeByHand 14 = .ok (.iload_n 1, 1) := by decide +kernel
theorem dX9_takeByHand_15 : decode cX9_takeByHand 15 = .ok (.invokestatic 139, 3) := by decide +kernel
theorem dX9_takeByHand_18 : decode cX9_takeByHand 18 = .ok (.iadd, 1) := by decide +kernel
theorem dX9_takeByHand_19 : decode cX9_takeByHand 19 = .ok (.istore_n 2, 1) := by decide +kernel
theorem dX9_takeByHand_20 : decode cX9_takeByHand 20 = .ok (.aload_n 0, 1) := by decide +kernel
theorem dX9_takeByHand_21 : decode cX9_takeByHand 21 = .ok (.getfield 113, 3) := by decide +kernel
theorem dX9_takeByHand_24 : decode cX9_takeByHand 24 = .ok (.iload_n 1, 1) := by decide +kernel
theorem dX9_takeByHand_25 : decode cX9_takeByHand 25 = .ok (.invokestatic 132, 3) := by decide +kernel
theorem dX9_takeByHand_28 : decode cX9_takeByHand 28 = .ok (.iconst 1, 1) := by decide +kernel
theorem dX9_takeByHand_29 : decode cX9_takeByHand 29 = .ok (.isub, 1) := by decide +kernel
theorem dX9_takeByHand_30 : decode cX9_takeByHand 30 = .ok (.iconst 2, 1) := by decide +kernel
theorem dX9_takeByHand_31 : decode cX9_takeByHand 31 = .ok (.imul, 1) := by decide +kernel
theorem dX9_takeByHand_32 : decode cX9_takeByHand 32 = .ok (.iconst 1, 1) := by decide +kernel
theorem dX9_takeByHand_33 : decode cX9_takeByHand 33 = .ok (.iadd, 1) := by decide +kernel
theorem dX9_takeByHand_34 : decode cX9_takeByHand 34 = .ok (.istore_n 3, 1) := by decide +kernel
theorem dX9_takeByHand_35 : decode cX9_takeByHand 35 = .ok (.aload_n 0, 1) := by decide +kernel
theorem dX9_takeByHand_36 : decode cX9_takeByHand 36 = .ok (.dup, 1) := by decide +kernel
theorem dX9_takeByHand_37 : decode cX9_takeByHand 37 = .ok (.getfield 113, 3) := by decide +kernel
theorem dX9_takeByHand_40 : decode cX9_takeByHand 40 = .ok (.iload_n 3, 1) := by decide +kernel
theorem dX9_takeByHand_41 : decode cX9_takeByHand 41 = .ok (.iload_n 2, 1) := by decide +kernel
theorem dX9_takeByHand_42 : decode cX9_takeByHand 42 = .ok (.isub, 1) := by decide +kernel
theorem dX9_takeByHand_43 : decode cX9_takeByHand 43 = .ok (.getstatic 162, 3) := by decide +kernel
theorem dX9_takeByHand_46 : decode cX9_takeByHand 46 = .ok (.iload_n 1, 1) := by decide +kernel
theorem dX9_takeByHand_47 : decode cX9_takeByHand 47 = .ok (.iaload, 1) := by decide +kernel
theorem dX9_takeByHand_48 : decode cX9_takeByHand 48 = .ok (.imul, 1) := by decide +kernel
theorem dX9_takeByHand_49 : decode cX9_takeByHand 49 = .ok (.iadd, 1) := by decide +kernel
theorem dX9_takeByHand_50 : decode cX9_takeByHand 50 = .ok (.putfield 113, 3) := by decide +kernel
theorem dX9_takeByHand_53 : decode cX9_takeByHand 53 = .ok (.return_, 1) := by decide +kernel
set_option maxRecDepth 100000 in
noncomputable def F_k_X9_takeByHand_0 (a1 : Int32) (py0_12 : Int32) : Int32 := bnd (F_k_X9_stackIn_0 py0_12 a1 : Int32) fun (r_1 : Int32) => bnd (r_1 * (2 : Int32) : Int32) fun (x_4 : Int32) => bnd (F_k_X9_tookIn_0 py0_12 a1 : Int32) fun (r_5 : Int32) => bnd (x_4 + r_5 : Int32) fun (x_8 : Int32) => bnd (F_k_X9_stackIn_0 py0_12 a1 : Int32) fun (r_9 : Int32) => bnd (r_1 - (1 : Int32) : Int32) fun (x_12 : Int32) => bnd (x_12 * (2 : Int32) : Int32) fun (x_13 : Int32) => bnd (x_13 + (1 : Int32) : Int32) fun (x_14 : Int32) => bnd (x_14 - x_8 : Int32) fun (x_15 : Int32) => bnd (pw (a1 : Int32).toNatClampNeg : Int32) fun (x_16 : Int32) => bnd (x_15 * x_16 : Int32) fun (x_17 : Int32) => bnd (py0_12 + x_17 : Int32) fun (x_18 : Int32) => (x_18)
set_option maxHeartbeats 4000000 in
set_option maxRecDepth 100000 in
theorem k_X9_takeByHand_0 (l : Launch) (V : GV) (y : Nat → Nat) (a1 : Int32) (py0_1 : Int32) (o10 : Value) (o11 : Value) (py0_12 : Int32) (py0_13 : Int32) (py0_14 : Int32) (ba1 : iv 0 3 a1) (bpy0_1 : iv 0 900 py0_1) (bpy0_12 : iv 0 9999 py0_12) (bpy0_13 : iv 0 9 py0_13) (hf0 : ¬ stW py0_12 (a1 : Int32).toNatClampNeg = 0) : Ct l V yX9_takeByHand (.code yX9_takeByHand cX9_takeByHand 4 none) 2 [.ref (y 0), .int a1] [(y 0, .inr (9, o9_rirrrrrrrrvviii (y 1) py0_1 (y 2) (y 10) (y 19) (y 25) (y 26) (y 30) (y 31) (y 32) o10 o11 py0_12 py0_13 py0_14))] 0 0 (QV V (fun (w : va_W) => ∃ (v0 : Int32), iv 0 9999 v0 ∧ (v0 = thF py0_12 a1) ∧ v0 = (F_k_X9_takeByHand_0 a1 py0_12) ∧ w = [(y 0, .inr (9, o9_rirrrrrrrrvviii (y 1) py0_1 (y 2) (y 10) (y 19) (y 25) (y 26) (y 30) (y 31) (y 32) o10 o11 v0 py0_13 py0_14))])) := by
  refine Ct.of (by decide) (Nat.le_of_ble_eq_true rfl) (fun p e s m below meth c A ls hx hb hr hml hown hlk hnm hg hP hK hD hE hA hS hl => ?_)
  have hl : lv_has ls 4 [(0, .ref (y 0)), (1, .int a1)] := hl
  obtain ⟨T0, hT0⟩ : ∃ T9, T9 = F_k_X9_takeByHand_0 a1 py0_12 := ⟨_, rfl⟩
  have hR := hT0.trans (F_k_X9_takeByHand_0.eq_1 ..)
  refine lv_aload_n hx hb dX9_takeByHand_0 rfl (lv_at hl 0 rfl) ?_
  refine va_get (ci := 9) (v := .int py0_12) (C := RX9) (T := TX9) (N := 15) hx hb hg inX9 hown hK hP 0 rfl rfl 12 (by decide) (hg _ q_2_48) (fun _ h9 => h9) rfl dX9_takeByHand_1 ?_
  refine lv_iload_n hx hb dX9_takeByHand_4 rfl (lv_at hl 1 rfl) ?_
  refine jnI (wr := [(y 0, .inr (9, o9_rirrrrrrrrvviii (y 1) py0_1 (y 2) (y 10) (y 19) (y 25) (y 26) (y 30) (y 31) (y 32) o10 o11 py0_12 py0_13 py0_14))]) (rnS (rest := []) ⟨hx, hb, hml, hown, hg⟩ (k_X9_stackIn_0 l V py0_12 a1 bpy0_12 (iv_w ba1 (by decide))) mt_X9_stackIn q_3_126 ⟨Nat.le_of_ble_eq_true rfl, Nat.le_of_ble_eq_true rfl⟩ hK hP hD hS hA hE [] rfl rfl rfl hl.1 rfl (Nat.le_of_ble_eq_true rfl) dX9_takeByHand_5 ⟨Nat.le_of_ble_eq_true rfl, Nat.le_of_ble_eq_true rfl⟩) hP hD hS hA [] [0] rfl rfl rfl (by decide) (fun r_1 w H locs hw hP hD hS => ?_)
  obtain ⟨br_1, er_1, et_2, rfl⟩ := hw
  replace hR := tb hR et_2
  have hP : va_P V.1 vwCl [(y 0, .inr (9, o9_rirrrrrrrrvviii (y 1) py0_1 (y 2) (y 10) (y 19) (y 25) (y 26) (y 30) (y 31) (y 32) o10 o11 py0_12 py0_13 py0_14))] H := hP
  have hD := cpD hP hD
  refine lv_iconst (v := 2) hx hb dX9_takeByHand_8 (by decide) ?_
  refine lv_imul hx hb dX9_takeByHand_9 ?_
  refine lv_topi (fun x_4 ex_4 => ?_)
  have bx_4 : iv 0 8 x_4 := by rw [ex_4]; exact iv_mulc br_1 (iv_c (2 : Int32) (a := 2) (b := 2) (by decide)) (by decide)
  replace hR := tb hR ex_4
  refine lv_aload_n hx hb dX9_takeByHand_10 rfl (lv_at hl 0 rfl) ?_
  refine va_get (ci := 9) (v := .int py0_12) (C := RX9) (T := TX9) (N := 15) hx hb hg inX9 hown hK hP 0 rfl rfl 12 (by decide) (hg _ q_2_48) (fun _ h9 => h9) rfl dX9_takeByHand_11 ?_
  refine lv_iload_n hx hb dX9_takeByHand_14 rfl (lv_at hl 1 rfl) ?_
  refine jnI (wr := [(y 0, .inr (9, o9_rirrrrrrrrvviii (y 1) py0_1 (y 2) (y 10) (y 19) (y 25) (y 26) (y 30) (y 31) (y 32) o10 o11 py0_12 py0_13 py0_14))]) (rnS (rest := [.int x_4]) ⟨hx, hb, hml, hown, hg⟩ (k_X9_tookIn_0 l V py0_12 a1 bpy0_12 (iv_w ba1 (by decide))) mt_X9_tookIn q_3_130 ⟨Nat.le_of_ble_eq_true rfl, Nat.le_of_ble_eq_true rfl⟩ hK hP hD hS hA hE [] rfl rfl rfl hl.1 rfl (Nat.le_of_ble_eq_true rfl) dX9_takeByHand_15 ⟨Nat.le_of_ble_eq_true rfl, Nat.le_of_ble_eq_true rfl⟩) hP hD hS hA [] [0] rfl rfl rfl (by decide) (fun r_5 w H locs hw hP hD hS => ?_)
  obtain ⟨br_5, er_5, et_6, rfl⟩ := hw
  replace hR := tb hR et_6
  have hP : va_P V.1 vwCl [(y 0, .inr (9, o9_rirrrrrrrrvviii (y 1) py0_1 (y 2) (y 10) (y 19) (y 25) (y 26) (y 30) (y 31) (y 32) o10 o11 py0_12 py0_13 py0_14))] H := hP
  have hD := cpD hP hD
  refine lv_iadd hx hb dX9_takeByHand_18 ?_
  refine lv_topi (fun x_8 ex_8 => ?_)
  have bx_8 : iv 0 9 x_8 := by rw [ex_8]; exact iv_add bx_4 br_5 (by decide)
  replace hR := tb hR ex_8
  refine lv_istore_n (lv' := [(2, .int x_8), (0, .ref (y 0)), (1, .int a1)]) hx hb dX9_takeByHand_19 rfl hl (by decide) rfl (fun ls hl => ?_)
  refine lv_aload_n hx hb dX9_takeByHand_20 rfl (lv_at hl 1 rfl) ?_
  refine va_get (ci := 9) (v := .int py0_12) (C := RX9) (T := TX9) (N := 15) hx hb hg inX9 hown hK hP 0 rfl rfl 12 (by decide) (hg _ q_2_48) (fun _ h9 => h9) rfl dX9_takeByHand_21 ?_
  refine lv_iload_n hx hb dX9_takeByHand_24 rfl (lv_at hl 2 rfl) ?_
  refine jnI (wr := [(y 0, .inr (9, o9_rirrrrrrrrvviii (y 1) py0_1 (y 2) (y 10) (y 19) (y 25) (y 26) (y 30) (y 31) (y 32) o10 o11 py0_12 py0_13 py0_14))]) (rnS (rest := []) ⟨hx, hb, hml, hown, hg⟩ (k_X9_stackIn_0 l V py0_12 a1 bpy0_12 (iv_w ba1 (by decide))) mt_X9_stackIn q_3_126 ⟨Nat.le_of_ble_eq_true rfl, Nat.le_of_ble_eq_true rfl⟩ hK hP hD hS hA hE [] rfl rfl rfl hl.1 rfl (Nat.le_of_ble_eq_true rfl) dX9_takeByHand_25 ⟨Nat.le_of_ble_eq_true rfl, Nat.le_of_ble_eq_true rfl⟩) hP hD hS hA [] [0] rfl rfl rfl (by decide) (fun r_9 w H locs hw hP hD hS => ?_)
  obtain ⟨br_9, er_9, et_10, rfl⟩ := hw
  replace hR := tb hR et_10
  have e9_r_9 : r_9 = r_1 := er_9.trans er_1.symm
  rw [e9_r_9]
  have hP : va_P V.1 vwCl [(y 0, .inr (9, o9_rirrrrrrrrvviii (y 1) py0_1 (y 2) (y 10) (y 19) (y 25) (y 26) (y 30) (y 31) (y 32) o10 o11 py0_12 py0_13 py0_14))] H := hP
  have hD := cpD hP hD
  refine lv_iconst (v := 1) hx hb dX9_takeByHand_28 (by decide) ?_
  refine lv_isub hx hb dX9_takeByHand_29 ?_
  refine lv_topi (fun x_12 ex_12 => ?_)
  have bx_12 : iv (-1) 3 x_12 := by rw [ex_12]; exact iv_sub br_1 (iv_c (1 : Int32) (a := 1) (b := 1) (by decide)) (by decide)
  replace hR := tb hR ex_12
  refine lv_iconst (v := 2) hx hb dX9_takeByHand_30 (by decide) ?_
  refine lv_imul hx hb dX9_takeByHand_31 ?_
  refine lv_topi (fun x_13 ex_13 => ?_)
  have bx_13 : iv (-2) 6 x_13 := by rw [ex_13]; exact iv_mulc bx_12 (iv_c (2 : Int32) (a := 2) (b := 2) (by decide)) (by decide)
  replace hR := tb hR ex_13
  refine lv_iconst (v := 1) hx hb dX9_takeByHand_32 (by decide) ?_
  refine lv_iadd hx hb dX9_takeByHand_33 ?_
  refine lv_topi (fun x_14 ex_14 => ?_)
  have bx_14 : iv (-1) 7 x_14 := by rw [ex_14]; exact iv_add bx_13 (iv_c (1 : Int32) (a := 1) (b := 1) (by decide)) (by decide)
  replace hR := tb hR ex_14
  refine lv_istore_n (lv' := [(3, .int x_14), (2, .int x_8), (0, .ref (y 0)), (1, .int a1)]) hx hb dX9_takeByHand_34 rfl hl (by decide) rfl (fun ls hl => ?_)
  refine lv_aload_n hx hb dX9_takeByHand_35 rfl (lv_at hl 2 rfl) ?_
  refine lv_dup hx hb dX9_takeByHand_36 rfl ?_
  refine va_get (ci := 9) (v := .int py0_12) (C := RX9) (T := TX9) (N := 15) hx hb hg inX9 hown hK hP 0 rfl rfl 12 (by decide) (hg _ q_2_48) (fun _ h9 => h9) rfl dX9_takeByHand_37 ?_
  refine lv_iload_n hx hb dX9_takeByHand_40 rfl (lv_at hl 0 rfl) ?_
  refine lv_iload_n hx hb dX9_takeByHand_41 rfl (lv_at hl 1 rfl) ?_
  refine lv_isub hx hb dX9_takeByHand_42 ?_
  refine lv_topi (fun x_15 ex_15 => ?_)
  have bx_15 : iv (-10) 7 x_15 := by rw [ex_15]; exact iv_sub bx_14 bx_8 (by decide)
  replace hR := tb hR ex_15
  refine va_gets hx hb hE.1.1 hS hown (hg _ q_3_129) (fun _ h9 => h9) dX9_takeByHand_43 ?_
  refine lv_iload_n hx hb dX9_takeByHand_46 rfl (lv_at hl 3 rfl) ?_
  refine va_ti (v := .int (pw a1.toNatClampNeg)) hx hb hE.1.2 hS (iv_in ba1 (by decide)) rfl dX9_takeByHand_47 ?_
  refine lv_topi (fun x_16 ex_16 => ?_)
  have bx_16 : iv 1 10000 x_16 := by rw [ex_16]; exact pw_iv ba1 (by decide)
  replace hR := tb hR ex_16
  refine lv_imul hx hb dX9_takeByHand_48 ?_
  refine lv_topi (fun x_17 ex_17 => ?_)
  replace hR := tb hR ex_17
  refine lv_iadd hx hb dX9_takeByHand_49 ?_
  refine lv_topi (fun x_18 ex_18 => ?_)
  replace hR := tb hR ex_18
  have hx_18 : x_18 = thF py0_12 a1 := (by rw [ex_18, ex_17, ex_16, ex_15, ex_14, ex_13, ex_12, ex_8, er_5, ex_4, er_1]; rfl)
  have bx_18 : iv 0 9999 x_18 := th_r bpy0_12 ba1 hf0 hx_18
  refine va_put (ci := 9) (v := .int x_18) (ty := .int) (C := RX9) (T := TX9) (N := 15) hx hb hg inX9 tyX9 tyX9_ok nmX9 hown hK hP hD hS 0 rfl rfl 12 (by decide) (hg _ q_2_48) (fun _ h9 => h9) rfl (by decide +kernel) rfl rfl (Nat.le_of_ble_eq_true rfl) dX9_takeByHand_50 (fun H locs hP hD hS => ?_)
  have hP : va_P V.1 vwCl [(y 0, .inr (9, o9_rirrrrrrrrvviii (y 1) py0_1 (y 2) (y 10) (y 19) (y 25) (y 26) (y 30) (y 31) (y 32) o10 o11 x_18 py0_13 py0_14))] H := hP
  have hD := cpD hP hD
  exact fiV hx hb hr hlk hK hP hD hS dX9_takeByHand_53 (Nat.le_of_ble_eq_true rfl) (Nat.le_of_ble_eq_true rfl) (⟨x_18, bx_18, (by rw [ex_18, ex_17, ex_16, ex_15, ex_14, ex_13, ex_12, ex_8, er_5, ex_4, er_1]; rfl), (hR.symm.trans hT0), rfl⟩)
theorem dX9_tryDeed_0 : decode cX9_tryDeed 0 = .ok (.lload_n 1, 1) := by decide +kernel
theorem q_3_189 : Cond.constantLong "BeaconDelay" 192 (10 : Int64) ∈ gw := gw_3 (i := 189) (by decide +kernel) rfl
theorem dX9_tryDeed_1 : decode cX9_tryDeed 1 = .ok (.ldc2_w 192, 3) := by decide +kernel
theorem dX9_tryDeed_4 : decode cX9_tryDeed 4 = .ok (.lcmp, 1) := by decide +kernel
theorem dX9_tryDeed_5 : decode cX9_tryDeed 5 = .ok (.ifCond .lt 36, 3) := by decide +kernel
theorem dX9_tryDeed_41 : decode cX9_tryDeed 41 = .ok (.lload_n 1, 1) := by decide +kernel
theorem q_3_199 : Cond.constantLong "BeaconDelay" 196 (20 : Int64) ∈ gw := gw_3 (i := 199) (by decide +kernel) rfl
theorem dX9_tryDeed_42 : decode cX9_tryDeed 42 = .ok (.ldc2_w 196, 3) := by decide +kernel
theorem dX9_tryDeed_45 : decode cX9_tryDeed 45 = .ok (.lcmp, 1) := by decide +kernel
theorem dX9_tryDeed_46 : decode cX9_tryDeed 46 = .ok (.ifCond .lt 22, 3) := by decide +kernel
theorem dX9_tryDeed_68 : decode cX9_tryDeed 68 = .ok (.aload_n 0, 1) := by decide +kernel
theorem dX9_tryDeed_69 : decode cX9_tryDeed 69 = .ok (.lload_n 1, 1) := by decide +kernel
theorem dX9_tryDeed_70 : decode cX9_tryDeed 70 = .ok (.invokevirtual 151, 3) := by decide +kernel
theorem dX9_tryDeed_73 : decode cX9_tryDeed 73 = .ok (.ifCond .ne 5, 3) := by decide +kernel
theorem dX9_tryDeed_78 : decode cX9_tryDeed 78 = .ok (.aload_n 0, 1) := by decide +kernel
theorem dX9_tryDeed_79 : decode cX9_tryDeed 79 = .ok (.aload_n 0, 1) := by decide +kernel
theorem dX9_tryDeed_80 : decode cX9_tryDeed 80 = .ok (.getfield 34, 3) := by decide +kernel
theorem dX9_tryDeed_83 : decode cX9_tryDeed 83 = .ok (.aload_n 0, 1) := by decide +kernel
theorem dX9_tryDeed_84 : decode cX9_tryDeed 84 = .ok (.getfield 113, 3) := by decide +kernel
theorem dX9_tryDeed_87 : decode cX9_tryDeed 87 = .ok (.aload_n 0, 1) := by decide +kernel
theorem dX9_tryDeed_88 : decode cX9_tryDeed 88 = .ok (.getfield 116, 3) := by decide +kernel
theorem dX9_tryDeed_91 : decode cX9_tryDeed 91 = .ok (.lload_n 1, 1) := by decide +kernel
theorem dX9_tryDeed_92 : decode cX9_tryDeed 92 = .ok (.l2i, 1) := by decide +kernel
theorem dX9_tryDeed_93 : decode cX9_tryDeed 93 = .ok (.invokevirtual 155, 3) := by decide +kernel
theorem dX9_tryDeed_96 : decode cX9_tryDeed 96 = .ok (.putfield 113, 3) := by decide +kernel
theorem dX9_tryDeed_99 : decode cX9_tryDeed 99 = .ok (.aload_n 0, 1) := by decide +kernel
theorem dX9_tryDeed_100 : decode cX9_tryDeed 100 = .ok (.dup, 1) := by decide +kernel
theorem dX9_tryDeed_101 : decode cX9_tryDeed 101 = .ok (.getfield 119, 3) := by decide +kernel
theorem dX9_tryDeed_104 : decode cX9_tryDeed 104 = .ok (.iconst 1, 1) := by decide +kernel
theorem dX9_tryDeed_105 : decode cX9_tryDeed 105 = .ok (.iadd, 1) := by decide +kernel
theorem dX9_tryDeed_106 : decode cX9_tryDeed 106 = .ok (.putfield 119, 3) := by decide +kernel
theorem dX9_tryDeed_109 : decode cX9_tryDeed 109 = .ok (.iconst 0, 1) := by decide +kernel
theorem dX9_tryDeed_110 : decode cX9_tryDeed 110 = .ok (.ireturn, 1) := by decide +kernel
theorem dX9_tryDeed_76 : decode cX9_tryDeed 76 = .ok (.iconst 1, 1) := by decide +kernel
theorem dX9_tryDeed_77 : decode cX9_tryDeed 77 = .ok (.ireturn, 1) := by decide +kernel
theorem dX9_tryDeed_49 : decode cX9_tryDeed 49 = .ok (.lload_n 1, 1) := by decide +kernel
theorem q_3_200 : Cond.constantLong "BeaconDelay" 198 (29 : Int64) ∈ gw := gw_3 (i := 200) (by decide +kernel) rfl
theorem dX9_tryDeed_50 : decode cX9_tryDeed 50 = .ok (.ldc2_w 198, 3) := by decide +kernel
theorem dX9_tryDeed_53 : decode cX9_tryDeed 53 = .ok (.lcmp, 1) := by decide +kernel
theorem dX9_tryDeed_54 : decode cX9_tryDeed 54 = .ok (.ifCond .gt 14, 3) := by decide +kernel
theorem dX9_tryDeed_57 : decode cX9_tryDeed 57 = .ok (.aload_n 0, 1) := by decide +kernel
theorem dX9_tryDeed_58 : decode cX9_tryDeed 58 = .ok (.lload_n 1, 1) := by decide +kernel
theorem dX9_tryDeed_59 : decode cX9_tryDeed 59 = .ok (.l2i, 1) := by decide +kernel
theorem dX9_tryDeed_60 : decode cX9_tryDeed 60 = .ok (.bipush 20, 2) := by decide +kernel
theorem dX9_tryDeed_62 : decode cX9_tryDeed 62 = .ok (.isub, 1) := by decide +kernel
theorem dX9_tryDeed_63 : decode cX9_tryDeed 63 = .ok (.putfield 116, 3) := by decide +kernel
theorem dX9_tryDeed_66 : decode cX9_tryDeed 66 = .ok (.iconst 0, 1) := by decide +kernel
theorem dX9_tryDeed_67 : decode cX9_tryDeed 67 = .ok (.ireturn, 1) := by decide +kernel
theorem dX9_tryDeed_8 : decode cX9_tryDeed 8 = .ok (.lload_n 1, 1) := by decide +kernel
theorem q_3_190 : Cond.constantLong "BeaconDelay" 194 (19 : Int64) ∈ gw := gw_3 (i := 190) (by decide +kernel) rfl
theorem dX9_tryDeed_9 : decode cX9_tryDeed 9 = .ok (.ldc2_w 194, 3) := by decide +kernel
theorem dX9_tryDeed_12 : decode cX9_tryDeed 12 = .ok (.lcmp, 1) := by decide +kernel
theorem dX9_tryDeed_13 : decode cX9_tryDeed 13 = .ok (.ifCond .gt 28, 3) := by decide +kernel
theorem dX9_tryDeed_16 : decode cX9_tryDeed 16 = .ok (.aload_n 0, 1) := by decide +kernel
theorem dX9_tryDeed_17 : decode cX9_tryDeed 17 = .ok (.lload_n 1, 1) := by decide +kernel
theorem dX9_tryDeed_18 : decode cX9_tryDeed 18 = .ok (.l2i, 1) := by decide +kernel
theorem dX9_tryDeed_19 : decode cX9_tryDeed 19 = .ok (.bipush 10, 2) := by decide +kernel
theorem dX9_tryDeed_21 : decode cX9_tryDeed 21 = .ok (.isub, 1) := by decide +kernel
theorem q_3_194 : Cond.code yX9_whyNoStealing prog_1_method_24_code 2 (some FieldType.int) ∈ gw := gw_3 (i := 194) (rfl) rfl
theorem q_3_193 : Cond.instanceMethod yX9_whyNoStealing ∈ gw := gw_3 (i := 193) (by decide +kernel) rfl
theorem q_s_28 : Cond.selects "BeaconDelay" yX9_whyNoStealing yX9_whyNoStealing ∈ gw := gw_s (i := 28) (by decide +kernel) rfl
theorem mt_X9_whyNoStealing : MtV yX9_whyNoStealing cX9_whyNoStealing 2 (some .int) 1 := ⟨⟨q_3_194, q_1_1, by decide +kernel, by decide +kernel, by decide +kernel⟩, q_3_193, q_s_28⟩
theorem q_3_191 : Cond.methodLink "BeaconDelay" 177 yX9_whyNoStealing ∈ gw := gw_3 (i := 191) (by decide +kernel) rfl
theorem dX9_tryDeed_22 : decode cX9_tryDeed 22 = .ok (.invokevirtual 177, 3) := by decide +kernel
theorem dX9_tryDeed_25 : decode cX9_tryDeed 25 = .ok (.istore_n 3, 1) := by decide +kernel
theorem dX9_tryDeed_26 : decode cX9_tryDeed 26 = .ok (.iload_n 3, 1) := by decide +kernel
theorem dX9_tryDeed_27 : decode cX9_tryDeed 27 = .ok (.ifCond .ne 12, 3) := by decide +kernel
theorem dX9_tryDeed_39 : decode cX9_tryDeed 39 = .ok (.iload_n 3, 1) := by decide +kernel
theorem dX9_tryDeed_40 : decode cX9_tryDeed 40 = .ok (.ireturn, 1) := by decide +kernel
theorem dX9_tryDeed_30 : decode cX9_tryDeed 30 = .ok (.aload_n 0, 1) := by decide +kernel
theorem dX9_tryDeed_31 : decode cX9_tryDeed 31 = .ok (.lload_n 1, 1) := by decide +kernel
theorem dX9_tryDeed_32 : decode cX9_tryDeed 32 = .ok (.l2i, 1) := by decide +kernel
theorem dX9_tryDeed_33 : decode cX9_tryDeed 33 = .ok (.bipush 10, 2) := by decide +kernel
theorem dX9_tryDeed_35 : decode cX9_tryDeed 35 = .ok (.isub, 1) := by decide +kernel
theorem q_3_198 : Cond.code yX9_takeByHand prog_1_method_25_code 4 none ∈ gw := gw_3 (i := 198) (rfl) rfl
theorem q_3_197 : Cond.instanceMethod yX9_takeByHand ∈ gw := gw_3 (i := 197) (by decide +kernel) rfl
theorem q_s_29 : Cond.selects "BeaconDelay" yX9_takeByHand yX9_takeByHand ∈ gw := gw_s (i := 29) (by decide +kernel) rfl
theorem mt_X9_takeByHand : MtV yX9_takeByHand cX9_takeByHand 4 none 1 := ⟨⟨q_3_198, q_1_1, by decide +kernel, by decide +kernel, by decide +kernel⟩, q_3_197, q_s_29⟩
theorem q_3_195 : Cond.methodLink "BeaconDelay" 180 yX9_takeByHand ∈ gw := gw_3 (i := 195) (by decide +kernel) rfl
theorem dX9_tryDeed_36 : decode cX9_tryDeed 36 = .ok (.invokevirtual 180, 3) := by decide +kernel
set_option maxRecDepth 100000 in
noncomputable def F_k_X9_tryDeed_0 (D9 : Nat → Int32) (k1 : Int64) (py0_12 : Int32) (py0_13 : Int32) (py0_14 : Int32) (py2_1 : Int32) : Int32 × Int32 × Int32 × Int32 := if k1 < (10 : Int64) then (if k1 < (20 : Int64) then (bnd (F_k_X9_isNight_0 k1 py2_1 : Int32) fun (r_4 : Int32) => if r_4 = (0 : Int32) then (((1 : Int32), py0_12, py0_13, py0_14)) else (bnd (k1.toInt32 : Int32) fun (x_9 : Int32) => bnd (bhS D9 py0_12 py0_13 x_9 (py2_1 : Int32).toNatClampNeg : Int32) fun (r_10 : Int32) => bnd (py0_14 + (1 : Int32) : Int32) fun (x_16 : Int32) => ((0 : Int32), r_10, py0_13, x_16))) else (if (29 : Int64) < k1 then (bnd (F_k_X9_isNight_0 k1 py2_1 : Int32) fun (r_21 : Int32) => if r_21 = (0 : Int32) then (((1 : Int32), py0_12, py0_13, py0_14)) else (bnd (k1.toInt32 : Int32) fun (x_26 : Int32) => bnd (bhS D9 py0_12 py0_13 x_26 (py2_1 : Int32).toNatClampNeg : Int32) fun (r_27 : Int32) => bnd (py0_14 + (1 : Int32) : Int32) fun (x_33 : Int32) => ((0 : Int32), r_27, py0_13, x_33))) else (bnd (k1.toInt32 : Int32) fun (x_35 : Int32) => bnd (x_35 - (20 : Int32) : Int32) fun (x_36 : Int32) => ((0 : Int32), py0_12, x_36, py0_14)))) else (if (19 : Int64) < k1 then (if k1 < (20 : Int64) then (bnd (F_k_X9_isNight_0 k1 py2_1 : Int32) fun (r_42 : Int32) => if r_42 = (0 : Int32) then (((1 : Int32), py0_12, py0_13, py0_14)) else (bnd (k1.toInt32 : Int32) fun (x_47 : Int32) => bnd (bhS D9 py0_12 py0_13 x_47 (py2_1 : Int32).toNatClampNeg : Int32) fun (r_48 : Int32) => bnd (py0_14 + (1 : Int32) : Int32) fun (x_54 : Int32) => ((0 : Int32), r_48, py0_13, x_54))) else (if (29 : Int64) < k1 then (bnd (F_k_X9_isNight_0 k1 py2_1 : Int32) fun (r_58 : Int32) => if r_58 = (0 : Int32) then (((1 : Int32), py0_12, py0_13, py0_14)) else (bnd (k1.toInt32 : Int32) fun (x_63 : Int32) => bnd (bhS D9 py0_12 py0_13 x_63 (py2_1 : Int32).toNatClampNeg : Int32) fun (r_64 : Int32) => bnd (py0_14 + (1 : Int32) : Int32) fun (x_70 : Int32) => ((0 : Int32), r_64, py0_13, x_70))) else (bnd (k1.toInt32 : Int32) fun (x_73 : Int32) => bnd (x_73 - (20 : Int32) : Int32) fun (x_74 : Int32) => ((0 : Int32), py0_12, x_74, py0_14)))) else (bnd (k1.toInt32 : Int32) fun (x_76 : Int32) => bnd (x_76 - (10 : Int32) : Int32) fun (x_77 : Int32) => if F_k_X9_whyNoStealing_0 x_77 py0_12 py2_1 = 0 then (default) else (if F_k_X9_whyNoStealing_0 x_77 py0_12 py2_1 = 1 then (((1 : Int32), py0_12, py0_13, py0_14)) else (if F_k_X9_whyNoStealing_0 x_77 py0_12 py2_1 = 2 then (bnd (F_k_X9_takeByHand_0 x_77 py0_12 : Int32) fun (v_100 : Int32) => ((0 : Int32), v_100, py0_13, py0_14)) else (((2 : Int32), py0_12, py0_13, py0_14))))))
set_option maxHeartbeats 4000000 in
set_option maxRecDepth 100000 in
theorem k_X9_tryDeed_0 (l : Launch) (V : GV) (y : Nat → Nat) (D9 : Nat → Int32) (k1 : Int64) (fy3 : Nat → Int32) (fy9 : Nat → Int32) (fy20 : Nat → Int32) (fy21 : Nat → Int32) (fy22 : Nat → Int32) (py0_1 : Int32) (o10 : Value) (o11 : Value) (py0_12 : Int32) (py0_13 : Int32) (py0_14 : Int32) (py2_0 : Int32) (py2_1 : Int32) (py2_2 : Int32) (py2_3 : Int32) (py2_4 : Int32) (py2_5 : Int32) (py2_13 : Int32) (py2_14 : Int32) (py2_15 : Int32) (py2_16 : Int32) (py2_17 : Int32) (tfy20 : ∀ j, iv 0 10 (fy20 j)) (bpy0_1 : iv 0 900 py0_1) (bpy0_12 : iv 0 9999 py0_12) (bpy0_13 : iv 0 9 py0_13) (bpy2_1 : iv 0 4 py2_1) (bpy2_2 : iv 0 4 py2_2) (bpy2_3 : iv 0 8 py2_3) (bpy2_4 : iv 0 9999 py2_4) (bpy2_5 : iv 0 9 py2_5) (bpy2_13 : iv 0 900 py2_13) (bpy2_14 : iv 0 900 py2_14) (bpy2_15 : iv 0 900 py2_15) (bpy2_16 : iv 0 900 py2_16) (bpy2_17 : iv 0 900 py2_17) (hL9 : LW D9 fy3 fy9 py2_14 py2_15 py2_16 py2_17) (hK9 : KN D9 fy20) : Ct l V yX9_tryDeed (.code yX9_tryDeed cX9_tryDeed 4 (some .int)) 6 [.ref (y 0), .long k1] [(y 3, aI V 4 fy3), (y 9, aI V 900 fy9), (y 19, .inr (4, o4_rrrrrr (y 2) (y 20) (y 21) (y 22) (y 23) (y 24))), (y 20, aI V 2000 fy20), (y 21, aI V 6 fy21), (y 22, aI V 64 fy22), (y 0, .inr (9, o9_rirrrrrrrrvviii (y 1) py0_1 (y 2) (y 10) (y 19) (y 25) (y 26) (y 30) (y 31) (y 32) o10 o11 py0_12 py0_13 py0_14)), (y 2, .inr (1, o1_iiiiiirrrrrrriiiii py2_0 py2_1 py2_2 py2_3 py2_4 py2_5 (y 3) (y 4) (y 5) (y 6) (y 7) (y 8) (y 9) py2_13 py2_14 py2_15 py2_16 py2_17))] 0 0 (QI V (fun (r : Int32) (w : va_W) => ∃ (g0 : Nat → Int32) (g1 : Nat → Int32) (g2 : Nat → Int32) (v3 : Int32) (v4 : Int32) (v5 : Int32), (∀ j, iv 0 10 (g0 j)) ∧ iv 0 9999 v3 ∧ iv 0 9 v4 ∧ iv 0 2 r ∧ r = (F_k_X9_tryDeed_0 D9 k1 py0_12 py0_13 py0_14 py2_1).1 ∧ v3 = (F_k_X9_tryDeed_0 D9 k1 py0_12 py0_13 py0_14 py2_1).2.1 ∧ v4 = (F_k_X9_tryDeed_0 D9 k1 py0_12 py0_13 py0_14 py2_1).2.2.1 ∧ v5 = (F_k_X9_tryDeed_0 D9 k1 py0_12 py0_13 py0_14 py2_1).2.2.2 ∧ KN D9 g0 ∧ w = [(y 3, aI V 4 fy3), (y 9, aI V 900 fy9), (y 19, .inr (4, o4_rrrrrr (y 2) (y 20) (y 21) (y 22) (y 23) (y 24))), (y 20, aI V 2000 g0), (y 21, aI V 6 g1), (y 22, aI V 64 g2), (y 0, .inr (9, o9_rirrrrrrrrvviii (y 1) py0_1 (y 2) (y 10) (y 19) (y 25) (y 26) (y 30) (y 31) (y 32) o10 o11 v3 v4 v5)), (y 2, .inr (1, o1_iiiiiirrrrrrriiiii py2_0 py2_1 py2_2 py2_3 py2_4 py2_5 (y 3) (y 4) (y 5) (y 6) (y 7) (y 8) (y 9) py2_13 py2_14 py2_15 py2_16 py2_17))])) := by
  refine Ct.of (by decide) (Nat.le_of_ble_eq_true rfl) (fun p e s m below meth c A ls hx hb hr hml hown hlk hnm hg hP hK hD hE hA hS hl => ?_)
  have hl : lv_has ls 4 [(0, .ref (y 0)), (1, .long k1)] := hl
  obtain ⟨T0, hT0⟩ : ∃ T9, T9 = F_k_X9_tryDeed_0 D9 k1 py0_12 py0_13 py0_14 py2_1 := ⟨_, rfl⟩
  have hR := hT0.trans (F_k_X9_tryDeed_0.eq_1 ..)
  refine lv_lload_n hx hb dX9_tryDeed_0 rfl (lv_at hl 1 rfl) ?_
  refine lv_ldc2 (v := 10) hx hb hown (hg _ q_3_189) dX9_tryDeed_1 ?_
  refine W.lcmp hx hb dX9_tryDeed_4 ?_
  refine lv_if_lt (tgt := 41) hx hb dX9_tryDeed_5 (by decide) (fun c_1 => ?_) (fun c_1 => ?_)
  · replace c_1 : k1 < (10 : Int64) := (lg_cmp_lt _ _).mp c_1
    replace hR := ti hR c_1
    have b_2 : ivL (-9223372036854775808) 9 k1 := ivL_l1 c_1 (ivL_top k1) (ivL_c (10 : Int64) (a := 10) (b := 10) (by decide)) (by decide)
    refine lv_lload_n hx hb dX9_tryDeed_41 rfl (lv_at hl 1 rfl) ?_
    refine lv_ldc2 (v := 20) hx hb hown (hg _ q_3_199) dX9_tryDeed_42 ?_
    refine W.lcmp hx hb dX9_tryDeed_45 ?_
    refine lv_if_lt (tgt := 68) hx hb dX9_tryDeed_46 (by decide) (fun c_3 => ?_) (fun c_3 => ?_)
    · replace c_3 : k1 < (20 : Int64) := (lg_cmp_lt _ _).mp c_3
      replace hR := ti hR c_3
      refine lv_aload_n hx hb dX9_tryDeed_68 rfl (lv_at hl 0 rfl) ?_
      refine lv_lload_n hx hb dX9_tryDeed_69 rfl (lv_at hl 1 rfl) ?_
      refine jnI (wr := [(y 3, aI V 4 fy3), (y 9, aI V 900 fy9), (y 19, .inr (4, o4_rrrrrr (y 2) (y 20) (y 21) (y 22) (y 23) (y 24))), (y 20, aI V 2000 fy20), (y 21, aI V 6 fy21), (y 22, aI V 64 fy22)]) (rnV (rest := []) ⟨hx, hb, hml, hown, hg⟩ (k_X9_isNight_0 l V y k1 py0_1 o10 o11 py0_12 py0_13 py0_14 py2_0 py2_1 py2_2 py2_3 py2_4 py2_5 py2_13 py2_14 py2_15 py2_16 py2_17 bpy0_1 bpy0_12 bpy0_13 bpy2_1 bpy2_2 bpy2_3 bpy2_4 bpy2_5 bpy2_13 bpy2_14 bpy2_15 bpy2_16 bpy2_17) mt_X9_isNight q_3_141 ⟨Nat.le_of_ble_eq_true rfl, Nat.le_of_ble_eq_true rfl⟩ hK hP hD hS hA hE [6, 7] rfl rfl 6 rfl rfl rfl rfl hl.1 rfl (Nat.le_of_ble_eq_true rfl) dX9_tryDeed_70 ⟨Nat.le_of_ble_eq_true rfl, Nat.le_of_ble_eq_true rfl⟩) hP hD hS hA [6, 7] [0, 1, 2, 3, 4, 5] rfl rfl rfl (by decide) (fun r_4 w H locs hw hP hD hS => ?_)
      obtain ⟨br_4, et_5, rfl⟩ := hw
      replace hR := tb hR et_5
      have hP : va_P V.1 vwCl [(y 3, aI V 4 fy3), (y 9, aI V 900 fy9), (y 19, .inr (4, o4_rrrrrr (y 2) (y 20) (y 21) (y 22) (y 23) (y 24))), (y 20, aI V 2000 fy20), (y 21, aI V 6 fy21), (y 22, aI V 64 fy22), (y 0, .inr (9, o9_rirrrrrrrrvviii (y 1) py0_1 (y 2) (y 10) (y 19) (y 25) (y 26) (y 30) (y 31) (y 32) o10 o11 py0_12 py0_13 py0_14)), (y 2, .inr (1, o1_iiiiiirrrrrrriiiii py2_0 py2_1 py2_2 py2_3 py2_4 py2_5 (y 3) (y 4) (y 5) (y 6) (y 7) (y 8) (y 9) py2_13 py2_14 py2_15 py2_16 py2_17))] H := hP
      have hD := cpD hP hD
      refine lv_if_ne (tgt := 78) hx hb dX9_tryDeed_73 (by decide) (fun c_7 => ?_) (fun c_7 => ?_)
      · replace hR := te hR c_7
        have b_8 : iv 1 1 r_4 := iv_n0 c_7 br_4 (iv_c (0 : Int32) (a := 0) (b := 0) (by decide)) (by decide)
        refine lv_aload_n hx hb dX9_tryDeed_78 rfl (lv_at hl 0 rfl) ?_
        refine lv_aload_n hx hb dX9_tryDeed_79 rfl (lv_at hl 0 rfl) ?_
        refine va_get (ci := 9) (v := .ref (y 19)) (C := RX9) (T := TX9) (N := 15) hx hb hg inX9 hown hK hP 6 rfl rfl 4 (by decide) (hg _ q_2_40) (fun _ h9 => h9) rfl dX9_tryDeed_80 ?_
        refine lv_aload_n hx hb dX9_tryDeed_83 rfl (lv_at hl 0 rfl) ?_
        refine va_get (ci := 9) (v := .int py0_12) (C := RX9) (T := TX9) (N := 15) hx hb hg inX9 hown hK hP 6 rfl rfl 12 (by decide) (hg _ q_2_48) (fun _ h9 => h9) rfl dX9_tryDeed_84 ?_
        refine lv_aload_n hx hb dX9_tryDeed_87 rfl (lv_at hl 0 rfl) ?_
        refine va_get (ci := 9) (v := .int py0_13) (C := RX9) (T := TX9) (N := 15) hx hb hg inX9 hown hK hP 6 rfl rfl 13 (by decide) (hg _ q_2_49) (fun _ h9 => h9) rfl dX9_tryDeed_88 ?_
        refine lv_lload_n hx hb dX9_tryDeed_91 rfl (lv_at hl 1 rfl) ?_
        refine lv_l2i hx hb dX9_tryDeed_92 rfl ?_
        refine lv_topi (fun x_9 ex_9 => ?_)
        replace hR := tb hR ex_9
        refine jnI (wr := [(y 0, .inr (9, o9_rirrrrrrrrvviii (y 1) py0_1 (y 2) (y 10) (y 19) (y 25) (y 26) (y 30) (y 31) (y 32) o10 o11 py0_12 py0_13 py0_14))]) (rnV (rest := [.ref (y 0)]) ⟨hx, hb, hml, hown, hg⟩ (k_X4_behind_0 l V y py0_12 py0_13 x_9 fy3 fy9 fy20 fy21 fy22 py2_0 py2_1 py2_2 py2_3 py2_4 py2_5 py2_13 py2_14 py2_15 py2_16 py2_17 bpy0_12 bpy0_13 tfy20 bpy2_1 bpy2_2 bpy2_3 bpy2_4 bpy2_5 bpy2_13 bpy2_14 bpy2_15 bpy2_16 bpy2_17) mt_X4_behind q_3_145 ⟨Nat.le_of_ble_eq_true rfl, Nat.le_of_ble_eq_true rfl⟩ hK hP hD hS hA hE [0, 1, 2, 3, 4, 5, 7] rfl rfl 2 rfl rfl rfl rfl hl.1 rfl (Nat.le_of_ble_eq_true rfl) dX9_tryDeed_93 ⟨Nat.le_of_ble_eq_true rfl, Nat.le_of_ble_eq_true rfl⟩) hP hD hS hA [0, 1, 2, 3, 4, 5, 7] [6] rfl rfl rfl (by decide) (fun r_10 w H locs hw hP hD hS => ?_)
        obtain ⟨f_11, f_12, f_13, tf_11, br_10, g_14, rfl⟩ := hw
        have qkn_15 := g_14 D9 hL9 hK9
        have er_10 : r_10 = bhS D9 py0_12 py0_13 x_9 (py2_1 : Int32).toNatClampNeg := qkn_15.1
        have kn_15 := qkn_15.2
        replace hR := tb hR er_10
        have hP : va_P V.1 vwCl [(y 0, .inr (9, o9_rirrrrrrrrvviii (y 1) py0_1 (y 2) (y 10) (y 19) (y 25) (y 26) (y 30) (y 31) (y 32) o10 o11 py0_12 py0_13 py0_14)), (y 3, aI V 4 fy3), (y 9, aI V 900 fy9), (y 19, .inr (4, o4_rrrrrr (y 2) (y 20) (y 21) (y 22) (y 23) (y 24))), (y 20, aI V 2000 f_11), (y 21, aI V 6 f_12), (y 22, aI V 64 f_13), (y 2, .inr (1, o1_iiiiiirrrrrrriiiii py2_0 py2_1 py2_2 py2_3 py2_4 py2_5 (y 3) (y 4) (y 5) (y 6) (y 7) (y 8) (y 9) py2_13 py2_14 py2_15 py2_16 py2_17))] H := hP
        have hD := cpD hP hD
        refine va_put (ci := 9) (v := .int r_10) (ty := .int) (C := RX9) (T := TX9) (N := 15) hx hb hg inX9 tyX9 tyX9_ok nmX9 hown hK hP hD hS 0 rfl rfl 12 (by decide) (hg _ q_2_48) (fun _ h9 => h9) rfl (by decide +kernel) rfl rfl (Nat.le_of_ble_eq_true rfl) dX9_tryDeed_96 (fun H locs hP hD hS => ?_)
        have hP : va_P V.1 vwCl [(y 0, .inr (9, o9_rirrrrrrrrvviii (y 1) py0_1 (y 2) (y 10) (y 19) (y 25) (y 26) (y 30) (y 31) (y 32) o10 o11 r_10 py0_13 py0_14)), (y 3, aI V 4 fy3), (y 9, aI V 900 fy9), (y 19, .inr (4, o4_rrrrrr (y 2) (y 20) (y 21) (y 22) (y 23) (y 24))), (y 20, aI V 2000 f_11), (y 21, aI V 6 f_12), (y 22, aI V 64 f_13), (y 2, .inr (1, o1_iiiiiirrrrrrriiiii py2_0 py2_1 py2_2 py2_3 py2_4 py2_5 (y 3) (y 4) (y 5) (y 6) (y 7) (y 8) (y 9) py2_13 py2_14 py2_15 py2_16 py2_17))] H := hP
        have hD := cpD hP hD
        refine lv_aload_n hx hb dX9_tryDeed_99 rfl (lv_at hl 0 rfl) ?_
        refine lv_dup hx hb dX9_tryDeed_100 rfl ?_
        refine va_get (ci := 9) (v := .int py0_14) (C := RX9) (T := TX9) (N := 15) hx hb hg inX9 hown hK hP 0 rfl rfl 14 (by decide) (hg _ q_2_50) (fun _ h9 => h9) rfl dX9_tryDeed_101 ?_
        refine lv_iconst (v := 1) hx hb dX9_tryDeed_104 (by decide) ?_
        refine lv_iadd hx hb dX9_tryDeed_105 ?_
        refine lv_topi (fun x_16 ex_16 => ?_)
        replace hR := tb hR ex_16
        refine va_put (ci := 9) (v := .int x_16) (ty := .int) (C := RX9) (T := TX9) (N := 15) hx hb hg inX9 tyX9 tyX9_ok nmX9 hown hK hP hD hS 0 rfl rfl 14 (by decide) (hg _ q_2_50) (fun _ h9 => h9) rfl (by decide +kernel) rfl rfl (Nat.le_of_ble_eq_true rfl) dX9_tryDeed_106 (fun H locs hP hD hS => ?_)
        have hP : va_P V.1 vwCl [(y 0, .inr (9, o9_rirrrrrrrrvviii (y 1) py0_1 (y 2) (y 10) (y 19) (y 25) (y 26) (y 30) (y 31) (y 32) o10 o11 r_10 py0_13 x_16)), (y 3, aI V 4 fy3), (y 9, aI V 900 fy9), (y 19, .inr (4, o4_rrrrrr (y 2) (y 20) (y 21) (y 22) (y 23) (y 24))), (y 20, aI V 2000 f_11), (y 21, aI V 6 f_12), (y 22, aI V 64 f_13), (y 2, .inr (1, o1_iiiiiirrrrrrriiiii py2_0 py2_1 py2_2 py2_3 py2_4 py2_5 (y 3) (y 4) (y 5) (y 6) (y 7) (y 8) (y 9) py2_13 py2_14 py2_15 py2_16 py2_17))] H := hP
        have hD := cpD hP hD
        refine lv_iconst (v := 0) hx hb dX9_tryDeed_109 (by decide) ?_
        have hP := subP (ws' := [(y 3, aI V 4 fy3), (y 9, aI V 900 fy9), (y 19, .inr (4, o4_rrrrrr (y 2) (y 20) (y 21) (y 22) (y 23) (y 24))), (y 20, aI V 2000 f_11), (y 21, aI V 6 f_12), (y 22, aI V 64 f_13), (y 0, .inr (9, o9_rirrrrrrrrvviii (y 1) py0_1 (y 2) (y 10) (y 19) (y 25) (y 26) (y 30) (y 31) (y 32) o10 o11 r_10 py0_13 x_16)), (y 2, .inr (1, o1_iiiiiirrrrrrriiiii py2_0 py2_1 py2_2 py2_3 py2_4 py2_5 (y 3) (y 4) (y 5) (y 6) (y 7) (y 8) (y 9) py2_13 py2_14 py2_15 py2_16 py2_17))]) hP [1, 2, 3, 4, 5, 6, 0, 7] rfl
        have hD := subD hP hD [1, 2, 3, 4, 5, 6, 0, 7] rfl rfl
        exact fiI hx hb hr hlk hK hP hD hS dX9_tryDeed_110 (Nat.le_of_ble_eq_true rfl) (Nat.le_of_ble_eq_true rfl) (⟨f_11, f_12, f_13, r_10, py0_13, x_16, tf_11, br_10, bpy0_13, (iv_c (0 : Int32) (by decide)), (congrArg Prod.fst (hR.symm.trans hT0)), (congrArg Prod.fst (congrArg Prod.snd (hR.symm.trans hT0))), (congrArg Prod.fst (congrArg Prod.snd (congrArg Prod.snd (hR.symm.trans hT0)))), (congrArg Prod.snd (congrArg Prod.snd (congrArg Prod.snd (hR.symm.trans hT0)))), kn_15, rfl⟩)
      · replace hR := ti hR c_7
        have b_17 : iv 0 0 r_4 := iv_q c_7 (iv_c (0 : Int32) (a := 0) (b := 0) (by decide))
        refine lv_iconst (v := 1) hx hb dX9_tryDeed_76 (by decide) ?_
        exact fiI hx hb hr hlk hK hP hD hS dX9_tryDeed_77 (Nat.le_of_ble_eq_true rfl) (Nat.le_of_ble_eq_true rfl) (⟨fy20, fy21, fy22, py0_12, py0_13, py0_14, tfy20, bpy0_12, bpy0_13, (iv_c (1 : Int32) (by decide)), (congrArg Prod.fst (hR.symm.trans hT0)), (congrArg Prod.fst (congrArg Prod.snd (hR.symm.trans hT0))), (congrArg Prod.fst (congrArg Prod.snd (congrArg Prod.snd (hR.symm.trans hT0)))), (congrArg Prod.snd (congrArg Prod.snd (congrArg Prod.snd (hR.symm.trans hT0)))), hK9, rfl⟩)
    · replace c_3 : ¬ k1 < (20 : Int64) := fun z => c_3 ((lg_cmp_lt _ _).mpr z)
      replace hR := te hR c_3
      have b_18 : ivL 20 9 k1 := ivL_e2 (Int64.not_lt.mp c_3) (ivL_c (20 : Int64) (a := 20) (b := 20) (by decide)) b_2 (by decide)
      refine lv_lload_n hx hb dX9_tryDeed_49 rfl (lv_at hl 1 rfl) ?_
      refine lv_ldc2 (v := 29) hx hb hown (hg _ q_3_200) dX9_tryDeed_50 ?_
      refine W.lcmp hx hb dX9_tryDeed_53 ?_
      refine lv_if_gt (tgt := 68) hx hb dX9_tryDeed_54 (by decide) (fun c_19 => ?_) (fun c_19 => ?_)
      · replace c_19 : (29 : Int64) < k1 := (lg_cmp_gt _ _).mp c_19
        replace hR := ti hR c_19
        have b_20 : ivL 30 9 k1 := ivL_l2 c_19 (ivL_c (29 : Int64) (a := 29) (b := 29) (by decide)) b_18 (by decide)
        refine lv_aload_n hx hb dX9_tryDeed_68 rfl (lv_at hl 0 rfl) ?_
        refine lv_lload_n hx hb dX9_tryDeed_69 rfl (lv_at hl 1 rfl) ?_
        refine jnI (wr := [(y 3, aI V 4 fy3), (y 9, aI V 900 fy9), (y 19, .inr (4, o4_rrrrrr (y 2) (y 20) (y 21) (y 22) (y 23) (y 24))), (y 20, aI V 2000 fy20), (y 21, aI V 6 fy21), (y 22, aI V 64 fy22)]) (rnV (rest := []) ⟨hx, hb, hml, hown, hg⟩ (k_X9_isNight_0 l V y k1 py0_1 o10 o11 py0_12 py0_13 py0_14 py2_0 py2_1 py2_2 py2_3 py2_4 py2_5 py2_13 py2_14 py2_15 py2_16 py2_17 bpy0_1 bpy0_12 bpy0_13 bpy2_1 bpy2_2 bpy2_3 bpy2_4 bpy2_5 bpy2_13 bpy2_14 bpy2_15 bpy2_16 bpy2_17) mt_X9_isNight q_3_141 ⟨Nat.le_of_ble_eq_true rfl, Nat.le_of_ble_eq_true rfl⟩ hK hP hD hS hA hE [6, 7] rfl rfl 6 rfl rfl rfl rfl hl.1 rfl (Nat.le_of_ble_eq_true rfl) dX9_tryDeed_70 ⟨Nat.le_of_ble_eq_true rfl, Nat.le_of_ble_eq_true rfl⟩) hP hD hS hA [6, 7] [0, 1, 2, 3, 4, 5] rfl rfl rfl (by decide) (fun r_21 w H locs hw hP hD hS => ?_)
        obtain ⟨br_21, et_22, rfl⟩ := hw
        replace hR := tb hR et_22
        have hP : va_P V.1 vwCl [(y 3, aI V 4 fy3), (y 9, aI V 900 fy9), (y 19, .inr (4, o4_rrrrrr (y 2) (y 20) (y 21) (y 22) (y 23) (y 24))), (y 20, aI V 2000 fy20), (y 21, aI V 6 fy21), (y 22, aI V 64 fy22), (y 0, .inr (9, o9_rirrrrrrrrvviii (y 1) py0_1 (y 2) (y 10) (y 19) (y 25) (y 26) (y 30) (y 31) (y 32) o10 o11 py0_12 py0_13 py0_14)), (y 2, .inr (1, o1_iiiiiirrrrrrriiiii py2_0 py2_1 py2_2 py2_3 py2_4 py2_5 (y 3) (y 4) (y 5) (y 6) (y 7) (y 8) (y 9) py2_13 py2_14 py2_15 py2_16 py2_17))] H := hP
        have hD := cpD hP hD
        refine lv_if_ne (tgt := 78) hx hb dX9_tryDeed_73 (by decide) (fun c_24 => ?_) (fun c_24 => ?_)
        · replace hR := te hR c_24
          have b_25 : iv 1 1 r_21 := iv_n0 c_24 br_21 (iv_c (0 : Int32) (a := 0) (b := 0) (by decide)) (by decide)
          refine lv_aload_n hx hb dX9_tryDeed_78 rfl (lv_at hl 0 rfl) ?_
          refine lv_aload_n hx hb dX9_tryDeed_79 rfl (lv_at hl 0 rfl) ?_
          refine va_get (ci := 9) (v := .ref (y 19)) (C := RX9) (T := TX9) (N := 15) hx hb hg inX9 hown hK hP 6 rfl rfl 4 (by decide) (hg _ q_2_40) (fun _ h9 => h9) rfl dX9_tryDeed_80 ?_
          refine lv_aload_n hx hb dX9_tryDeed_83 rfl (lv_at hl 0 rfl) ?_
          refine va_get (ci := 9) (v := .int py0_12) (C := RX9) (T := TX9) (N := 15) hx hb hg inX9 hown hK hP 6 rfl rfl 12 (by decide) (hg _ q_2_48) (fun _ h9 => h9) rfl dX9_tryDeed_84 ?_
          refine lv_aload_n hx hb dX9_tryDeed_87 rfl (lv_at hl 0 rfl) ?_
          refine va_get (ci := 9) (v := .int py0_13) (C := RX9) (T := TX9) (N := 15) hx hb hg inX9 hown hK hP 6 rfl rfl 13 (by decide) (hg _ q_2_49) (fun _ h9 => h9) rfl dX9_tryDeed_88 ?_
          refine lv_lload_n hx hb dX9_tryDeed_91 rfl (lv_at hl 1 rfl) ?_
          refine lv_l2i hx hb dX9_tryDeed_92 rfl ?_
          refine lv_topi (fun x_26 ex_26 => ?_)
          have bx_26 : iv 30 9 x_26 := by rw [ex_26]; exact iv_ofL b_20 (by decide)
          replace hR := tb hR ex_26
          refine jnI (wr := [(y 0, .inr (9, o9_rirrrrrrrrvviii (y 1) py0_1 (y 2) (y 10) (y 19) (y 25) (y 26) (y 30) (y 31) (y 32) o10 o11 py0_12 py0_13 py0_14))]) (rnV (rest := [.ref (y 0)]) ⟨hx, hb, hml, hown, hg⟩ (k_X4_behind_0 l V y py0_12 py0_13 x_26 fy3 fy9 fy20 fy21 fy22 py2_0 py2_1 py2_2 py2_3 py2_4 py2_5 py2_13 py2_14 py2_15 py2_16 py2_17 bpy0_12 bpy0_13 tfy20 bpy2_1 bpy2_2 bpy2_3 bpy2_4 bpy2_5 bpy2_13 bpy2_14 bpy2_15 bpy2_16 bpy2_17) mt_X4_behind q_3_145 ⟨Nat.le_of_ble_eq_true rfl, Nat.le_of_ble_eq_true rfl⟩ hK hP hD hS hA hE [0, 1, 2, 3, 4, 5, 7] rfl rfl 2 rfl rfl rfl rfl hl.1 rfl (Nat.le_of_ble_eq_true rfl) dX9_tryDeed_93 ⟨Nat.le_of_ble_eq_true rfl, Nat.le_of_ble_eq_true rfl⟩) hP hD hS hA [0, 1, 2, 3, 4, 5, 7] [6] rfl rfl rfl (by decide) (fun r_27 w H locs hw hP hD hS => ?_)
          obtain ⟨f_28, f_29, f_30, tf_28, br_27, g_31, rfl⟩ := hw
          have qkn_32 := g_31 D9 hL9 hK9
          have er_27 : r_27 = bhS D9 py0_12 py0_13 x_26 (py2_1 : Int32).toNatClampNeg := qkn_32.1
          have kn_32 := qkn_32.2
          replace hR := tb hR er_27
          have hP : va_P V.1 vwCl [(y 0, .inr (9, o9_rirrrrrrrrvviii (y 1) py0_1 (y 2) (y 10) (y 19) (y 25) (y 26) (y 30) (y 31) (y 32) o10 o11 py0_12 py0_13 py0_14)), (y 3, aI V 4 fy3), (y 9, aI V 900 fy9), (y 19, .inr (4, o4_rrrrrr (y 2) (y 20) (y 21) (y 22) (y 23) (y 24))), (y 20, aI V 2000 f_28), (y 21, aI V 6 f_29), (y 22, aI V 64 f_30), (y 2, .inr (1, o1_iiiiiirrrrrrriiiii py2_0 py2_1 py2_2 py2_3 py2_4 py2_5 (y 3) (y 4) (y 5) (y 6) (y 7) (y 8) (y 9) py2_13 py2_14 py2_15 py2_16 py2_17))] H := hP
          have hD := cpD hP hD
          refine va_put (ci := 9) (v := .int r_27) (ty := .int) (C := RX9) (T := TX9) (N := 15) hx hb hg inX9 tyX9 tyX9_ok nmX9 hown hK hP hD hS 0 rfl rfl 12 (by decide) (hg _ q_2_48) (fun _ h9 => h9) rfl (by decide +kernel) rfl rfl (Nat.le_of_ble_eq_true rfl) dX9_tryDeed_96 (fun H locs hP hD hS => ?_)
          have hP : va_P V.1 vwCl [(y 0, .inr (9, o9_rirrrrrrrrvviii (y 1) py0_1 (y 2) (y 10) (y 19) (y 25) (y 26) (y 30) (y 31) (y 32) o10 o11 r_27 py0_13 py0_14)), (y 3, aI V 4 fy3), (y 9, aI V 900 fy9), (y 19, .inr (4, o4_rrrrrr (y 2) (y 20) (y 21) (y 22) (y 23) (y 24))), (y 20, aI V 2000 f_28), (y 21, aI V 6 f_29), (y 22, aI V 64 f_30), (y 2, .inr (1, o1_iiiiiirrrrrrriiiii py2_0 py2_1 py2_2 py2_3 py2_4 py2_5 (y 3) (y 4) (y 5) (y 6) (y 7) (y 8) (y 9) py2_13 py2_14 py2_15 py2_16 py2_17))] H := hP
          have hD := cpD hP hD
          refine lv_aload_n hx hb dX9_tryDeed_99 rfl (lv_at hl 0 rfl) ?_
          refine lv_dup hx hb dX9_tryDeed_100 rfl ?_
          refine va_get (ci := 9) (v := .int py0_14) (C := RX9) (T := TX9) (N := 15) hx hb hg inX9 hown hK hP 0 rfl rfl 14 (by decide) (hg _ q_2_50) (fun _ h9 => h9) rfl dX9_tryDeed_101 ?_
          refine lv_iconst (v := 1) hx hb dX9_tryDeed_104 (by decide) ?_
          refine lv_iadd hx hb dX9_tryDeed_105 ?_
          refine lv_topi (fun x_33 ex_33 => ?_)
          replace hR := tb hR ex_33
          refine va_put (ci := 9) (v := .int x_33) (ty := .int) (C := RX9) (T := TX9) (N := 15) hx hb hg inX9 tyX9 tyX9_ok nmX9 hown hK hP hD hS 0 rfl rfl 14 (by decide) (hg _ q_2_50) (fun _ h9 => h9) rfl (by decide +kernel) rfl rfl (Nat.le_of_ble_eq_true rfl) dX9_tryDeed_106 (fun H locs hP hD hS => ?_)
          have hP : va_P V.1 vwCl [(y 0, .inr (9, o9_rirrrrrrrrvviii (y 1) py0_1 (y 2) (y 10) (y 19) (y 25) (y 26) (y 30) (y 31) (y 32) o10 o11 r_27 py0_13 x_33)), (y 3, aI V 4 fy3), (y 9, aI V 900 fy9), (y 19, .inr (4, o4_rrrrrr (y 2) (y 20) (y 21) (y 22) (y 23) (y 24))), (y 20, aI V 2000 f_28), (y 21, aI V 6 f_29), (y 22, aI V 64 f_30), (y 2, .inr (1, o1_iiiiiirrrrrrriiiii py2_0 py2_1 py2_2 py2_3 py2_4 py2_5 (y 3) (y 4) (y 5) (y 6) (y 7) (y 8) (y 9) py2_13 py2_14 py2_15 py2_16 py2_17))] H := hP
          have hD := cpD hP hD
          refine lv_iconst (v := 0) hx hb dX9_tryDeed_109 (by decide) ?_
          have hP := subP (ws' := [(y 3, aI V 4 fy3), (y 9, aI V 900 fy9), (y 19, .inr (4, o4_rrrrrr (y 2) (y 20) (y 21) (y 22) (y 23) (y 24))), (y 20, aI V 2000 f_28), (y 21, aI V 6 f_29), (y 22, aI V 64 f_30), (y 0, .inr (9, o9_rirrrrrrrrvviii (y 1) py0_1 (y 2) (y 10) (y 19) (y 25) (y 26) (y 30) (y 31) (y 32) o10 o11 r_27 py0_13 x_33)), (y 2, .inr (1, o1_iiiiiirrrrrrriiiii py2_0 py2_1 py2_2 py2_3 py2_4 py2_5 (y 3) (y 4) (y 5) (y 6) (y 7) (y 8) (y 9) py2_13 py2_14 py2_15 py2_16 py2_17))]) hP [1, 2, 3, 4, 5, 6, 0, 7] rfl
          have hD := subD hP hD [1, 2, 3, 4, 5, 6, 0, 7] rfl rfl
          exact fiI hx hb hr hlk hK hP hD hS dX9_tryDeed_110 (Nat.le_of_ble_eq_true rfl) (Nat.le_of_ble_eq_true rfl) (⟨f_28, f_29, f_30, r_27, py0_13, x_33, tf_28, br_27, bpy0_13, (iv_c (0 : Int32) (by decide)), (congrArg Prod.fst (hR.symm.trans hT0)), (congrArg Prod.fst (congrArg Prod.snd (hR.symm.trans hT0))), (congrArg Prod.fst (congrArg Prod.snd (congrArg Prod.snd (hR.symm.trans hT0)))), (congrArg Prod.snd (congrArg Prod.snd (congrArg Prod.snd (hR.symm.trans hT0)))), kn_32, rfl⟩)
        · replace hR := ti hR c_24
          have b_34 : iv 0 0 r_21 := iv_q c_24 (iv_c (0 : Int32) (a := 0) (b := 0) (by decide))
          refine lv_iconst (v := 1) hx hb dX9_tryDeed_76 (by decide) ?_
          exact fiI hx hb hr hlk hK hP hD hS dX9_tryDeed_77 (Nat.le_of_ble_eq_true rfl) (Nat.le_of_ble_eq_true rfl) (⟨fy20, fy21, fy22, py0_12, py0_13, py0_14, tfy20, bpy0_12, bpy0_13, (iv_c (1 : Int32) (by decide)), (congrArg Prod.fst (hR.symm.trans hT0)), (congrArg Prod.fst (congrArg Prod.snd (hR.symm.trans hT0))), (congrArg Prod.fst (congrArg Prod.snd (congrArg Prod.snd (hR.symm.trans hT0)))), (congrArg Prod.snd (congrArg Prod.snd (congrArg Prod.snd (hR.symm.trans hT0)))), hK9, rfl⟩)
      · replace c_19 : ¬ (29 : Int64) < k1 := fun z => c_19 ((lg_cmp_gt _ _).mpr z)
        replace hR := te hR c_19
        refine lv_aload_n hx hb dX9_tryDeed_57 rfl (lv_at hl 0 rfl) ?_
        refine lv_lload_n hx hb dX9_tryDeed_58 rfl (lv_at hl 1 rfl) ?_
        refine lv_l2i hx hb dX9_tryDeed_59 rfl ?_
        refine lv_topi (fun x_35 ex_35 => ?_)
        have bx_35 : iv 20 9 x_35 := by rw [ex_35]; exact iv_ofL b_18 (by decide)
        replace hR := tb hR ex_35
        refine lv_bipush (v := 20) hx hb dX9_tryDeed_60 (by decide) ?_
        refine lv_isub hx hb dX9_tryDeed_62 ?_
        refine lv_topi (fun x_36 ex_36 => ?_)
        have bx_36 : iv 0 (-11) x_36 := by rw [ex_36]; exact iv_sub bx_35 (iv_c (20 : Int32) (a := 20) (b := 20) (by decide)) (by decide)
        replace hR := tb hR ex_36
        refine va_put (ci := 9) (v := .int x_36) (ty := .int) (C := RX9) (T := TX9) (N := 15) hx hb hg inX9 tyX9 tyX9_ok nmX9 hown hK hP hD hS 6 rfl rfl 13 (by decide) (hg _ q_2_49) (fun _ h9 => h9) rfl (by decide +kernel) rfl rfl (Nat.le_of_ble_eq_true rfl) dX9_tryDeed_63 (fun H locs hP hD hS => ?_)
        have hP : va_P V.1 vwCl [(y 3, aI V 4 fy3), (y 9, aI V 900 fy9), (y 19, .inr (4, o4_rrrrrr (y 2) (y 20) (y 21) (y 22) (y 23) (y 24))), (y 20, aI V 2000 fy20), (y 21, aI V 6 fy21), (y 22, aI V 64 fy22), (y 0, .inr (9, o9_rirrrrrrrrvviii (y 1) py0_1 (y 2) (y 10) (y 19) (y 25) (y 26) (y 30) (y 31) (y 32) o10 o11 py0_12 x_36 py0_14)), (y 2, .inr (1, o1_iiiiiirrrrrrriiiii py2_0 py2_1 py2_2 py2_3 py2_4 py2_5 (y 3) (y 4) (y 5) (y 6) (y 7) (y 8) (y 9) py2_13 py2_14 py2_15 py2_16 py2_17))] H := hP
        have hD := cpD hP hD
        refine lv_iconst (v := 0) hx hb dX9_tryDeed_66 (by decide) ?_
        exact fiI hx hb hr hlk hK hP hD hS dX9_tryDeed_67 (Nat.le_of_ble_eq_true rfl) (Nat.le_of_ble_eq_true rfl) (⟨fy20, fy21, fy22, py0_12, x_36, py0_14, tfy20, bpy0_12, (iv_w bx_36 (by decide)), (iv_c (0 : Int32) (by decide)), (congrArg Prod.fst (hR.symm.trans hT0)), (congrArg Prod.fst (congrArg Prod.snd (hR.symm.trans hT0))), (congrArg Prod.fst (congrArg Prod.snd (congrArg Prod.snd (hR.symm.trans hT0)))), (congrArg Prod.snd (congrArg Prod.snd (congrArg Prod.snd (hR.symm.trans hT0)))), hK9, rfl⟩)
  · replace c_1 : ¬ k1 < (10 : Int64) := fun z => c_1 ((lg_cmp_lt _ _).mpr z)
    replace hR := te hR c_1
    have b_37 : ivL 10 9223372036854775807 k1 := ivL_e2 (Int64.not_lt.mp c_1) (ivL_c (10 : Int64) (a := 10) (b := 10) (by decide)) (ivL_top k1) (by decide)
    refine lv_lload_n hx hb dX9_tryDeed_8 rfl (lv_at hl 1 rfl) ?_
    refine lv_ldc2 (v := 19) hx hb hown (hg _ q_3_190) dX9_tryDeed_9 ?_
    refine W.lcmp hx hb dX9_tryDeed_12 ?_
    refine lv_if_gt (tgt := 41) hx hb dX9_tryDeed_13 (by decide) (fun c_38 => ?_) (fun c_38 => ?_)
    · replace c_38 : (19 : Int64) < k1 := (lg_cmp_gt _ _).mp c_38
      replace hR := ti hR c_38
      have b_39 : ivL 20 9223372036854775807 k1 := ivL_l2 c_38 (ivL_c (19 : Int64) (a := 19) (b := 19) (by decide)) b_37 (by decide)
      refine lv_lload_n hx hb dX9_tryDeed_41 rfl (lv_at hl 1 rfl) ?_
      refine lv_ldc2 (v := 20) hx hb hown (hg _ q_3_199) dX9_tryDeed_42 ?_
      refine W.lcmp hx hb dX9_tryDeed_45 ?_
      refine lv_if_lt (tgt := 68) hx hb dX9_tryDeed_46 (by decide) (fun c_40 => ?_) (fun c_40 => ?_)
      · replace c_40 : k1 < (20 : Int64) := (lg_cmp_lt _ _).mp c_40
        replace hR := ti hR c_40
        have b_41 : ivL 20 19 k1 := ivL_l1 c_40 b_39 (ivL_c (20 : Int64) (a := 20) (b := 20) (by decide)) (by decide)
        refine lv_aload_n hx hb dX9_tryDeed_68 rfl (lv_at hl 0 rfl) ?_
        refine lv_lload_n hx hb dX9_tryDeed_69 rfl (lv_at hl 1 rfl) ?_
        refine jnI (wr := [(y 3, aI V 4 fy3), (y 9, aI V 900 fy9), (y 19, .inr (4, o4_rrrrrr (y 2) (y 20) (y 21) (y 22) (y 23) (y 24))), (y 20, aI V 2000 fy20), (y 21, aI V 6 fy21), (y 22, aI V 64 fy22)]) (rnV (rest := []) ⟨hx, hb, hml, hown, hg⟩ (k_X9_isNight_0 l V y k1 py0_1 o10 o11 py0_12 py0_13 py0_14 py2_0 py2_1 py2_2 py2_3 py2_4 py2_5 py2_13 py2_14 py2_15 py2_16 py2_17 bpy0_1 bpy0_12 bpy0_13 bpy2_1 bpy2_2 bpy2_3 bpy2_4 bpy2_5 bpy2_13 bpy2_14 bpy2_15 bpy2_16 bpy2_17) mt_X9_isNight q_3_141 ⟨Nat.le_of_ble_eq_true rfl, Nat.le_of_ble_eq_true rfl⟩ hK hP hD hS hA hE [6, 7] rfl rfl 6 rfl rfl rfl rfl hl.1 rfl (Nat.le_of_ble_eq_true rfl) dX9_tryDeed_70 ⟨Nat.le_of_ble_eq_true rfl, Nat.le_of_ble_eq_true rfl⟩) hP hD hS hA [6, 7] [0, 1, 2, 3, 4, 5] rfl rfl rfl (by decide) (fun r_42 w H locs hw hP hD hS => ?_)
        obtain ⟨br_42, et_43, rfl⟩ := hw
        replace hR := tb hR et_43
        have hP : va_P V.1 vwCl [(y 3, aI V 4 fy3), (y 9, aI V 900 fy9), (y 19, .inr (4, o4_rrrrrr (y 2) (y 20) (y 21) (y 22) (y 23) (y 24))), (y 20, aI V 2000 fy20), (y 21, aI V 6 fy21), (y 22, aI V 64 fy22), (y 0, .inr (9, o9_rirrrrrrrrvviii (y 1) py0_1 (y 2) (y 10) (y 19) (y 25) (y 26) (y 30) (y 31) (y 32) o10 o11 py0_12 py0_13 py0_14)), (y 2, .inr (1, o1_iiiiiirrrrrrriiiii py2_0 py2_1 py2_2 py2_3 py2_4 py2_5 (y 3) (y 4) (y 5) (y 6) (y 7) (y 8) (y 9) py2_13 py2_14 py2_15 py2_16 py2_17))] H := hP
        have hD := cpD hP hD
        refine lv_if_ne (tgt := 78) hx hb dX9_tryDeed_73 (by decide) (fun c_45 => ?_) (fun c_45 => ?_)
        · replace hR := te hR c_45
          have b_46 : iv 1 1 r_42 := iv_n0 c_45 br_42 (iv_c (0 : Int32) (a := 0) (b := 0) (by decide)) (by decide)
          refine lv_aload_n hx hb dX9_tryDeed_78 rfl (lv_at hl 0 rfl) ?_
          refine lv_aload_n hx hb dX9_tryDeed_79 rfl (lv_at hl 0 rfl) ?_
          refine va_get (ci := 9) (v := .ref (y 19)) (C := RX9) (T := TX9) (N := 15) hx hb hg inX9 hown hK hP 6 rfl rfl 4 (by decide) (hg _ q_2_40) (fun _ h9 => h9) rfl dX9_tryDeed_80 ?_
          refine lv_aload_n hx hb dX9_tryDeed_83 rfl (lv_at hl 0 rfl) ?_
          refine va_get (ci := 9) (v := .int py0_12) (C := RX9) (T := TX9) (N := 15) hx hb hg inX9 hown hK hP 6 rfl rfl 12 (by decide) (hg _ q_2_48) (fun _ h9 => h9) rfl dX9_tryDeed_84 ?_
          refine lv_aload_n hx hb dX9_tryDeed_87 rfl (lv_at hl 0 rfl) ?_
          refine va_get (ci := 9) (v := .int py0_13) (C := RX9) (T := TX9) (N := 15) hx hb hg inX9 hown hK hP 6 rfl rfl 13 (by decide) (hg _ q_2_49) (fun _ h9 => h9) rfl dX9_tryDeed_88 ?_
          refine lv_lload_n hx hb dX9_tryDeed_91 rfl (lv_at hl 1 rfl) ?_
          refine lv_l2i hx hb dX9_tryDeed_92 rfl ?_
          refine lv_topi (fun x_47 ex_47 => ?_)
          have bx_47 : iv 20 19 x_47 := by rw [ex_47]; exact iv_ofL b_41 (by decide)
          replace hR := tb hR ex_47
          refine jnI (wr := [(y 0, .inr (9, o9_rirrrrrrrrvviii (y 1) py0_1 (y 2) (y 10) (y 19) (y 25) (y 26) (y 30) (y 31) (y 32) o10 o11 py0_12 py0_13 py0_14))]) (rnV (rest := [.ref (y 0)]) ⟨hx, hb, hml, hown, hg⟩ (k_X4_behind_0 l V y py0_12 py0_13 x_47 fy3 fy9 fy20 fy21 fy22 py2_0 py2_1 py2_2 py2_3 py2_4 py2_5 py2_13 py2_14 py2_15 py2_16 py2_17 bpy0_12 bpy0_13 tfy20 bpy2_1 bpy2_2 bpy2_3 bpy2_4 bpy2_5 bpy2_13 bpy2_14 bpy2_15 bpy2_16 bpy2_17) mt_X4_behind q_3_145 ⟨Nat.le_of_ble_eq_true rfl, Nat.le_of_ble_eq_true rfl⟩ hK hP hD hS hA hE [0, 1, 2, 3, 4, 5, 7] rfl rfl 2 rfl rfl rfl rfl hl.1 rfl (Nat.le_of_ble_eq_true rfl) dX9_tryDeed_93 ⟨Nat.le_of_ble_eq_true rfl, Nat.le_of_ble_eq_true rfl⟩) hP hD hS hA [0, 1, 2, 3, 4, 5, 7] [6] rfl rfl rfl (by decide) (fun r_48 w H locs hw hP hD hS => ?_)
          obtain ⟨f_49, f_50, f_51, tf_49, br_48, g_52, rfl⟩ := hw
          have qkn_53 := g_52 D9 hL9 hK9
          have er_48 : r_48 = bhS D9 py0_12 py0_13 x_47 (py2_1 : Int32).toNatClampNeg := qkn_53.1
          have kn_53 := qkn_53.2
          replace hR := tb hR er_48
          have hP : va_P V.1 vwCl [(y 0, .inr (9, o9_rirrrrrrrrvviii (y 1) py0_1 (y 2) (y 10) (y 19) (y 25) (y 26) (y 30) (y 31) (y 32) o10 o11 py0_12 py0_13 py0_14)), (y 3, aI V 4 fy3), (y 9, aI V 900 fy9), (y 19, .inr (4, o4_rrrrrr (y 2) (y 20) (y 21) (y 22) (y 23) (y 24))), (y 20, aI V 2000 f_49), (y 21, aI V 6 f_50), (y 22, aI V 64 f_51), (y 2, .inr (1, o1_iiiiiirrrrrrriiiii py2_0 py2_1 py2_2 py2_3 py2_4 py2_5 (y 3) (y 4) (y 5) (y 6) (y 7) (y 8) (y 9) py2_13 py2_14 py2_15 py2_16 py2_17))] H := hP
          have hD := cpD hP hD
          refine va_put (ci := 9) (v := .int r_48) (ty := .int) (C := RX9) (T := TX9) (N := 15) hx hb hg inX9 tyX9 tyX9_ok nmX9 hown hK hP hD hS 0 rfl rfl 12 (by decide) (hg _ q_2_48) (fun _ h9 => h9) rfl (by decide +kernel) rfl rfl (Nat.le_of_ble_eq_true rfl) dX9_tryDeed_96 (fun H locs hP hD hS => ?_)
          have hP : va_P V.1 vwCl [(y 0, .inr (9, o9_rirrrrrrrrvviii (y 1) py0_1 (y 2) (y 10) (y 19) (y 25) (y 26) (y 30) (y 31) (y 32) o10 o11 r_48 py0_13 py0_14)), (y 3, aI V 4 fy3), (y 9, aI V 900 fy9), (y 19, .inr (4, o4_rrrrrr (y 2) (y 20) (y 21) (y 22) (y 23) (y 24))), (y 20, aI V 2000 f_49), (y 21, aI V 6 f_50), (y 22, aI V 64 f_51), (y 2, .inr (1, o1_iiiiiirrrrrrriiiii py2_0 py2_1 py2_2 py2_3 py2_4 py2_5 (y 3) (y 4) (y 5) (y 6) (y 7) (y 8) (y 9) py2_13 py2_14 py2_15 py2_16 py2_17))] H := hP
          have hD := cpD hP hD
          refine lv_aload_n hx hb dX9_tryDeed_99 rfl (lv_at hl 0 rfl) ?_
          refine lv_dup hx hb dX9_tryDeed_100 rfl ?_
          refine va_get (ci := 9) (v := .int py0_14) (C := RX9) (T := TX9) (N := 15) hx hb hg inX9 hown hK hP 0 rfl rfl 14 (by decide) (hg _ q_2_50) (fun _ h9 => h9) rfl dX9_tryDeed_101 ?_
          refine lv_iconst (v := 1) hx hb dX9_tryDeed_104 (by decide) ?_
          refine lv_iadd hx hb dX9_tryDeed_105 ?_
          refine lv_topi (fun x_54 ex_54 => ?_)
          replace hR := tb hR ex_54
          refine va_put (ci := 9) (v := .int x_54) (ty := .int) (C := RX9) (T := TX9) (N := 15) hx hb hg inX9 tyX9 tyX9_ok nmX9 hown hK hP hD hS 0 rfl rfl 14 (by decide) (hg _ q_2_50) (fun _ h9 => h9) rfl (by decide +kernel) rfl rfl (Nat.le_of_ble_eq_true rfl) dX9_tryDeed_106 (fun H locs hP hD hS => ?_)
          have hP : va_P V.1 vwCl [(y 0, .inr (9, o9_rirrrrrrrrvviii (y 1) py0_1 (y 2) (y 10) (y 19) (y 25) (y 26) (y 30) (y 31) (y 32) o10 o11 r_48 py0_13 x_54)), (y 3, aI V 4 fy3), (y 9, aI V 900 fy9), (y 19, .inr (4, o4_rrrrrr (y 2) (y 20) (y 21) (y 22) (y 23) (y 24))), (y 20, aI V 2000 f_49), (y 21, aI V 6 f_50), (y 22, aI V 64 f_51), (y 2, .inr (1, o1_iiiiiirrrrrrriiiii py2_0 py2_1 py2_2 py2_3 py2_4 py2_5 (y 3) (y 4) (y 5) (y 6) (y 7) (y 8) (y 9) py2_13 py2_14 py2_15 py2_16 py2_17))] H := hP
          have hD := cpD hP hD
          refine lv_iconst (v := 0) hx hb dX9_tryDeed_109 (by decide) ?_
          have hP := subP (ws' := [(y 3, aI V 4 fy3), (y 9, aI V 900 fy9), (y 19, .inr (4, o4_rrrrrr (y 2) (y 20) (y 21) (y 22) (y 23) (y 24))), (y 20, aI V 2000 f_49), (y 21, aI V 6 f_50), (y 22, aI V 64 f_51), (y 0, .inr (9, o9_rirrrrrrrrvviii (y 1) py0_1 (y 2) (y 10) (y 19) (y 25) (y 26) (y 30) (y 31) (y 32) o10 o11 r_48 py0_13 x_54)), (y 2, .inr (1, o1_iiiiiirrrrrrriiiii py2_0 py2_1 py2_2 py2_3 py2_4 py2_5 (y 3) (y 4) (y 5) (y 6) (y 7) (y 8) (y 9) py2_13 py2_14 py2_15 py2_16 py2_17))]) hP [1, 2, 3, 4, 5, 6, 0, 7] rfl
          have hD := subD hP hD [1, 2, 3, 4, 5, 6, 0, 7] rfl rfl
          exact fiI hx hb hr hlk hK hP hD hS dX9_tryDeed_110 (Nat.le_of_ble_eq_true rfl) (Nat.le_of_ble_eq_true rfl) (⟨f_49, f_50, f_51, r_48, py0_13, x_54, tf_49, br_48, bpy0_13, (iv_c (0 : Int32) (by decide)), (congrArg Prod.fst (hR.symm.trans hT0)), (congrArg Prod.fst (congrArg Prod.snd (hR.symm.trans hT0))), (congrArg Prod.fst (congrArg Prod.snd (congrArg Prod.snd (hR.symm.trans hT0)))), (congrArg Prod.snd (congrArg Prod.snd (congrArg Prod.snd (hR.symm.trans hT0)))), kn_53, rfl⟩)
        · replace hR := ti hR c_45
          have b_55 : iv 0 0 r_42 := iv_q c_45 (iv_c (0 : Int32) (a := 0) (b := 0) (by decide))
          refine lv_iconst (v := 1) hx hb dX9_tryDeed_76 (by decide) ?_
          exact fiI hx hb hr hlk hK hP hD hS dX9_tryDeed_77 (Nat.le_of_ble_eq_true rfl) (Nat.le_of_ble_eq_true rfl) (⟨fy20, fy21, fy22, py0_12, py0_13, py0_14, tfy20, bpy0_12, bpy0_13, (iv_c (1 : Int32) (by decide)), (congrArg Prod.fst (hR.symm.trans hT0)), (congrArg Prod.fst (congrArg Prod.snd (hR.symm.trans hT0))), (congrArg Prod.fst (congrArg Prod.snd (congrArg Prod.snd (hR.symm.trans hT0)))), (congrArg Prod.snd (congrArg Prod.snd (congrArg Prod.snd (hR.symm.trans hT0)))), hK9, rfl⟩)
      · replace c_40 : ¬ k1 < (20 : Int64) := fun z => c_40 ((lg_cmp_lt _ _).mpr z)
        replace hR := te hR c_40
        refine lv_lload_n hx hb dX9_tryDeed_49 rfl (lv_at hl 1 rfl) ?_
        refine lv_ldc2 (v := 29) hx hb hown (hg _ q_3_200) dX9_tryDeed_50 ?_
        refine W.lcmp hx hb dX9_tryDeed_53 ?_
        refine lv_if_gt (tgt := 68) hx hb dX9_tryDeed_54 (by decide) (fun c_56 => ?_) (fun c_56 => ?_)
        · replace c_56 : (29 : Int64) < k1 := (lg_cmp_gt _ _).mp c_56
          replace hR := ti hR c_56
          have b_57 : ivL 30 9223372036854775807 k1 := ivL_l2 c_56 (ivL_c (29 : Int64) (a := 29) (b := 29) (by decide)) b_39 (by decide)
          refine lv_aload_n hx hb dX9_tryDeed_68 rfl (lv_at hl 0 rfl) ?_
          refine lv_lload_n hx hb dX9_tryDeed_69 rfl (lv_at hl 1 rfl) ?_
          refine jnI (wr := [(y 3, aI V 4 fy3), (y 9, aI V 900 fy9), (y 19, .inr (4, o4_rrrrrr (y 2) (y 20) (y 21) (y 22) (y 23) (y 24))), (y 20, aI V 2000 fy20), (y 21, aI V 6 fy21), (y 22, aI V 64 fy22)]) (rnV (rest := []) ⟨hx, hb, hml, hown, hg⟩ (k_X9_isNight_0 l V y k1 py0_1 o10 o11 py0_12 py0_13 py0_14 py2_0 py2_1 py2_2 py2_3 py2_4 py2_5 py2_13 py2_14 py2_15 py2_16 py2_17 bpy0_1 bpy0_12 bpy0_13 bpy2_1 bpy2_2 bpy2_3 bpy2_4 bpy2_5 bpy2_13 bpy2_14 bpy2_15 bpy2_16 bpy2_17) mt_X9_isNight q_3_141 ⟨Nat.le_of_ble_eq_true rfl, Nat.le_of_ble_eq_true rfl⟩ hK hP hD hS hA hE [6, 7] rfl rfl 6 rfl rfl rfl rfl hl.1 rfl (Nat.le_of_ble_eq_true rfl) dX9_tryDeed_70 ⟨Nat.le_of_ble_eq_true rfl, Nat.le_of_ble_eq_true rfl⟩) hP hD hS hA [6, 7] [0, 1, 2, 3, 4, 5] rfl rfl rfl (by decide) (fun r_58 w H locs hw hP hD hS => ?_)
          obtain ⟨br_58, et_59, rfl⟩ := hw
          replace hR := tb hR et_59
          have hP : va_P V.1 vwCl [(y 3, aI V 4 fy3), (y 9, aI V 900 fy9), (y 19, .inr (4, o4_rrrrrr (y 2) (y 20) (y 21) (y 22) (y 23) (y 24))), (y 20, aI V 2000 fy20), (y 21, aI V 6 fy21), (y 22, aI V 64 fy22), (y 0, .inr (9, o9_rirrrrrrrrvviii (y 1) py0_1 (y 2) (y 10) (y 19) (y 25) (y 26) (y 30) (y 31) (y 32) o10 o11 py0_12 py0_13 py0_14)), (y 2, .inr (1, o1_iiiiiirrrrrrriiiii py2_0 py2_1 py2_2 py2_3 py2_4 py2_5 (y 3) (y 4) (y 5) (y 6) (y 7) (y 8) (y 9) py2_13 py2_14 py2_15 py2_16 py2_17))] H := hP
          have hD := cpD hP hD
          refine lv_if_ne (tgt := 78) hx hb dX9_tryDeed_73 (by decide) (fun c_61 => ?_) (fun c_61 => ?_)
          · replace hR := te hR c_61
            have b_62 : iv 1 1 r_58 := iv_n0 c_61 br_58 (iv_c (0 : Int32) (a := 0) (b := 0) (by decide)) (by decide)
            refine lv_aload_n hx hb dX9_tryDeed_78 rfl (lv_at hl 0 rfl) ?_
            refine lv_aload_n hx hb dX9_tryDeed_79 rfl (lv_at hl 0 rfl) ?_
            refine va_get (ci := 9) (v := .ref (y 19)) (C := RX9) (T := TX9) (N := 15) hx hb hg inX9 hown hK hP 6 rfl rfl 4 (by decide) (hg _ q_2_40) (fun _ h9 => h9) rfl dX9_tryDeed_80 ?_
            refine lv_aload_n hx hb dX9_tryDeed_83 rfl (lv_at hl 0 rfl) ?_
            refine va_get (ci := 9) (v := .int py0_12) (C := RX9) (T := TX9) (N := 15) hx hb hg inX9 hown hK hP 6 rfl rfl 12 (by decide) (hg _ q_2_48) (fun _ h9 => h9) rfl dX9_tryDeed_84 ?_
            refine lv_aload_n hx hb dX9_tryDeed_87 rfl (lv_at hl 0 rfl) ?_
            refine va_get (ci := 9) (v := .int py0_13) (C := RX9) (T := TX9) (N := 15) hx hb hg inX9 hown hK hP 6 rfl rfl 13 (by decide) (hg _ q_2_49) (fun _ h9 => h9) rfl dX9_tryDeed_88 ?_
            refine lv_lload_n hx hb dX9_tryDeed_91 rfl (lv_at hl 1 rfl) ?_
            refine lv_l2i hx hb dX9_tryDeed_92 rfl ?_
            refine lv_topi (fun x_63 ex_63 => ?_)
            replace hR := tb hR ex_63
            refine jnI (wr := [(y 0, .inr (9, o9_rirrrrrrrrvviii (y 1) py0_1 (y 2) (y 10) (y 19) (y 25) (y 26) (y 30) (y 31) (y 32) o10 o11 py0_12 py0_13 py0_14))]) (rnV (rest := [.ref (y 0)]) ⟨hx, hb, hml, hown, hg⟩ (k_X4_behind_0 l V y py0_12 py0_13 x_63 fy3 fy9 fy20 fy21 fy22 py2_0 py2_1 py2_2 py2_3 py2_4 py2_5 py2_13 py2_14 py2_15 py2_16 py2_17 bpy0_12 bpy0_13 tfy20 bpy2_1 bpy2_2 bpy2_3 bpy2_4 bpy2_5 bpy2_13 bpy2_14 bpy2_15 bpy2_16 bpy2_17) mt_X4_behind q_3_145 ⟨Nat.le_of_ble_eq_true rfl, Nat.le_of_ble_eq_true rfl⟩ hK hP hD hS hA hE [0, 1, 2, 3, 4, 5, 7] rfl rfl 2 rfl rfl rfl rfl hl.1 rfl (Nat.le_of_ble_eq_true rfl) dX9_tryDeed_93 ⟨Nat.le_of_ble_eq_true rfl, Nat.le_of_ble_eq_true rfl⟩) hP hD hS hA [0, 1, 2, 3, 4, 5, 7] [6] rfl rfl rfl (by decide) (fun r_64 w H locs hw hP hD hS => ?_)
            obtain ⟨f_65, f_66, f_67, tf_65, br_64, g_68, rfl⟩ := hw
            have qkn_69 := g_68 D9 hL9 hK9
            have er_64 : r_64 = bhS D9 py0_12 py0_13 x_63 (py2_1 : Int32).toNatClampNeg := qkn_69.1
            have kn_69 := qkn_69.2
            replace hR := tb hR er_64
            have hP : va_P V.1 vwCl [(y 0, .inr (9, o9_rirrrrrrrrvviii (y 1) py0_1 (y 2) (y 10) (y 19) (y 25) (y 26) (y 30) (y 31) (y 32) o10 o11 py0_12 py0_13 py0_14)), (y 3, aI V 4 fy3), (y 9, aI V 900 fy9), (y 19, .inr (4, o4_rrrrrr (y 2) (y 20) (y 21) (y 22) (y 23) (y 24))), (y 20, aI V 2000 f_65), (y 21, aI V 6 f_66), (y 22, aI V 64 f_67), (y 2, .inr (1, o1_iiiiiirrrrrrriiiii py2_0 py2_1 py2_2 py2_3 py2_4 py2_5 (y 3) (y 4) (y 5) (y 6) (y 7) (y 8) (y 9) py2_13 py2_14 py2_15 py2_16 py2_17))] H := hP
            have hD := cpD hP hD
            refine va_put (ci := 9) (v := .int r_64) (ty := .int) (C := RX9) (T := TX9) (N := 15) hx hb hg inX9 tyX9 tyX9_ok nmX9 hown hK hP hD hS 0 rfl rfl 12 (by decide) (hg _ q_2_48) (fun _ h9 => h9) rfl (by decide +kernel) rfl rfl (Nat.le_of_ble_eq_true rfl) dX9_tryDeed_96 (fun H locs hP hD hS => ?_)
            have hP : va_P V.1 vwCl [(y 0, .inr (9, o9_rirrrrrrrrvviii (y 1) py0_1 (y 2) (y 10) (y 19) (y 25) (y 26) (y 30) (y 31) (y 32) o10 o11 r_64 py0_13 py0_14)), (y 3, aI V 4 fy3), (y 9, aI V 900 fy9), (y 19, .inr (4, o4_rrrrrr (y 2) (y 20) (y 21) (y 22) (y 23) (y 24))), (y 20, aI V 2000 f_65), (y 21, aI V 6 f_66), (y 22, aI V 64 f_67), (y 2, .inr (1, o1_iiiiiirrrrrrriiiii py2_0 py2_1 py2_2 py2_3 py2_4 py2_5 (y 3) (y 4) (y 5) (y 6) (y 7) (y 8) (y 9) py2_13 py2_14 py2_15 py2_16 py2_17))] H := hP
            have hD := cpD hP hD
            refine lv_aload_n hx hb dX9_tryDeed_99 rfl (lv_at hl 0 rfl) ?_
            refine lv_dup hx hb dX9_tryDeed_100 rfl ?_
            refine va_get (ci := 9) (v := .int py0_14) (C := RX9) (T := TX9) (N := 15) hx hb hg inX9 hown hK hP 0 rfl rfl 14 (by decide) (hg _ q_2_50) (fun _ h9 => h9) rfl dX9_tryDeed_101 ?_
            refine lv_iconst (v := 1) hx hb dX9_tryDeed_104 (by decide) ?_
            refine lv_iadd hx hb dX9_tryDeed_105 ?_
            refine lv_topi (fun x_70 ex_70 => ?_)
            replace hR := tb hR ex_70
            refine va_put (ci := 9) (v := .int x_70) (ty := .int) (C := RX9) (T := TX9) (N := 15) hx hb hg inX9 tyX9 tyX9_ok nmX9 hown hK hP hD hS 0 rfl rfl 14 (by decide) (hg _ q_2_50) (fun _ h9 => h9) rfl (by decide +kernel) rfl rfl (Nat.le_of_ble_eq_true rfl) dX9_tryDeed_106 (fun H locs hP hD hS => ?_)
            have hP : va_P V.1 vwCl [(y 0, .inr (9, o9_rirrrrrrrrvviii (y 1) py0_1 (y 2) (y 10) (y 19) (y 25) (y 26) (y 30) (y 31) (y 32) o10 o11 r_64 py0_13 x_70)), (y 3, aI V 4 fy3), (y 9, aI V 900 fy9), (y 19, .inr (4, o4_rrrrrr (y 2) (y 20) (y 21) (y 22) (y 23) (y 24))), (y 20, aI V 2000 f_65), (y 21, aI V 6 f_66), (y 22, aI V 64 f_67), (y 2, .inr (1, o1_iiiiiirrrrrrriiiii py2_0 py2_1 py2_2 py2_3 py2_4 py2_5 (y 3) (y 4) (y 5) (y 6) (y 7) (y 8) (y 9) py2_13 py2_14 py2_15 py2_16 py2_17))] H := hP
            have hD := cpD hP hD
            refine lv_iconst (v := 0) hx hb dX9_tryDeed_109 (by decide) ?_
            have hP := subP (ws' := [(y 3, aI V 4 fy3), (y 9, aI V 900 fy9), (y 19, .inr (4, o4_rrrrrr (y 2) (y 20) (y 21) (y 22) (y 23) (y 24))), (y 20, aI V 2000 f_65), (y 21, aI V 6 f_66), (y 22, aI V 64 f_67), (y 0, .inr (9, o9_rirrrrrrrrvviii (y 1) py0_1 (y 2) (y 10) (y 19) (y 25) (y 26) (y 30) (y 31) (y 32) o10 o11 r_64 py0_13 x_70)), (y 2, .inr (1, o1_iiiiiirrrrrrriiiii py2_0 py2_1 py2_2 py2_3 py2_4 py2_5 (y 3) (y 4) (y 5) (y 6) (y 7) (y 8) (y 9) py2_13 py2_14 py2_15 py2_16 py2_17))]) hP [1, 2, 3, 4, 5, 6, 0, 7] rfl
            have hD := subD hP hD [1, 2, 3, 4, 5, 6, 0, 7] rfl rfl
            exact fiI hx hb hr hlk hK hP hD hS dX9_tryDeed_110 (Nat.le_of_ble_eq_true rfl) (Nat.le_of_ble_eq_true rfl) (⟨f_65, f_66, f_67, r_64, py0_13, x_70, tf_65, br_64, bpy0_13, (iv_c (0 : Int32) (by decide)), (congrArg Prod.fst (hR.symm.trans hT0)), (congrArg Prod.fst (congrArg Prod.snd (hR.symm.trans hT0))), (congrArg Prod.fst (congrArg Prod.snd (congrArg Prod.snd (hR.symm.trans hT0)))), (congrArg Prod.snd (congrArg Prod.snd (congrArg Prod.snd (hR.symm.trans hT0)))), kn_69, rfl⟩)
          · replace hR := ti hR c_61
            have b_71 : iv 0 0 r_58 := iv_q c_61 (iv_c (0 : Int32) (a := 0) (b := 0) (by decide))
            refine lv_iconst (v := 1) hx hb dX9_tryDeed_76 (by decide) ?_
            exact fiI hx hb hr hlk hK hP hD hS dX9_tryDeed_77 (Nat.le_of_ble_eq_true rfl) (Nat.le_of_ble_eq_true rfl) (⟨fy20, fy21, fy22, py0_12, py0_13, py0_14, tfy20, bpy0_12, bpy0_13, (iv_c (1 : Int32) (by decide)), (congrArg Prod.fst (hR.symm.trans hT0)), (congrArg Prod.fst (congrArg Prod.snd (hR.symm.trans hT0))), (congrArg Prod.fst (congrArg Prod.snd (congrArg Prod.snd (hR.symm.trans hT0)))), (congrArg Prod.snd (congrArg Prod.snd (congrArg Prod.snd (hR.symm.trans hT0)))), hK9, rfl⟩)
        · replace c_56 : ¬ (29 : Int64) < k1 := fun z => c_56 ((lg_cmp_gt _ _).mpr z)
          replace hR := te hR c_56
          have b_72 : ivL 20 29 k1 := ivL_e1 (Int64.not_lt.mp c_56) b_39 (ivL_c (29 : Int64) (a := 29) (b := 29) (by decide)) (by decide)
          refine lv_aload_n hx hb dX9_tryDeed_57 rfl (lv_at hl 0 rfl) ?_
          refine lv_lload_n hx hb dX9_tryDeed_58 rfl (lv_at hl 1 rfl) ?_
          refine lv_l2i hx hb dX9_tryDeed_59 rfl ?_
          refine lv_topi (fun x_73 ex_73 => ?_)
          have bx_73 : iv 20 29 x_73 := by rw [ex_73]; exact iv_ofL b_72 (by decide)
          replace hR := tb hR ex_73
          refine lv_bipush (v := 20) hx hb dX9_tryDeed_60 (by decide) ?_
          refine lv_isub hx hb dX9_tryDeed_62 ?_
          refine lv_topi (fun x_74 ex_74 => ?_)
          have bx_74 : iv 0 9 x_74 := by rw [ex_74]; exact iv_sub bx_73 (iv_c (20 : Int32) (a := 20) (b := 20) (by decide)) (by decide)
          replace hR := tb hR ex_74
          refine va_put (ci := 9) (v := .int x_74) (ty := .int) (C := RX9) (T := TX9) (N := 15) hx hb hg inX9 tyX9 tyX9_ok nmX9 hown hK hP hD hS 6 rfl rfl 13 (by decide) (hg _ q_2_49) (fun _ h9 => h9) rfl (by decide +kernel) rfl rfl (Nat.le_of_ble_eq_true rfl) dX9_tryDeed_63 (fun H locs hP hD hS => ?_)
          have hP : va_P V.1 vwCl [(y 3, aI V 4 fy3), (y 9, aI V 900 fy9), (y 19, .inr (4, o4_rrrrrr (y 2) (y 20) (y 21) (y 22) (y 23) (y 24))), (y 20, aI V 2000 fy20), (y 21, aI V 6 fy21), (y 22, aI V 64 fy22), (y 0, .inr (9, o9_rirrrrrrrrvviii (y 1) py0_1 (y 2) (y 10) (y 19) (y 25) (y 26) (y 30) (y 31) (y 32) o10 o11 py0_12 x_74 py0_14)), (y 2, .inr (1, o1_iiiiiirrrrrrriiiii py2_0 py2_1 py2_2 py2_3 py2_4 py2_5 (y 3) (y 4) (y 5) (y 6) (y 7) (y 8) (y 9) py2_13 py2_14 py2_15 py2_16 py2_17))] H := hP
          have hD := cpD hP hD
          refine lv_iconst (v := 0) hx hb dX9_tryDeed_66 (by decide) ?_
          exact fiI hx hb hr hlk hK hP hD hS dX9_tryDeed_67 (Nat.le_of_ble_eq_true rfl) (Nat.le_of_ble_eq_true rfl) (⟨fy20, fy21, fy22, py0_12, x_74, py0_14, tfy20, bpy0_12, bx_74, (iv_c (0 : Int32) (by decide)), (congrArg Prod.fst (hR.symm.trans hT0)), (congrArg Prod.fst (congrArg Prod.snd (hR.symm.trans hT0))), (congrArg Prod.fst (congrArg Prod.snd (congrArg Prod.snd (hR.symm.trans hT0)))), (congrArg Prod.snd (congrArg Prod.snd (congrArg Prod.snd (hR.symm.trans hT0)))), hK9, rfl⟩)
    · replace c_38 : ¬ (19 : Int64) < k1 := fun z => c_38 ((lg_cmp_gt _ _).mpr z)
      replace hR := te hR c_38
      have b_75 : ivL 10 19 k1 := ivL_e1 (Int64.not_lt.mp c_38) b_37 (ivL_c (19 : Int64) (a := 19) (b := 19) (by decide)) (by decide)
      refine lv_aload_n hx hb dX9_tryDeed_16 rfl (lv_at hl 0 rfl) ?_
      refine lv_lload_n hx hb dX9_tryDeed_17 rfl (lv_at hl 1 rfl) ?_
      refine lv_l2i hx hb dX9_tryDeed_18 rfl ?_
      refine lv_topi (fun x_76 ex_76 => ?_)
      have bx_76 : iv 10 19 x_76 := by rw [ex_76]; exact iv_ofL b_75 (by decide)
      replace hR := tb hR ex_76
      refine lv_bipush (v := 10) hx hb dX9_tryDeed_19 (by decide) ?_
      refine lv_isub hx hb dX9_tryDeed_21 ?_
      refine lv_topi (fun x_77 ex_77 => ?_)
      have bx_77 : iv 0 9 x_77 := by rw [ex_77]; exact iv_sub bx_76 (iv_c (10 : Int32) (a := 10) (b := 10) (by decide)) (by decide)
      replace hR := tb hR ex_77
      refine jnI (wr := [(y 3, aI V 4 fy3), (y 9, aI V 900 fy9), (y 19, .inr (4, o4_rrrrrr (y 2) (y 20) (y 21) (y 22) (y 23) (y 24))), (y 20, aI V 2000 fy20), (y 21, aI V 6 fy21), (y 22, aI V 64 fy22)]) (rnV (rest := []) ⟨hx, hb, hml, hown, hg⟩ (k_X9_whyNoStealing_0 l V y x_77 py0_1 o10 o11 py0_12 py0_13 py0_14 py2_0 py2_1 py2_2 py2_3 py2_4 py2_5 py2_13 py2_14 py2_15 py2_16 py2_17 bpy0_1 bpy0_12 bpy0_13 bpy2_1 bpy2_2 bpy2_3 bpy2_4 bpy2_5 bpy2_13 bpy2_14 bpy2_15 bpy2_16 bpy2_17) mt_X9_whyNoStealing q_3_191 ⟨Nat.le_of_ble_eq_true rfl, Nat.le_of_ble_eq_true rfl⟩ hK hP hD hS hA hE [6, 7] rfl rfl 6 rfl rfl rfl rfl hl.1 rfl (Nat.le_of_ble_eq_true rfl) dX9_tryDeed_22 ⟨Nat.le_of_ble_eq_true rfl, Nat.le_of_ble_eq_true rfl⟩) hP hD hS hA [6, 7] [0, 1, 2, 3, 4, 5] rfl rfl rfl (by decide) (fun r_78 w H locs hw hP hD hS => ?_)
      rcases hw with ⟨c_79, rfl, g_80, et_81, rfl⟩ | ⟨c_82, c_83, rfl, g_84, et_85, rfl⟩ | ⟨c_86, c_87, rfl, g_88, et_89, rfl⟩ | ⟨c_90, c_91, rfl, g_92, et_93, rfl⟩
      · have hP : va_P V.1 vwCl [(y 3, aI V 4 fy3), (y 9, aI V 900 fy9), (y 19, .inr (4, o4_rrrrrr (y 2) (y 20) (y 21) (y 22) (y 23) (y 24))), (y 20, aI V 2000 fy20), (y 21, aI V 6 fy21), (y 22, aI V 64 fy22), (y 0, .inr (9, o9_rirrrrrrrrvviii (y 1) py0_1 (y 2) (y 10) (y 19) (y 25) (y 26) (y 30) (y 31) (y 32) o10 o11 py0_12 py0_13 py0_14)), (y 2, .inr (1, o1_iiiiiirrrrrrriiiii py2_0 py2_1 py2_2 py2_3 py2_4 py2_5 (y 3) (y 4) (y 5) (y 6) (y 7) (y 8) (y 9) py2_13 py2_14 py2_15 py2_16 py2_17))] H := hP
        have hD := cpD hP hD
        replace hR := ti hR et_81.symm
        exact absurd c_79 (iv_nlt bx_77 (iv_c (0 : Int32) (a := 0) (b := 0) (by decide)) (by decide))
      · have hP : va_P V.1 vwCl [(y 3, aI V 4 fy3), (y 9, aI V 900 fy9), (y 19, .inr (4, o4_rrrrrr (y 2) (y 20) (y 21) (y 22) (y 23) (y 24))), (y 20, aI V 2000 fy20), (y 21, aI V 6 fy21), (y 22, aI V 64 fy22), (y 0, .inr (9, o9_rirrrrrrrrvviii (y 1) py0_1 (y 2) (y 10) (y 19) (y 25) (y 26) (y 30) (y 31) (y 32) o10 o11 py0_12 py0_13 py0_14)), (y 2, .inr (1, o1_iiiiiirrrrrrriiiii py2_0 py2_1 py2_2 py2_3 py2_4 py2_5 (y 3) (y 4) (y 5) (y 6) (y 7) (y 8) (y 9) py2_13 py2_14 py2_15 py2_16 py2_17))] H := hP
        have hD := cpD hP hD
        replace hR := te hR (by rw [← et_85]; decide)
        replace hR := ti hR et_85.symm
        refine lv_istore_n (lv' := [(3, .int 1), (0, .ref (y 0)), (1, .long k1)]) hx hb dX9_tryDeed_25 rfl hl (by decide) rfl (fun ls hl => ?_)
        refine lv_iload_n hx hb dX9_tryDeed_26 rfl (lv_at hl 0 rfl) ?_
        refine lv_if_ne (tgt := 39) hx hb dX9_tryDeed_27 (by decide) (fun _ => ?_) (fun c_95 => absurd c_95 (by decide))
        refine lv_iload_n hx hb dX9_tryDeed_39 rfl (lv_at hl 0 rfl) ?_
        exact fiI hx hb hr hlk hK hP hD hS dX9_tryDeed_40 (Nat.le_of_ble_eq_true rfl) (Nat.le_of_ble_eq_true rfl) (⟨fy20, fy21, fy22, py0_12, py0_13, py0_14, tfy20, bpy0_12, bpy0_13, (iv_c (1 : Int32) (by decide)), (congrArg Prod.fst (hR.symm.trans hT0)), (congrArg Prod.fst (congrArg Prod.snd (hR.symm.trans hT0))), (congrArg Prod.fst (congrArg Prod.snd (congrArg Prod.snd (hR.symm.trans hT0)))), (congrArg Prod.snd (congrArg Prod.snd (congrArg Prod.snd (hR.symm.trans hT0)))), hK9, rfl⟩)
      · have hP : va_P V.1 vwCl [(y 3, aI V 4 fy3), (y 9, aI V 900 fy9), (y 19, .inr (4, o4_rrrrrr (y 2) (y 20) (y 21) (y 22) (y 23) (y 24))), (y 20, aI V 2000 fy20), (y 21, aI V 6 fy21), (y 22, aI V 64 fy22), (y 0, .inr (9, o9_rirrrrrrrrvviii (y 1) py0_1 (y 2) (y 10) (y 19) (y 25) (y 26) (y 30) (y 31) (y 32) o10 o11 py0_12 py0_13 py0_14)), (y 2, .inr (1, o1_iiiiiirrrrrrriiiii py2_0 py2_1 py2_2 py2_3 py2_4 py2_5 (y 3) (y 4) (y 5) (y 6) (y 7) (y 8) (y 9) py2_13 py2_14 py2_15 py2_16 py2_17))] H := hP
        have hD := cpD hP hD
        replace hR := te hR (by rw [← et_89]; decide)
        replace hR := te hR (by rw [← et_89]; decide)
        replace hR := ti hR et_89.symm
        have b_96 : iv 0 3 x_77 := iv_l1 (Int32.not_le.mp c_87) bx_77 bpy2_1 (by decide)
        have b_97 : iv 1 4 py2_1 := iv_l2 (Int32.not_le.mp c_87) bx_77 bpy2_1 (by decide)
        refine lv_istore_n (lv' := [(3, .int 0), (0, .ref (y 0)), (1, .long k1)]) hx hb dX9_tryDeed_25 rfl hl (by decide) rfl (fun ls hl => ?_)
        refine lv_iload_n hx hb dX9_tryDeed_26 rfl (lv_at hl 0 rfl) ?_
        refine lv_if_ne (tgt := 39) hx hb dX9_tryDeed_27 (by decide) (fun c_99 => absurd c_99 (by decide)) (fun _ => ?_)
        refine lv_aload_n hx hb dX9_tryDeed_30 rfl (lv_at hl 1 rfl) ?_
        refine lv_lload_n hx hb dX9_tryDeed_31 rfl (lv_at hl 2 rfl) ?_
        refine lv_l2i hx hb dX9_tryDeed_32 rfl ?_
        refine tpi (y := x_76) ex_76.symm ?_
        refine lv_bipush (v := 10) hx hb dX9_tryDeed_33 (by decide) ?_
        refine lv_isub hx hb dX9_tryDeed_35 ?_
        refine tpi (y := x_77) ex_77.symm ?_
        refine jnV (wr := [(y 3, aI V 4 fy3), (y 9, aI V 900 fy9), (y 19, .inr (4, o4_rrrrrr (y 2) (y 20) (y 21) (y 22) (y 23) (y 24))), (y 20, aI V 2000 fy20), (y 21, aI V 6 fy21), (y 22, aI V 64 fy22), (y 2, .inr (1, o1_iiiiiirrrrrrriiiii py2_0 py2_1 py2_2 py2_3 py2_4 py2_5 (y 3) (y 4) (y 5) (y 6) (y 7) (y 8) (y 9) py2_13 py2_14 py2_15 py2_16 py2_17))]) (rnV (rest := []) ⟨hx, hb, hml, hown, hg⟩ (k_X9_takeByHand_0 l V y x_77 py0_1 o10 o11 py0_12 py0_13 py0_14 b_96 bpy0_1 bpy0_12 bpy0_13 (wy_n g_88)) mt_X9_takeByHand q_3_195 ⟨Nat.le_of_ble_eq_true rfl, Nat.le_of_ble_eq_true rfl⟩ hK hP hD hS hA hE [6] rfl rfl 6 rfl rfl rfl rfl hl.1 rfl (Nat.le_of_ble_eq_true rfl) dX9_tryDeed_36 ⟨Nat.le_of_ble_eq_true rfl, Nat.le_of_ble_eq_true rfl⟩) hP hD hS hA [6] [0, 1, 2, 3, 4, 5, 7] rfl rfl rfl (by decide) (fun  w H locs hw hP hD hS => ?_)
        obtain ⟨v_100, bv_100, g_101, et_102, rfl⟩ := hw
        replace hR := tb hR et_102
        have hP : va_P V.1 vwCl [(y 3, aI V 4 fy3), (y 9, aI V 900 fy9), (y 19, .inr (4, o4_rrrrrr (y 2) (y 20) (y 21) (y 22) (y 23) (y 24))), (y 20, aI V 2000 fy20), (y 21, aI V 6 fy21), (y 22, aI V 64 fy22), (y 2, .inr (1, o1_iiiiiirrrrrrriiiii py2_0 py2_1 py2_2 py2_3 py2_4 py2_5 (y 3) (y 4) (y 5) (y 6) (y 7) (y 8) (y 9) py2_13 py2_14 py2_15 py2_16 py2_17)), (y 0, .inr (9, o9_rirrrrrrrrvviii (y 1) py0_1 (y 2) (y 10) (y 19) (y 25) (y 26) (y 30) (y 31) (y 32) o10 o11 v_100 py0_13 py0_14))] H := hP
        have hD := cpD hP hD
        refine lv_iload_n hx hb dX9_tryDeed_39 rfl (lv_at hl 0 rfl) ?_
        have hP := subP (ws' := [(y 3, aI V 4 fy3), (y 9, aI V 900 fy9), (y 19, .inr (4, o4_rrrrrr (y 2) (y 20) (y 21) (y 22) (y 23) (y 24))), (y 20, aI V 2000 fy20), (y 21, aI V 6 fy21), (y 22, aI V 64 fy22), (y 0, .inr (9, o9_rirrrrrrrrvviii (y 1) py0_1 (y 2) (y 10) (y 19) (y 25) (y 26) (y 30) (y 31) (y 32) o10 o11 v_100 py0_13 py0_14)), (y 2, .inr (1, o1_iiiiiirrrrrrriiiii py2_0 py2_1 py2_2 py2_3 py2_4 py2_5 (y 3) (y 4) (y 5) (y 6) (y 7) (y 8) (y 9) py2_13 py2_14 py2_15 py2_16 py2_17))]) hP [0, 1, 2, 3, 4, 5, 7, 6] rfl
        have hD := subD hP hD [0, 1, 2, 3, 4, 5, 7, 6] rfl rfl
        exact fiI hx hb hr hlk hK hP hD hS dX9_tryDeed_40 (Nat.le_of_ble_eq_true rfl) (Nat.le_of_ble_eq_true rfl) (⟨fy20, fy21, fy22, v_100, py0_13, py0_14, tfy20, bv_100, bpy0_13, (iv_c (0 : Int32) (by decide)), (congrArg Prod.fst (hR.symm.trans hT0)), (congrArg Prod.fst (congrArg Prod.snd (hR.symm.trans hT0))), (congrArg Prod.fst (congrArg Prod.snd (congrArg Prod.snd (hR.symm.trans hT0)))), (congrArg Prod.snd (congrArg Prod.snd (congrArg Prod.snd (hR.symm.trans hT0)))), hK9, rfl⟩)
      · have hP : va_P V.1 vwCl [(y 3, aI V 4 fy3), (y 9, aI V 900 fy9), (y 19, .inr (4, o4_rrrrrr (y 2) (y 20) (y 21) (y 22) (y 23) (y 24))), (y 20, aI V 2000 fy20), (y 21, aI V 6 fy21), (y 22, aI V 64 fy22), (y 0, .inr (9, o9_rirrrrrrrrvviii (y 1) py0_1 (y 2) (y 10) (y 19) (y 25) (y 26) (y 30) (y 31) (y 32) o10 o11 py0_12 py0_13 py0_14)), (y 2, .inr (1, o1_iiiiiirrrrrrriiiii py2_0 py2_1 py2_2 py2_3 py2_4 py2_5 (y 3) (y 4) (y 5) (y 6) (y 7) (y 8) (y 9) py2_13 py2_14 py2_15 py2_16 py2_17))] H := hP
        have hD := cpD hP hD
        replace hR := te hR (by rw [← et_93]; decide)
        replace hR := te hR (by rw [← et_93]; decide)
        replace hR := te hR (by rw [← et_93]; decide)
        have b_104 : iv 0 3 x_77 := iv_l1 (Int32.not_le.mp c_91) bx_77 bpy2_1 (by decide)
        have b_105 : iv 1 4 py2_1 := iv_l2 (Int32.not_le.mp c_91) bx_77 bpy2_1 (by decide)
        refine lv_istore_n (lv' := [(3, .int 2), (0, .ref (y 0)), (1, .long k1)]) hx hb dX9_tryDeed_25 rfl hl (by decide) rfl (fun ls hl => ?_)
        refine lv_iload_n hx hb dX9_tryDeed_26 rfl (lv_at hl 0 rfl) ?_
        refine lv_if_ne (tgt := 39) hx hb dX9_tryDeed_27 (by decide) (fun _ => ?_) (fun c_107 => absurd c_107 (by decide))
        refine lv_iload_n hx hb dX9_tryDeed_39 rfl (lv_at hl 0 rfl) ?_
        exact fiI hx hb hr hlk hK hP hD hS dX9_tryDeed_40 (Nat.le_of_ble_eq_true rfl) (Nat.le_of_ble_eq_true rfl) (⟨fy20, fy21, fy22, py0_12, py0_13, py0_14, tfy20, bpy0_12, bpy0_13, (iv_c (2 : Int32) (by decide)), (congrArg Prod.fst (hR.symm.trans hT0)), (congrArg Prod.fst (congrArg Prod.snd (hR.symm.trans hT0))), (congrArg Prod.fst (congrArg Prod.snd (congrArg Prod.snd (hR.symm.trans hT0)))), (congrArg Prod.snd (congrArg Prod.snd (congrArg Prod.snd (hR.symm.trans hT0)))), hK9, rfl⟩)
theorem dX9_night_0 : decode cX9_night 0 = .ok (.aload_n 0, 1) := by decide +kernel
theorem dX9_night_1 : decode cX9_night 1 = .ok (.iload_n 1, 1) := by decide +kernel
theorem dX9_night_2 : decode cX9_night 2 = .ok (.i2l, 1) := by decide +kernel
theorem dX9_night_3 : decode cX9_night 3 = .ok (.invokevirtual 151, 3) := by decide +kernel
theorem dX9_night_6 : decode cX9_night 6 = .ok (.ifCond .ne 6, 3) := by decide +kernel
theorem dX9_night_12 : decode cX9_night 12 = .ok (.aload_n 0, 1) := by decide +kernel
theorem dX9_night_13 : decode cX9_night 13 = .ok (.getfield 48, 3) := by decide +kernel
theorem dX9_night_16 : decode cX9_night 16 = .ok (.aload_n 0, 1) := by decide +kernel
theorem dX9_night_17 : decode cX9_night 17 = .ok (.getfield 113, 3) := by decide +kernel
theorem dX9_night_20 : decode cX9_night 20 = .ok (.aload_n 0, 1) := by decide +kernel
theorem dX9_night_21 : decode cX9_night 21 = .ok (.getfield 116, 3) := by decide +kernel
theorem dX9_night_24 : decode cX9_night 24 = .ok (.aload_n 0, 1) := by decide +kernel
theorem dX9_night_25 : decode cX9_night 25 = .ok (.getfield 119, 3) := by decide +kernel
theorem q_3_180 : Cond.code yX5_keep prog_7_method_2_code 4 none ∈ gw := gw_3 (i := 180) (rfl) rfl
theorem q_3_178 : Cond.instanceMethod yX5_keep ∈ gw := gw_3 (i := 178) (by decide +kernel) rfl
theorem q_3_179 : Cond.selects "BeaconDelay$Past" yX5_keep yX5_keep ∈ gw := gw_3 (i := 179) (by decide +kernel) rfl
theorem mt_X5_keep : MtV yX5_keep cX5_keep 4 none 3 := ⟨⟨q_3_180, q_1_6, by decide +kernel, by decide +kernel, by decide +kernel⟩, q_3_178, q_3_179⟩
theorem q_3_177 : Cond.methodLink "BeaconDelay" 165 yX5_keep ∈ gw := gw_3 (i := 177) (by decide +kernel) rfl
theorem dX9_night_28 : decode cX9_night 28 = .ok (.invokevirtual 165, 3) := by decide +kernel
theorem dX9_night_31 : decode cX9_night 31 = .ok (.aload_n 0, 1) := by decide +kernel
theorem dX9_night_32 : decode cX9_night 32 = .ok (.iload_n 1, 1) := by decide +kernel
theorem dX9_night_33 : decode cX9_night 33 = .ok (.i2l, 1) := by decide +kernel
theorem q_3_188 : Cond.code yX9_tryDeed prog_1_method_26_code 4 (some FieldType.int) ∈ gw := gw_3 (i := 188) (rfl) rfl
theorem q_3_187 : Cond.instanceMethod yX9_tryDeed ∈ gw := gw_3 (i := 187) (by decide +kernel) rfl
theorem q_s_27 : Cond.selects "BeaconDelay" yX9_tryDeed yX9_tryDeed ∈ gw := gw_s (i := 27) (by decide +kernel) rfl
theorem mt_X9_tryDeed : MtV yX9_tryDeed cX9_tryDeed 4 (some .int) 1 := ⟨⟨q_3_188, q_1_1, by decide +kernel, by decide +kernel, by decide +kernel⟩, q_3_187, q_s_27⟩
theorem q_3_185 : Cond.methodLink "BeaconDelay" 169 yX9_tryDeed ∈ gw := gw_3 (i := 185) (by decide +kernel) rfl
theorem dX9_night_34 : decode cX9_night 34 = .ok (.invokevirtual 169, 3) := by decide +kernel
theorem dX9_night_37 : decode cX9_night 37 = .ok (.pop, 1) := by decide +kernel
theorem dX9_night_38 : decode cX9_night 38 = .ok (.aload_n 0, 1) := by decide +kernel
theorem dX9_night_39 : decode cX9_night 39 = .ok (.getfield 113, 3) := by decide +kernel
theorem dX9_night_42 : decode cX9_night 42 = .ok (.invokestatic 173, 3) := by decide +kernel
theorem dX9_night_45 : decode cX9_night 45 = .ok (.ireturn, 1) := by decide +kernel
theorem dX9_night_9 : decode cX9_night 9 = .ok (.bipush (-11), 2) := by decide +kernel
theorem dX9_night_11 : decode cX9_night 11 = .ok (.ireturn, 1) := by decide +kernel
set_option maxRecDepth 100000 in
noncomputable def F_k_X9_night_0 (D9 : Nat → Int32) (a1 : Int32) (py0_12 : Int32) (py0_13 : Int32) (py0_14 : Int32) (py2_1 : Int32) (py26_3 : Int32) (fy27 : Nat → Int32) (fy28 : Nat → Int32) (fy29 : Nat → Int32) : Int32 × Int32 × Int32 × Int32 × Int32 × (Nat → Int32) × (Nat → Int32) × (Nat → Int32) := bnd (a1.toInt64 : Int64) fun (j_1 : Int64) => bnd (F_k_X9_isNight_0 j_1 py2_1 : Int32) fun (r_2 : Int32) => if r_2 = (0 : Int32) then ((((-11) : Int32), py0_12, py0_13, py0_14, py26_3, fy27, fy28, fy29)) else (bnd (F_k_X5_keep_0 py0_12 py0_13 py0_14 py26_3 fy27 fy28 fy29 : Int32 × (Nat → Int32) × (Nat → Int32) × (Nat → Int32)) fun (q_15 : Int32 × (Nat → Int32) × (Nat → Int32) × (Nat → Int32)) => bnd (q_15.1 : Int32) fun (v_7 : Int32) => bnd (q_15.2.1 : Nat → Int32) fun (f_8 : Nat → Int32) => bnd (q_15.2.2.1 : Nat → Int32) fun (f_9 : Nat → Int32) => bnd (q_15.2.2.2 : Nat → Int32) fun (f_10 : Nat → Int32) => bnd (a1.toInt64 : Int64) fun (j_16 : Int64) => bnd (F_k_X9_tryDeed_0 D9 j_16 py0_12 py0_13 py0_14 py2_1 : Int32 × Int32 × Int32 × Int32) fun (q_29 : Int32 × Int32 × Int32 × Int32) => bnd (q_29.1 : Int32) fun (r_17 : Int32) => bnd (q_29.2.1 : Int32) fun (v_21 : Int32) => bnd (q_29.2.2.1 : Int32) fun (v_22 : Int32) => bnd (q_29.2.2.2 : Int32) fun (v_23 : Int32) => bnd (F_k_X9_tookBits_0 v_21 : Int32) fun (r_30 : Int32) => (r_30, v_21, v_22, v_23, v_7, f_8, f_9, f_10))
set_option maxHeartbeats 4000000 in
set_option maxRecDepth 100000 in
theorem k_X9_night_0 (l : Launch) (V : GV) (y : Nat → Nat) (D9 : Nat → Int32) (a1 : Int32) (py0_1 : Int32) (o10 : Value) (o11 : Value) (py0_12 : Int32) (py0_13 : Int32) (py0_14 : Int32) (py2_0 : Int32) (py2_1 : Int32) (py2_2 : Int32) (py2_3 : Int32) (py2_4 : Int32) (py2_5 : Int32) (py2_13 : Int32) (py2_14 : Int32) (py2_15 : Int32) (py2_16 : Int32) (py2_17 : Int32) (fy3 : Nat → Int32) (fy9 : Nat → Int32) (fy20 : Nat → Int32) (fy21 : Nat → Int32) (fy22 : Nat → Int32) (py26_3 : Int32) (fy27 : Nat → Int32) (fy28 : Nat → Int32) (fy29 : Nat → Int32) (bpy0_1 : iv 0 900 py0_1) (bpy0_12 : iv 0 9999 py0_12) (bpy0_13 : iv 0 9 py0_13) (bpy2_1 : iv 0 4 py2_1) (bpy2_2 : iv 0 4 py2_2) (bpy2_3 : iv 0 8 py2_3) (bpy2_4 : iv 0 9999 py2_4) (bpy2_5 : iv 0 9 py2_5) (bpy2_13 : iv 0 900 py2_13) (bpy2_14 : iv 0 900 py2_14) (bpy2_15 : iv 0 900 py2_15) (bpy2_16 : iv 0 900 py2_16) (bpy2_17 : iv 0 900 py2_17) (tfy20 : ∀ j, iv 0 10 (fy20 j)) (bpy26_3 : iv 0 10 py26_3) (tfy27 : ∀ j, iv 0 9999 (fy27 j)) (tfy28 : ∀ j, iv 0 9 (fy28 j)) (hL9 : LW D9 fy3 fy9 py2_14 py2_15 py2_16 py2_17) (hK9 : KN D9 fy20) : Ct l V yX9_night (.code yX9_night cX9_night 2 (some .int)) 7 [.ref (y 0), .int a1] [(y 0, .inr (9, o9_rirrrrrrrrvviii (y 1) py0_1 (y 2) (y 10) (y 19) (y 25) (y 26) (y 30) (y 31) (y 32) o10 o11 py0_12 py0_13 py0_14)), (y 2, .inr (1, o1_iiiiiirrrrrrriiiii py2_0 py2_1 py2_2 py2_3 py2_4 py2_5 (y 3) (y 4) (y 5) (y 6) (y 7) (y 8) (y 9) py2_13 py2_14 py2_15 py2_16 py2_17)), (y 3, aI V 4 fy3), (y 9, aI V 900 fy9), (y 19, .inr (4, o4_rrrrrr (y 2) (y 20) (y 21) (y 22) (y 23) (y 24))), (y 20, aI V 2000 fy20), (y 21, aI V 6 fy21), (y 22, aI V 64 fy22), (y 26, .inr (5, o5_rrri (y 27) (y 28) (y 29) py26_3)), (y 27, aI V 10 fy27), (y 28, aI V 10 fy28), (y 29, aI V 10 fy29)] 0 0 (QI V (fun (r : Int32) (w : va_W) => ∃ (v0 : Int32) (v1 : Int32) (v2 : Int32) (g3 : Nat → Int32) (g4 : Nat → Int32) (g5 : Nat → Int32) (v6 : Int32) (g7 : Nat → Int32) (g8 : Nat → Int32) (g9 : Nat → Int32), iv 0 9999 v0 ∧ iv 0 9 v1 ∧ (∀ j, iv 0 10 (g3 j)) ∧ iv 0 10 v6 ∧ (∀ j, iv 0 9999 (g7 j)) ∧ (∀ j, iv 0 9 (g8 j)) ∧ r = (F_k_X9_night_0 D9 a1 py0_12 py0_13 py0_14 py2_1 py26_3 fy27 fy28 fy29).1 ∧ v0 = (F_k_X9_night_0 D9 a1 py0_12 py0_13 py0_14 py2_1 py26_3 fy27 fy28 fy29).2.1 ∧ v1 = (F_k_X9_night_0 D9 a1 py0_12 py0_13 py0_14 py2_1 py26_3 fy27 fy28 fy29).2.2.1 ∧ v2 = (F_k_X9_night_0 D9 a1 py0_12 py0_13 py0_14 py2_1 py26_3 fy27 fy28 fy29).2.2.2.1 ∧ v6 = (F_k_X9_night_0 D9 a1 py0_12 py0_13 py0_14 py2_1 py26_3 fy27 fy28 fy29).2.2.2.2.1 ∧ g7 = (F_k_X9_night_0 D9 a1 py0_12 py0_13 py0_14 py2_1 py26_3 fy27 fy28 fy29).2.2.2.2.2.1 ∧ g8 = (F_k_X9_night_0 D9 a1 py0_12 py0_13 py0_14 py2_1 py26_3 fy27 fy28 fy29).2.2.2.2.2.2.1 ∧ g9 = (F_k_X9_night_0 D9 a1 py0_12 py0_13 py0_14 py2_1 py26_3 fy27 fy28 fy29).2.2.2.2.2.2.2 ∧ KN D9 g3 ∧ w = [(y 0, .inr (9, o9_rirrrrrrrrvviii (y 1) py0_1 (y 2) (y 10) (y 19) (y 25) (y 26) (y 30) (y 31) (y 32) o10 o11 v0 v1 v2)), (y 2, .inr (1, o1_iiiiiirrrrrrriiiii py2_0 py2_1 py2_2 py2_3 py2_4 py2_5 (y 3) (y 4) (y 5) (y 6) (y 7) (y 8) (y 9) py2_13 py2_14 py2_15 py2_16 py2_17)), (y 3, aI V 4 fy3), (y 9, aI V 900 fy9), (y 19, .inr (4, o4_rrrrrr (y 2) (y 20) (y 21) (y 22) (y 23) (y 24))), (y 20, aI V 2000 g3), (y 21, aI V 6 g4), (y 22, aI V 64 g5), (y 26, .inr (5, o5_rrri (y 27) (y 28) (y 29) v6)), (y 27, aI V 10 g7), (y 28, aI V 10 g8), (y 29, aI V 10 g9)])) := by
  refine Ct.of (by decide) (Nat.le_of_ble_eq_true rfl) (fun p e s m below meth c A ls hx hb hr hml hown hlk hnm hg hP hK hD hE hA hS hl => ?_)
  have hl : lv_has ls 2 [(0, .ref (y 0)), (1, .int a1)] := hl
  obtain ⟨T0, hT0⟩ : ∃ T9, T9 = F_k_X9_night_0 D9 a1 py0_12 py0_13 py0_14 py2_1 py26_3 fy27 fy28 fy29 := ⟨_, rfl⟩
  have hR := hT0.trans (F_k_X9_night_0.eq_1 ..)
  refine lv_aload_n hx hb dX9_night_0 rfl (lv_at hl 0 rfl) ?_
  refine lv_iload_n hx hb dX9_night_1 rfl (lv_at hl 1 rfl) ?_
  refine lv_i2l hx hb dX9_night_2 rfl ?_
  refine lv_topl (fun j_1 ej_1 => ?_)
  replace hR := tb hR ej_1
  refine jnI (wr := [(y 3, aI V 4 fy3), (y 9, aI V 900 fy9), (y 19, .inr (4, o4_rrrrrr (y 2) (y 20) (y 21) (y 22) (y 23) (y 24))), (y 20, aI V 2000 fy20), (y 21, aI V 6 fy21), (y 22, aI V 64 fy22), (y 26, .inr (5, o5_rrri (y 27) (y 28) (y 29) py26_3)), (y 27, aI V 10 fy27), (y 28, aI V 10 fy28), (y 29, aI V 10 fy29)]) (rnV (rest := []) ⟨hx, hb, hml, hown, hg⟩ (k_X9_isNight_0 l V y j_1 py0_1 o10 o11 py0_12 py0_13 py0_14 py2_0 py2_1 py2_2 py2_3 py2_4 py2_5 py2_13 py2_14 py2_15 py2_16 py2_17 bpy0_1 bpy0_12 bpy0_13 bpy2_1 bpy2_2 bpy2_3 bpy2_4 bpy2_5 bpy2_13 bpy2_14 bpy2_15 bpy2_16 bpy2_17) mt_X9_isNight q_3_141 ⟨Nat.le_of_ble_eq_true rfl, Nat.le_of_ble_eq_true rfl⟩ hK hP hD hS hA hE [0, 1] rfl rfl 0 rfl rfl rfl rfl hl.1 rfl (Nat.le_of_ble_eq_true rfl) dX9_night_3 ⟨Nat.le_of_ble_eq_true rfl, Nat.le_of_ble_eq_true rfl⟩) hP hD hS hA [0, 1] [2, 3, 4, 5, 6, 7, 8, 9, 10, 11] rfl rfl rfl (by decide) (fun r_2 w H locs hw hP hD hS => ?_)
  obtain ⟨br_2, et_3, rfl⟩ := hw
  replace hR := tb hR et_3
  have hP : va_P V.1 vwCl [(y 3, aI V 4 fy3), (y 9, aI V 900 fy9), (y 19, .inr (4, o4_rrrrrr (y 2) (y 20) (y 21) (y 22) (y 23) (y 24))), (y 20, aI V 2000 fy20), (y 21, aI V 6 fy21), (y 22, aI V 64 fy22), (y 26, .inr (5, o5_rrri (y 27) (y 28) (y 29) py26_3)), (y 27, aI V 10 fy27), (y 28, aI V 10 fy28), (y 29, aI V 10 fy29), (y 0, .inr (9, o9_rirrrrrrrrvviii (y 1) py0_1 (y 2) (y 10) (y 19) (y 25) (y 26) (y 30) (y 31) (y 32) o10 o11 py0_12 py0_13 py0_14)), (y 2, .inr (1, o1_iiiiiirrrrrrriiiii py2_0 py2_1 py2_2 py2_3 py2_4 py2_5 (y 3) (y 4) (y 5) (y 6) (y 7) (y 8) (y 9) py2_13 py2_14 py2_15 py2_16 py2_17))] H := hP
  have hD := cpD hP hD
  refine lv_if_ne (tgt := 12) hx hb dX9_night_6 (by decide) (fun c_5 => ?_) (fun c_5 => ?_)
  · replace hR := te hR c_5
    have b_6 : iv 1 1 r_2 := iv_n0 c_5 br_2 (iv_c (0 : Int32) (a := 0) (b := 0) (by decide)) (by decide)
    refine lv_aload_n hx hb dX9_night_12 rfl (lv_at hl 0 rfl) ?_
    refine va_get (ci := 9) (v := .ref (y 26)) (C := RX9) (T := TX9) (N := 15) hx hb hg inX9 hown hK hP 10 rfl rfl 6 (by decide) (hg _ q_2_42) (fun _ h9 => h9) rfl dX9_night_13 ?_
    refine lv_aload_n hx hb dX9_night_16 rfl (lv_at hl 0 rfl) ?_
    refine va_get (ci := 9) (v := .int py0_12) (C := RX9) (T := TX9) (N := 15) hx hb hg inX9 hown hK hP 10 rfl rfl 12 (by decide) (hg _ q_2_48) (fun _ h9 => h9) rfl dX9_night_17 ?_
    refine lv_aload_n hx hb dX9_night_20 rfl (lv_at hl 0 rfl) ?_
    refine va_get (ci := 9) (v := .int py0_13) (C := RX9) (T := TX9) (N := 15) hx hb hg inX9 hown hK hP 10 rfl rfl 13 (by decide) (hg _ q_2_49) (fun _ h9 => h9) rfl dX9_night_21 ?_
    refine lv_aload_n hx hb dX9_night_24 rfl (lv_at hl 0 rfl) ?_
    refine va_get (ci := 9) (v := .int py0_14) (C := RX9) (T := TX9) (N := 15) hx hb hg inX9 hown hK hP 10 rfl rfl 14 (by decide) (hg _ q_2_50) (fun _ h9 => h9) rfl dX9_night_25 ?_
    refine jnV (wr := [(y 3, aI V 4 fy3), (y 9, aI V 900 fy9), (y 19, .inr (4, o4_rrrrrr (y 2) (y 20) (y 21) (y 22) (y 23) (y 24))), (y 20, aI V 2000 fy20), (y 21, aI V 6 fy21), (y 22, aI V 64 fy22), (y 0, .inr (9, o9_rirrrrrrrrvviii (y 1) py0_1 (y 2) (y 10) (y 19) (y 25) (y 26) (y 30) (y 31) (y 32) o10 o11 py0_12 py0_13 py0_14)), (y 2, .inr (1, o1_iiiiiirrrrrrriiiii py2_0 py2_1 py2_2 py2_3 py2_4 py2_5 (y 3) (y 4) (y 5) (y 6) (y 7) (y 8) (y 9) py2_13 py2_14 py2_15 py2_16 py2_17))]) (rnV (rest := []) ⟨hx, hb, hml, hown, hg⟩ (k_X5_keep_0 l V y py0_12 py0_13 py0_14 py26_3 fy27 fy28 fy29 bpy0_12 bpy0_13 bpy26_3 tfy27 tfy28) mt_X5_keep q_3_177 ⟨Nat.le_of_ble_eq_true rfl, Nat.le_of_ble_eq_true rfl⟩ hK hP hD hS hA hE [6, 7, 8, 9] rfl rfl 6 rfl rfl rfl rfl hl.1 rfl (Nat.le_of_ble_eq_true rfl) dX9_night_28 ⟨Nat.le_of_ble_eq_true rfl, Nat.le_of_ble_eq_true rfl⟩) hP hD hS hA [6, 7, 8, 9] [0, 1, 2, 3, 4, 5, 10, 11] rfl rfl rfl (by decide) (fun  w H locs hw hP hD hS => ?_)
    obtain ⟨v_7, f_8, f_9, f_10, bv_7, tf_8, tf_9, et_11, et_12, et_13, et_14, rfl⟩ := hw
    replace hR := tb0 hR
    replace hR := tb hR et_11
    replace hR := tb hR et_12
    replace hR := tb hR et_13
    replace hR := tb hR et_14
    have hP : va_P V.1 vwCl [(y 3, aI V 4 fy3), (y 9, aI V 900 fy9), (y 19, .inr (4, o4_rrrrrr (y 2) (y 20) (y 21) (y 22) (y 23) (y 24))), (y 20, aI V 2000 fy20), (y 21, aI V 6 fy21), (y 22, aI V 64 fy22), (y 0, .inr (9, o9_rirrrrrrrrvviii (y 1) py0_1 (y 2) (y 10) (y 19) (y 25) (y 26) (y 30) (y 31) (y 32) o10 o11 py0_12 py0_13 py0_14)), (y 2, .inr (1, o1_iiiiiirrrrrrriiiii py2_0 py2_1 py2_2 py2_3 py2_4 py2_5 (y 3) (y 4) (y 5) (y 6) (y 7) (y 8) (y 9) py2_13 py2_14 py2_15 py2_16 py2_17)), (y 26, .inr (5, o5_rrri (y 27) (y 28) (y 29) v_7)), (y 27, aI V 10 f_8), (y 28, aI V 10 f_9), (y 29, aI V 10 f_10)] H := hP
    have hD := cpD hP hD
    refine lv_aload_n hx hb dX9_night_31 rfl (lv_at hl 0 rfl) ?_
    refine lv_iload_n hx hb dX9_night_32 rfl (lv_at hl 1 rfl) ?_
    refine lv_i2l hx hb dX9_night_33 rfl ?_
    refine lv_topl (fun j_16 ej_16 => ?_)
    replace hR := tb hR ej_16
    refine jnI (wr := [(y 26, .inr (5, o5_rrri (y 27) (y 28) (y 29) v_7)), (y 27, aI V 10 f_8), (y 28, aI V 10 f_9), (y 29, aI V 10 f_10)]) (rnV (rest := []) ⟨hx, hb, hml, hown, hg⟩ (k_X9_tryDeed_0 l V y D9 j_16 fy3 fy9 fy20 fy21 fy22 py0_1 o10 o11 py0_12 py0_13 py0_14 py2_0 py2_1 py2_2 py2_3 py2_4 py2_5 py2_13 py2_14 py2_15 py2_16 py2_17 tfy20 bpy0_1 bpy0_12 bpy0_13 bpy2_1 bpy2_2 bpy2_3 bpy2_4 bpy2_5 bpy2_13 bpy2_14 bpy2_15 bpy2_16 bpy2_17 hL9 hK9) mt_X9_tryDeed q_3_185 ⟨Nat.le_of_ble_eq_true rfl, Nat.le_of_ble_eq_true rfl⟩ hK hP hD hS hA hE [0, 1, 2, 3, 4, 5, 6, 7] rfl rfl 6 rfl rfl rfl rfl hl.1 rfl (Nat.le_of_ble_eq_true rfl) dX9_night_34 ⟨Nat.le_of_ble_eq_true rfl, Nat.le_of_ble_eq_true rfl⟩) hP hD hS hA [0, 1, 2, 3, 4, 5, 6, 7] [8, 9, 10, 11] rfl rfl rfl (by decide) (fun r_17 w H locs hw hP hD hS => ?_)
    obtain ⟨f_18, f_19, f_20, v_21, v_22, v_23, tf_18, bv_21, bv_22, br_17, et_24, et_25, et_26, et_27, kn_28, rfl⟩ := hw
    replace hR := tb0 hR
    replace hR := tb hR et_24
    replace hR := tb hR et_25
    replace hR := tb hR et_26
    replace hR := tb hR et_27
    have hP : va_P V.1 vwCl [(y 26, .inr (5, o5_rrri (y 27) (y 28) (y 29) v_7)), (y 27, aI V 10 f_8), (y 28, aI V 10 f_9), (y 29, aI V 10 f_10), (y 3, aI V 4 fy3), (y 9, aI V 900 fy9), (y 19, .inr (4, o4_rrrrrr (y 2) (y 20) (y 21) (y 22) (y 23) (y 24))), (y 20, aI V 2000 f_18), (y 21, aI V 6 f_19), (y 22, aI V 64 f_20), (y 0, .inr (9, o9_rirrrrrrrrvviii (y 1) py0_1 (y 2) (y 10) (y 19) (y 25) (y 26) (y 30) (y 31) (y 32) o10 o11 v_21 v_22 v_23)), (y 2, .inr (1, o1_iiiiiirrrrrrriiiii py2_0 py2_1 py2_2 py2_3 py2_4 py2_5 (y 3) (y 4) (y 5) (y 6) (y 7) (y 8) (y 9) py2_13 py2_14 py2_15 py2_16 py2_17))] H := hP
    have hD := cpD hP hD
    refine lv_pop hx hb dX9_night_37 rfl ?_
    refine lv_aload_n hx hb dX9_night_38 rfl (lv_at hl 0 rfl) ?_
    refine va_get (ci := 9) (v := .int v_21) (C := RX9) (T := TX9) (N := 15) hx hb hg inX9 hown hK hP 10 rfl rfl 12 (by decide) (hg _ q_2_48) (fun _ h9 => h9) rfl dX9_night_39 ?_
    refine jnI (wr := [(y 26, .inr (5, o5_rrri (y 27) (y 28) (y 29) v_7)), (y 27, aI V 10 f_8), (y 28, aI V 10 f_9), (y 29, aI V 10 f_10), (y 3, aI V 4 fy3), (y 9, aI V 900 fy9), (y 19, .inr (4, o4_rrrrrr (y 2) (y 20) (y 21) (y 22) (y 23) (y 24))), (y 20, aI V 2000 f_18), (y 21, aI V 6 f_19), (y 22, aI V 64 f_20), (y 0, .inr (9, o9_rirrrrrrrrvviii (y 1) py0_1 (y 2) (y 10) (y 19) (y 25) (y 26) (y 30) (y 31) (y 32) o10 o11 v_21 v_22 v_23)), (y 2, .inr (1, o1_iiiiiirrrrrrriiiii py2_0 py2_1 py2_2 py2_3 py2_4 py2_5 (y 3) (y 4) (y 5) (y 6) (y 7) (y 8) (y 9) py2_13 py2_14 py2_15 py2_16 py2_17))]) (rnS (rest := []) ⟨hx, hb, hml, hown, hg⟩ (k_X9_tookBits_0 l V v_21 bv_21) mt_X9_tookBits q_3_201 ⟨Nat.le_of_ble_eq_true rfl, Nat.le_of_ble_eq_true rfl⟩ hK hP hD hS hA hE [] rfl rfl rfl hl.1 rfl (Nat.le_of_ble_eq_true rfl) dX9_night_42 ⟨Nat.le_of_ble_eq_true rfl, Nat.le_of_ble_eq_true rfl⟩) hP hD hS hA [] [0, 1, 2, 3, 4, 5, 6, 7, 8, 9, 10, 11] rfl rfl rfl (by decide) (fun r_30 w H locs hw hP hD hS => ?_)
    obtain ⟨er_30, et_31, rfl⟩ := hw
    replace hR := tb hR et_31
    have hP : va_P V.1 vwCl [(y 26, .inr (5, o5_rrri (y 27) (y 28) (y 29) v_7)), (y 27, aI V 10 f_8), (y 28, aI V 10 f_9), (y 29, aI V 10 f_10), (y 3, aI V 4 fy3), (y 9, aI V 900 fy9), (y 19, .inr (4, o4_rrrrrr (y 2) (y 20) (y 21) (y 22) (y 23) (y 24))), (y 20, aI V 2000 f_18), (y 21, aI V 6 f_19), (y 22, aI V 64 f_20), (y 0, .inr (9, o9_rirrrrrrrrvviii (y 1) py0_1 (y 2) (y 10) (y 19) (y 25) (y 26) (y 30) (y 31) (y 32) o10 o11 v_21 v_22 v_23)), (y 2, .inr (1, o1_iiiiiirrrrrrriiiii py2_0 py2_1 py2_2 py2_3 py2_4 py2_5 (y 3) (y 4) (y 5) (y 6) (y 7) (y 8) (y 9) py2_13 py2_14 py2_15 py2_16 py2_17))] H := hP
    have hD := cpD hP hD
    have hP := subP (ws' := [(y 0, .inr (9, o9_rirrrrrrrrvviii (y 1) py0_1 (y 2) (y 10) (y 19) (y 25) (y 26) (y 30) (y 31) (y 32) o10 o11 v_21 v_22 v_23)), (y 2, .inr (1, o1_iiiiiirrrrrrriiiii py2_0 py2_1 py2_2 py2_3 py2_4 py2_5 (y 3) (y 4) (y 5) (y 6) (y 7) (y 8) (y 9) py2_13 py2_14 py2_15 py2_16 py2_17)), (y 3, aI V 4 fy3), (y 9, aI V 900 fy9), (y 19, .inr (4, o4_rrrrrr (y 2) (y 20) (y 21) (y 22) (y 23) (y 24))), (y 20, aI V 2000 f_18), (y 21, aI V 6 f_19), (y 22, aI V 64 f_20), (y 26, .inr (5, o5_rrri (y 27) (y 28) (y 29) v_7)), (y 27, aI V 10 f_8), (y 28, aI V 10 f_9), (y 29, aI V 10 f_10)]) hP [10, 11, 4, 5, 6, 7, 8, 9, 0, 1, 2, 3] rfl
    have hD := subD hP hD [10, 11, 4, 5, 6, 7, 8, 9, 0, 1, 2, 3] rfl rfl
    exact fiI hx hb hr hlk hK hP hD hS dX9_night_45 (Nat.le_of_ble_eq_true rfl) (Nat.le_of_ble_eq_true rfl) (⟨v_21, v_22, v_23, f_18, f_19, f_20, v_7, f_8, f_9, f_10, bv_21, bv_22, tf_18, bv_7, tf_8, tf_9, (congrArg Prod.fst (hR.symm.trans hT0)), (congrArg Prod.fst (congrArg Prod.snd (hR.symm.trans hT0))), (congrArg Prod.fst (congrArg Prod.snd (congrArg Prod.snd (hR.symm.trans hT0)))), (congrArg Prod.fst (congrArg Prod.snd (congrArg Prod.snd (congrArg Prod.snd (hR.symm.trans hT0))))), (congrArg Prod.fst (congrArg Prod.snd (congrArg Prod.snd (congrArg Prod.snd (congrArg Prod.snd (hR.symm.trans hT0)))))), (congrArg Prod.fst (congrArg Prod.snd (congrArg Prod.snd (congrArg Prod.snd (congrArg Prod.snd (congrArg Prod.snd (hR.symm.trans hT0))))))), (congrArg Prod.fst (congrArg Prod.snd (congrArg Prod.snd (congrArg Prod.snd (congrArg Prod.snd (congrArg Prod.snd (congrArg Prod.snd (hR.symm.trans hT0)))))))), (congrArg Prod.snd (congrArg Prod.snd (congrArg Prod.snd (congrArg Prod.snd (congrArg Prod.snd (congrArg Prod.snd (congrArg Prod.snd (hR.symm.trans hT0)))))))), kn_28, rfl⟩)
  · replace hR := ti hR c_5
    have b_33 : iv 0 0 r_2 := iv_q c_5 (iv_c (0 : Int32) (a := 0) (b := 0) (by decide))
    refine lv_bipush (v := (-11)) hx hb dX9_night_9 (by decide) ?_
    have hP := subP (ws' := [(y 0, .inr (9, o9_rirrrrrrrrvviii (y 1) py0_1 (y 2) (y 10) (y 19) (y 25) (y 26) (y 30) (y 31) (y 32) o10 o11 py0_12 py0_13 py0_14)), (y 2, .inr (1, o1_iiiiiirrrrrrriiiii py2_0 py2_1 py2_2 py2_3 py2_4 py2_5 (y 3) (y 4) (y 5) (y 6) (y 7) (y 8) (y 9) py2_13 py2_14 py2_15 py2_16 py2_17)), (y 3, aI V 4 fy3), (y 9, aI V 900 fy9), (y 19, .inr (4, o4_rrrrrr (y 2) (y 20) (y 21) (y 22) (y 23) (y 24))), (y 20, aI V 2000 fy20), (y 21, aI V 6 fy21), (y 22, aI V 64 fy22), (y 26, .inr (5, o5_rrri (y 27) (y 28) (y 29) py26_3)), (y 27, aI V 10 fy27), (y 28, aI V 10 fy28), (y 29, aI V 10 fy29)]) hP [10, 11, 0, 1, 2, 3, 4, 5, 6, 7, 8, 9] rfl
    have hD := subD hP hD [10, 11, 0, 1, 2, 3, 4, 5, 6, 7, 8, 9] rfl rfl
    exact fiI hx hb hr hlk hK hP hD hS dX9_night_11 (Nat.le_of_ble_eq_true rfl) (Nat.le_of_ble_eq_true rfl) (⟨py0_12, py0_13, py0_14, fy20, fy21, fy22, py26_3, fy27, fy28, fy29, bpy0_12, bpy0_13, tfy20, bpy26_3, tfy27, tfy28, (congrArg Prod.fst (hR.symm.trans hT0)), (congrArg Prod.fst (congrArg Prod.snd (hR.symm.trans hT0))), (congrArg Prod.fst (congrArg Prod.snd (congrArg Prod.snd (hR.symm.trans hT0)))), (congrArg Prod.fst (congrArg Prod.snd (congrArg Prod.snd (congrArg Prod.snd (hR.symm.trans hT0))))), (congrArg Prod.fst (congrArg Prod.snd (congrArg Prod.snd (congrArg Prod.snd (congrArg Prod.snd (hR.symm.trans hT0)))))), (congrArg Prod.fst (congrArg Prod.snd (congrArg Prod.snd (congrArg Prod.snd (congrArg Prod.snd (congrArg Prod.snd (hR.symm.trans hT0))))))), (congrArg Prod.fst (congrArg Prod.snd (congrArg Prod.snd (congrArg Prod.snd (congrArg Prod.snd (congrArg Prod.snd (congrArg Prod.snd (hR.symm.trans hT0)))))))), (congrArg Prod.snd (congrArg Prod.snd (congrArg Prod.snd (congrArg Prod.snd (congrArg Prod.snd (congrArg Prod.snd (congrArg Prod.snd (hR.symm.trans hT0)))))))), hK9, rfl⟩)
