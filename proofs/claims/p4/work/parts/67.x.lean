theorem dX10_firstBy_0 : decode cX10_firstBy 0 = .ok (.aload_n 0, 1) := by decide +kernel
theorem dX10_firstBy_1 : decode cX10_firstBy 1 = .ok (.getfield 49, 3) := by decide +kernel
theorem dX10_firstBy_4 : decode cX10_firstBy 4 = .ok (.iconst 4, 1) := by decide +kernel
theorem dX10_firstBy_5 : decode cX10_firstBy 5 = .ok (.iload_n 1, 1) := by decide +kernel
theorem dX10_firstBy_6 : decode cX10_firstBy 6 = .ok (.imul, 1) := by decide +kernel
theorem dX10_firstBy_7 : decode cX10_firstBy 7 = .ok (.iload_n 2, 1) := by decide +kernel
theorem dX10_firstBy_8 : decode cX10_firstBy 8 = .ok (.iadd, 1) := by decide +kernel
theorem dX10_firstBy_9 : decode cX10_firstBy 9 = .ok (.iaload, 1) := by decide +kernel
theorem dX10_firstBy_10 : decode cX10_firstBy 10 = .ok (.istore_n 3, 1) := by decide +kernel
theorem dX10_firstBy_11 : decode cX10_firstBy 11 = .ok (.iload_n 3, 1) := by decide +kernel
theorem dX10_firstBy_12 : decode cX10_firstBy 12 = .ok (.iconst (-1), 1) := by decide +kernel
theorem dX10_firstBy_13 : decode cX10_firstBy 13 = .ok (.if_icmp .eq 15, 3) := by decide +kernel
theorem dX10_firstBy_28 : decode cX10_firstBy 28 = .ok (.ldc_w 361, 3) := by decide +kernel
theorem dX10_firstBy_31 : decode cX10_firstBy 31 = .ok (.goto 11, 3) := by decide +kernel
theorem dX10_firstBy_42 : decode cX10_firstBy 42 = .ok (.ireturn, 1) := by decide +kernel
theorem dX10_firstBy_16 : decode cX10_firstBy 16 = .ok (.aload_n 0, 1) := by decide +kernel
theorem q_6_11 : Cond.fieldLink "BeaconDelayModel" 55 "BeaconDelayModel" "farOther" "[I" ∈ gw := gw_6 (i := 11) (by decide +kernel) rfl
theorem dX10_firstBy_17 : decode cX10_firstBy 17 = .ok (.getfield 55, 3) := by decide +kernel
theorem dX10_firstBy_20 : decode cX10_firstBy 20 = .ok (.iload_n 3, 1) := by decide +kernel
theorem dX10_firstBy_21 : decode cX10_firstBy 21 = .ok (.iaload, 1) := by decide +kernel
theorem dX10_firstBy_22 : decode cX10_firstBy 22 = .ok (.ldc_w 361, 3) := by decide +kernel
theorem dX10_firstBy_25 : decode cX10_firstBy 25 = .ok (.if_icmp .ne 9, 3) := by decide +kernel
theorem dX10_firstBy_34 : decode cX10_firstBy 34 = .ok (.aload_n 0, 1) := by decide +kernel
theorem dX10_firstBy_35 : decode cX10_firstBy 35 = .ok (.getfield 55, 3) := by decide +kernel
theorem dX10_firstBy_38 : decode cX10_firstBy 38 = .ok (.iload_n 3, 1) := by decide +kernel
theorem dX10_firstBy_39 : decode cX10_firstBy 39 = .ok (.iaload, 1) := by decide +kernel
theorem dX10_firstBy_40 : decode cX10_firstBy 40 = .ok (.iconst 1, 1) := by decide +kernel
theorem dX10_firstBy_41 : decode cX10_firstBy 41 = .ok (.iadd, 1) := by decide +kernel
set_option maxHeartbeats 4000000 in
set_option maxRecDepth 100000 in
theorem k_X10_firstBy_0 (l : Launch) (V : GV) (z : Nat → Nat) (a1 : Int32) (a2 : Int32) (fz27 : Nat → Int32) (fz25 : Nat → Int32) (pz0_0 : Int32) (pz0_5 : Int32) (pz0_6 : Int32) (pz0_7 : Int32) (pz0_8 : Int32) (pz0_9 : Int32) (pz0_10 : Int32) (pz0_11 : Int32) (pz0_12 : Int32) (pz0_13 : Int32) (pz0_14 : Int32) (pz0_18 : Int32) (pz0_19 : Int32) (pz0_22 : Int32) (pz0_23 : Int32) (pz0_29 : Int32) (ba1 : iv 0 9999 a1) (ba2 : iv 0 3 a2) (tfz27 : ∀ j, iv 0 268435456 (fz27 j)) (tfz25 : ∀ j, iv (-1) 9999 (fz25 j)) (bpz0_5 : iv 0 900 pz0_5) (bpz0_6 : iv 0 900 pz0_6) (bpz0_7 : iv 0 900 pz0_7) (bpz0_8 : iv 0 900 pz0_8) (bpz0_10 : iv 0 999 pz0_10) (bpz0_11 : iv 0 4 pz0_11) (bpz0_12 : iv 0 900 pz0_12) (bpz0_13 : iv 0 4 pz0_13) (bpz0_14 : iv (-1) 900 pz0_14) (bpz0_18 : iv 0 2 pz0_18) (bpz0_22 : iv 0 9999 pz0_22) (bpz0_29 : iv 0 10000 pz0_29) : Ct l V yX10_firstBy (.code yX10_firstBy cX10_firstBy 4 (some .int)) 1 [.ref (z 0), .int a1, .int a2] [(z 27, aI V 10000 fz27), (z 25, aI V 40000 fz25), (z 0, .inr (10, mo z pz0_0 pz0_5 pz0_6 pz0_7 pz0_8 pz0_9 pz0_10 pz0_11 pz0_12 pz0_13 pz0_14 pz0_18 pz0_19 pz0_22 pz0_23 pz0_29))] 0 0 (QI V (fun (r : Int32) (w : va_W) => iv 1 268435456 r ∧ r = fN fz25 fz27 (a1 : Int32).toNatClampNeg (a2 : Int32).toNatClampNeg ∧ w = [(z 27, aI V 10000 fz27), (z 25, aI V 40000 fz25), (z 0, .inr (10, mo z pz0_0 pz0_5 pz0_6 pz0_7 pz0_8 pz0_9 pz0_10 pz0_11 pz0_12 pz0_13 pz0_14 pz0_18 pz0_19 pz0_22 pz0_23 pz0_29))])) := by
  refine Ct.of (by decide) (Nat.le_of_ble_eq_true rfl) (fun p e s m below meth c A ls hx hb hr hml hown hlk hnm hg hP hK hD hE hA hS hl => ?_)
  have hl : lv_has ls 4 [(0, .ref (z 0)), (1, .int a1), (2, .int a2)] := hl
  refine lv_aload_n hx hb dX10_firstBy_0 rfl (lv_at hl 0 rfl) ?_
  refine va_get (ci := 10) (v := .ref (z 25)) (C := RX10) (T := TX10) (N := 40) hx hb hg inX10 hown hK hP 2 rfl rfl 25 (by decide) (hg _ q_6_9) (fun _ h9 => h9) rfl dX10_firstBy_1 ?_
  refine lv_iconst (v := 4) hx hb dX10_firstBy_4 (by decide) ?_
  refine lv_iload_n hx hb dX10_firstBy_5 rfl (lv_at hl 1 rfl) ?_
  refine lv_imul hx hb dX10_firstBy_6 ?_
  refine lv_topi (fun x_1 ex_1 => ?_)
  have bx_1 : iv 0 39996 x_1 := by rw [ex_1]; exact iv_cmul (iv_c (4 : Int32) (a := 4) (b := 4) (by decide)) ba1 (by decide)
  refine lv_iload_n hx hb dX10_firstBy_7 rfl (lv_at hl 2 rfl) ?_
  refine lv_iadd hx hb dX10_firstBy_8 ?_
  refine lv_topi (fun x_2 ex_2 => ?_)
  have bx_2 : iv 0 39999 x_2 := by rw [ex_2]; exact iv_add bx_1 ba2 (by decide)
  refine va_iald hx hb hK hP 1 0 rfl rfl (iv_in bx_2 (by decide)) dX10_firstBy_9 ?_
  refine lv_topi (fun x_3 ex_3 => ?_)
  have bx_3 : iv (-1) 9999 x_3 := by rw [ex_3]; exact tfz25 _
  refine lv_istore_n (lv' := [(3, .int x_3), (0, .ref (z 0)), (1, .int a1), (2, .int a2)]) hx hb dX10_firstBy_10 rfl hl (by decide) rfl (fun ls hl => ?_)
  refine lv_iload_n hx hb dX10_firstBy_11 rfl (lv_at hl 0 rfl) ?_
  refine lv_iconst (v := (-1)) hx hb dX10_firstBy_12 (by decide) ?_
  refine lv_icmp_eq (tgt := 28) hx hb dX10_firstBy_13 (by decide) (fun c_4 => ?_) (fun c_4 => ?_)
  · have b_5 : iv (-1) (-1) x_3 := iv_q c_4 (iv_c ((-1) : Int32) (a := (-1)) (b := (-1)) (by decide))
    refine lv_ldcw (v := 268435456) hx hb hown (hg _ q_7_202) dX10_firstBy_28 ?_
    refine lv_goto (tgt := 42) hx hb dX10_firstBy_31 (by decide) ?_
    exact fiI hx hb hr hlk hK hP hD hS dX10_firstBy_42 (Nat.le_of_ble_eq_true rfl) (Nat.le_of_ble_eq_true rfl) (⟨(iv_c (268435456 : Int32) (by decide)), (fN_a ba1 ba2 (by decide) ex_1 ex_2 ex_3 c_4), rfl⟩)
  · have b_6 : iv 0 9999 x_3 := iv_n0 c_4 bx_3 (iv_c ((-1) : Int32) (a := (-1)) (b := (-1)) (by decide)) (by decide)
    refine lv_aload_n hx hb dX10_firstBy_16 rfl (lv_at hl 1 rfl) ?_
    refine va_get (ci := 10) (v := .ref (z 27)) (C := RX10) (T := TX10) (N := 40) hx hb hg inX10 hown hK hP 2 rfl rfl 27 (by decide) (hg _ q_6_11) (fun _ h9 => h9) rfl dX10_firstBy_17 ?_
    refine lv_iload_n hx hb dX10_firstBy_20 rfl (lv_at hl 0 rfl) ?_
    refine va_iald hx hb hK hP 0 0 rfl rfl (iv_in b_6 (by decide)) dX10_firstBy_21 ?_
    refine lv_topi (fun x_7 ex_7 => ?_)
    have bx_7 : iv 0 268435456 x_7 := by rw [ex_7]; exact tfz27 _
    refine lv_ldcw (v := 268435456) hx hb hown (hg _ q_7_202) dX10_firstBy_22 ?_
    refine lv_icmp_ne (tgt := 34) hx hb dX10_firstBy_25 (by decide) (fun c_8 => ?_) (fun c_8 => ?_)
    · have b_9 : iv 0 268435455 x_7 := iv_n1 c_8 bx_7 (iv_c (268435456 : Int32) (a := 268435456) (b := 268435456) (by decide)) (by decide)
      refine lv_aload_n hx hb dX10_firstBy_34 rfl (lv_at hl 1 rfl) ?_
      refine va_get (ci := 10) (v := .ref (z 27)) (C := RX10) (T := TX10) (N := 40) hx hb hg inX10 hown hK hP 2 rfl rfl 27 (by decide) (hg _ q_6_11) (fun _ h9 => h9) rfl dX10_firstBy_35 ?_
      refine lv_iload_n hx hb dX10_firstBy_38 rfl (lv_at hl 0 rfl) ?_
      refine va_iald hx hb hK hP 0 0 rfl rfl (iv_in b_6 (by decide)) dX10_firstBy_39 ?_
      refine tpi (y := x_7) ex_7.symm ?_
      refine lv_iconst (v := 1) hx hb dX10_firstBy_40 (by decide) ?_
      refine lv_iadd hx hb dX10_firstBy_41 ?_
      refine lv_topi (fun x_10 ex_10 => ?_)
      have bx_10 : iv 1 268435456 x_10 := by rw [ex_10]; exact iv_add b_9 (iv_c (1 : Int32) (a := 1) (b := 1) (by decide)) (by decide)
      exact fiI hx hb hr hlk hK hP hD hS dX10_firstBy_42 (Nat.le_of_ble_eq_true rfl) (Nat.le_of_ble_eq_true rfl) (⟨bx_10, (fN_c ba1 ba2 (by decide) ex_1 ex_2 ex_3 ex_7 c_4 c_8 ex_10), rfl⟩)
    · have b_11 : iv 268435456 268435456 x_7 := iv_q c_8 (iv_c (268435456 : Int32) (a := 268435456) (b := 268435456) (by decide))
      refine lv_ldcw (v := 268435456) hx hb hown (hg _ q_7_202) dX10_firstBy_28 ?_
      refine lv_goto (tgt := 42) hx hb dX10_firstBy_31 (by decide) ?_
      exact fiI hx hb hr hlk hK hP hD hS dX10_firstBy_42 (Nat.le_of_ble_eq_true rfl) (Nat.le_of_ble_eq_true rfl) (⟨(iv_c (268435456 : Int32) (by decide)), (fN_b ba1 ba2 (by decide) ex_1 ex_2 ex_3 ex_7 c_8), rfl⟩)
theorem dX10_laysForce_0 : decode cX10_laysForce 0 = .ok (.aload_n 0, 1) := by decide +kernel
theorem dX10_laysForce_1 : decode cX10_laysForce 1 = .ok (.invokevirtual 362, 3) := by decide +kernel
theorem dX10_laysForce_4 : decode cX10_laysForce 4 = .ok (.iconst 0, 1) := by decide +kernel
theorem dX10_laysForce_5 : decode cX10_laysForce 5 = .ok (.istore_n 3, 1) := by decide +kernel
theorem dX10_laysForce_6 : decode cX10_laysForce 6 = .ok (.iload_n 3, 1) := by decide +kernel
theorem dX10_laysForce_7 : decode cX10_laysForce 7 = .ok (.aload_n 0, 1) := by decide +kernel
theorem dX10_laysForce_8 : decode cX10_laysForce 8 = .ok (.getfield 355, 3) := by decide +kernel
theorem dX10_laysForce_11 : decode cX10_laysForce 11 = .ok (.if_icmp .ge 63, 3) := by decide +kernel
theorem dX10_laysForce_74 : decode cX10_laysForce 74 = .ok (.iconst 1, 1) := by decide +kernel
theorem dX10_laysForce_75 : decode cX10_laysForce 75 = .ok (.istore_n 3, 1) := by decide +kernel
theorem dX10_laysForce_76 : decode cX10_laysForce 76 = .ok (.iload_n 3, 1) := by decide +kernel
theorem dX10_laysForce_77 : decode cX10_laysForce 77 = .ok (.ifCond .eq 181, 3) := by decide +kernel
theorem dX10_laysForce_258 : decode cX10_laysForce 258 = .ok (.aload_n 0, 1) := by decide +kernel
theorem dX10_laysForce_259 : decode cX10_laysForce 259 = .ok (.getfield 52, 3) := by decide +kernel
theorem dX10_laysForce_262 : decode cX10_laysForce 262 = .ok (.aload_n 0, 1) := by decide +kernel
theorem dX10_laysForce_263 : decode cX10_laysForce 263 = .ok (.invokevirtual 269, 3) := by decide +kernel
theorem dX10_laysForce_266 : decode cX10_laysForce 266 = .ok (.iaload, 1) := by decide +kernel
theorem dX10_laysForce_267 : decode cX10_laysForce 267 = .ok (.ireturn, 1) := by decide +kernel
theorem dX10_laysForce_80 : decode cX10_laysForce 80 = .ok (.iconst 0, 1) := by decide +kernel
theorem dX10_laysForce_81 : decode cX10_laysForce 81 = .ok (.istore_n 3, 1) := by decide +kernel
theorem dX10_laysForce_82 : decode cX10_laysForce 82 = .ok (.aload_n 0, 1) := by decide +kernel
theorem dX10_laysForce_83 : decode cX10_laysForce 83 = .ok (.getfield 355, 3) := by decide +kernel
theorem dX10_laysForce_86 : decode cX10_laysForce 86 = .ok (.iconst 1, 1) := by decide +kernel
theorem dX10_laysForce_87 : decode cX10_laysForce 87 = .ok (.isub, 1) := by decide +kernel
theorem dX10_laysForce_88 : decode cX10_laysForce 88 = .ok (.istore 4, 2) := by decide +kernel
theorem dX10_laysForce_90 : decode cX10_laysForce 90 = .ok (.iload 4, 2) := by decide +kernel
theorem dX10_laysForce_92 : decode cX10_laysForce 92 = .ok (.ifCond .lt 163, 3) := by decide +kernel
theorem dX10_laysForce_255 : decode cX10_laysForce 255 = .ok (.goto (-179), 3) := by decide +kernel
theorem dX10_laysForce_95 : decode cX10_laysForce 95 = .ok (.aload_n 0, 1) := by decide +kernel
theorem dX10_laysForce_96 : decode cX10_laysForce 96 = .ok (.getfield 45, 3) := by decide +kernel
theorem dX10_laysForce_99 : decode cX10_laysForce 99 = .ok (.iload 4, 2) := by decide +kernel
theorem dX10_laysForce_101 : decode cX10_laysForce 101 = .ok (.iaload, 1) := by decide +kernel
theorem dX10_laysForce_102 : decode cX10_laysForce 102 = .ok (.istore 5, 2) := by decide +kernel
theorem dX10_laysForce_104 : decode cX10_laysForce 104 = .ok (.iload 5, 2) := by decide +kernel
theorem dX10_laysForce_106 : decode cX10_laysForce 106 = .ok (.iload_n 1, 1) := by decide +kernel
theorem dX10_laysForce_107 : decode cX10_laysForce 107 = .ok (.invokestatic 231, 3) := by decide +kernel
theorem dX10_laysForce_110 : decode cX10_laysForce 110 = .ok (.iload_n 2, 1) := by decide +kernel
theorem dX10_laysForce_111 : decode cX10_laysForce 111 = .ok (.if_icmp .ne 6, 3) := by decide +kernel
theorem dX10_laysForce_117 : decode cX10_laysForce 117 = .ok (.aload_n 0, 1) := by decide +kernel
theorem dX10_laysForce_118 : decode cX10_laysForce 118 = .ok (.getfield 52, 3) := by decide +kernel
theorem dX10_laysForce_121 : decode cX10_laysForce 121 = .ok (.iload 5, 2) := by decide +kernel
theorem dX10_laysForce_123 : decode cX10_laysForce 123 = .ok (.iaload, 1) := by decide +kernel
theorem dX10_laysForce_124 : decode cX10_laysForce 124 = .ok (.istore 6, 2) := by decide +kernel
theorem dX10_laysForce_126 : decode cX10_laysForce 126 = .ok (.iconst 0, 1) := by decide +kernel
theorem dX10_laysForce_127 : decode cX10_laysForce 127 = .ok (.istore 7, 2) := by decide +kernel
theorem dX10_laysForce_129 : decode cX10_laysForce 129 = .ok (.iload 7, 2) := by decide +kernel
theorem dX10_laysForce_131 : decode cX10_laysForce 131 = .ok (.iconst 4, 1) := by decide +kernel
theorem dX10_laysForce_132 : decode cX10_laysForce 132 = .ok (.if_icmp .ge 37, 3) := by decide +kernel
theorem dX10_laysForce_169 : decode cX10_laysForce 169 = .ok (.aload_n 0, 1) := by decide +kernel
theorem dX10_laysForce_170 : decode cX10_laysForce 170 = .ok (.iload 5, 2) := by decide +kernel
theorem q_8_104 : Cond.code yX10_otherAt prog_12_method_118_code 5 (some FieldType.int) ∈ gw := gw_8 (i := 104) (rfl) rfl
theorem q_8_103 : Cond.instanceMethod yX10_otherAt ∈ gw := gw_8 (i := 103) (by decide +kernel) rfl
theorem q_s_124 : Cond.selects "BeaconDelayModel" yX10_otherAt yX10_otherAt ∈ gw := gw_s (i := 124) (by decide +kernel) rfl
theorem mt_X10_otherAt : MtV yX10_otherAt cX10_otherAt 5 (some .int) 1 := ⟨⟨q_8_104, q_1_9, by decide +kernel, by decide +kernel, by decide +kernel⟩, q_8_103, q_s_124⟩
theorem q_8_101 : Cond.methodLink "BeaconDelayModel" 441 yX10_otherAt ∈ gw := gw_8 (i := 101) (by decide +kernel) rfl
theorem dX10_laysForce_172 : decode cX10_laysForce 172 = .ok (.invokevirtual 441, 3) := by decide +kernel
theorem dX10_laysForce_175 : decode cX10_laysForce 175 = .ok (.istore 7, 2) := by decide +kernel
theorem dX10_laysForce_177 : decode cX10_laysForce 177 = .ok (.iload_n 3, 1) := by decide +kernel
theorem dX10_laysForce_178 : decode cX10_laysForce 178 = .ok (.iload 6, 2) := by decide +kernel
theorem dX10_laysForce_180 : decode cX10_laysForce 180 = .ok (.aload_n 0, 1) := by decide +kernel
theorem dX10_laysForce_181 : decode cX10_laysForce 181 = .ok (.getfield 52, 3) := by decide +kernel
theorem dX10_laysForce_184 : decode cX10_laysForce 184 = .ok (.iload 5, 2) := by decide +kernel
theorem dX10_laysForce_186 : decode cX10_laysForce 186 = .ok (.iaload, 1) := by decide +kernel
theorem dX10_laysForce_187 : decode cX10_laysForce 187 = .ok (.if_icmp .lt 15, 3) := by decide +kernel
theorem dX10_laysForce_202 : decode cX10_laysForce 202 = .ok (.iconst 1, 1) := by decide +kernel
theorem dX10_laysForce_203 : decode cX10_laysForce 203 = .ok (.goto 4, 3) := by decide +kernel
theorem dX10_laysForce_207 : decode cX10_laysForce 207 = .ok (.ior, 1) := by decide +kernel
theorem dX10_laysForce_208 : decode cX10_laysForce 208 = .ok (.istore_n 3, 1) := by decide +kernel
theorem dX10_laysForce_209 : decode cX10_laysForce 209 = .ok (.aload_n 0, 1) := by decide +kernel
theorem dX10_laysForce_210 : decode cX10_laysForce 210 = .ok (.getfield 52, 3) := by decide +kernel
theorem dX10_laysForce_213 : decode cX10_laysForce 213 = .ok (.iload 5, 2) := by decide +kernel
theorem dX10_laysForce_215 : decode cX10_laysForce 215 = .ok (.iload 6, 2) := by decide +kernel
theorem dX10_laysForce_217 : decode cX10_laysForce 217 = .ok (.iastore, 1) := by decide +kernel
theorem dX10_laysForce_218 : decode cX10_laysForce 218 = .ok (.aload_n 0, 1) := by decide +kernel
theorem dX10_laysForce_219 : decode cX10_laysForce 219 = .ok (.getfield 55, 3) := by decide +kernel
theorem dX10_laysForce_222 : decode cX10_laysForce 222 = .ok (.iload 5, 2) := by decide +kernel
theorem dX10_laysForce_224 : decode cX10_laysForce 224 = .ok (.iload 7, 2) := by decide +kernel
theorem dX10_laysForce_226 : decode cX10_laysForce 226 = .ok (.aload_n 0, 1) := by decide +kernel
theorem dX10_laysForce_227 : decode cX10_laysForce 227 = .ok (.getfield 55, 3) := by decide +kernel
theorem dX10_laysForce_230 : decode cX10_laysForce 230 = .ok (.iload 5, 2) := by decide +kernel
theorem dX10_laysForce_232 : decode cX10_laysForce 232 = .ok (.iaload, 1) := by decide +kernel
theorem dX10_laysForce_233 : decode cX10_laysForce 233 = .ok (.if_icmp .ge 8, 3) := by decide +kernel
theorem dX10_laysForce_241 : decode cX10_laysForce 241 = .ok (.aload_n 0, 1) := by decide +kernel
theorem dX10_laysForce_242 : decode cX10_laysForce 242 = .ok (.getfield 55, 3) := by decide +kernel
theorem dX10_laysForce_245 : decode cX10_laysForce 245 = .ok (.iload 5, 2) := by decide +kernel
theorem dX10_laysForce_247 : decode cX10_laysForce 247 = .ok (.iaload, 1) := by decide +kernel
theorem dX10_laysForce_248 : decode cX10_laysForce 248 = .ok (.iastore, 1) := by decide +kernel
theorem dX10_laysForce_249 : decode cX10_laysForce 249 = .ok (.iinc 4 (-1), 3) := by decide +kernel
theorem dX10_laysForce_252 : decode cX10_laysForce 252 = .ok (.goto (-162), 3) := by decide +kernel
theorem dX10_laysForce_236 : decode cX10_laysForce 236 = .ok (.iload 7, 2) := by decide +kernel
theorem dX10_laysForce_238 : decode cX10_laysForce 238 = .ok (.goto 10, 3) := by decide +kernel
theorem dX10_laysForce_190 : decode cX10_laysForce 190 = .ok (.iload 7, 2) := by decide +kernel
theorem dX10_laysForce_192 : decode cX10_laysForce 192 = .ok (.aload_n 0, 1) := by decide +kernel
theorem dX10_laysForce_193 : decode cX10_laysForce 193 = .ok (.getfield 55, 3) := by decide +kernel
theorem dX10_laysForce_196 : decode cX10_laysForce 196 = .ok (.iload 5, 2) := by decide +kernel
theorem dX10_laysForce_198 : decode cX10_laysForce 198 = .ok (.iaload, 1) := by decide +kernel
theorem dX10_laysForce_199 : decode cX10_laysForce 199 = .ok (.if_icmp .ge 7, 3) := by decide +kernel
theorem dX10_laysForce_206 : decode cX10_laysForce 206 = .ok (.iconst 0, 1) := by decide +kernel
theorem dX10_laysForce_135 : decode cX10_laysForce 135 = .ok (.aload_n 0, 1) := by decide +kernel
theorem dX10_laysForce_136 : decode cX10_laysForce 136 = .ok (.iload 5, 2) := by decide +kernel
theorem dX10_laysForce_138 : decode cX10_laysForce 138 = .ok (.iload 7, 2) := by decide +kernel
theorem q_8_100 : Cond.code yX10_firstBy prog_12_method_117_code 4 (some FieldType.int) ∈ gw := gw_8 (i := 100) (rfl) rfl
theorem q_8_99 : Cond.instanceMethod yX10_firstBy ∈ gw := gw_8 (i := 99) (by decide +kernel) rfl
theorem q_s_123 : Cond.selects "BeaconDelayModel" yX10_firstBy yX10_firstBy ∈ gw := gw_s (i := 123) (by decide +kernel) rfl
theorem mt_X10_firstBy : MtV yX10_firstBy cX10_firstBy 4 (some .int) 2 := ⟨⟨q_8_100, q_1_9, by decide +kernel, by decide +kernel, by decide +kernel⟩, q_8_99, q_s_123⟩
theorem q_8_97 : Cond.methodLink "BeaconDelayModel" 438 yX10_firstBy ∈ gw := gw_8 (i := 97) (by decide +kernel) rfl
theorem dX10_laysForce_140 : decode cX10_laysForce 140 = .ok (.invokevirtual 438, 3) := by decide +kernel
theorem dX10_laysForce_143 : decode cX10_laysForce 143 = .ok (.iload 6, 2) := by decide +kernel
theorem dX10_laysForce_145 : decode cX10_laysForce 145 = .ok (.if_icmp .ge 14, 3) := by decide +kernel
theorem dX10_laysForce_159 : decode cX10_laysForce 159 = .ok (.iload 6, 2) := by decide +kernel
theorem dX10_laysForce_161 : decode cX10_laysForce 161 = .ok (.istore 6, 2) := by decide +kernel
theorem dX10_laysForce_163 : decode cX10_laysForce 163 = .ok (.iinc 7 1, 3) := by decide +kernel
theorem dX10_laysForce_166 : decode cX10_laysForce 166 = .ok (.goto (-37), 3) := by decide +kernel
theorem dX10_laysForce_148 : decode cX10_laysForce 148 = .ok (.aload_n 0, 1) := by decide +kernel
theorem dX10_laysForce_149 : decode cX10_laysForce 149 = .ok (.iload 5, 2) := by decide +kernel
theorem dX10_laysForce_151 : decode cX10_laysForce 151 = .ok (.iload 7, 2) := by decide +kernel
theorem dX10_laysForce_153 : decode cX10_laysForce 153 = .ok (.invokevirtual 438, 3) := by decide +kernel
theorem dX10_laysForce_156 : decode cX10_laysForce 156 = .ok (.goto 5, 3) := by decide +kernel
theorem dX10_laysForce_114 : decode cX10_laysForce 114 = .ok (.goto 135, 3) := by decide +kernel
theorem dX10_laysForce_14 : decode cX10_laysForce 14 = .ok (.aload_n 0, 1) := by decide +kernel
theorem dX10_laysForce_15 : decode cX10_laysForce 15 = .ok (.getfield 52, 3) := by decide +kernel
theorem dX10_laysForce_18 : decode cX10_laysForce 18 = .ok (.aload_n 0, 1) := by decide +kernel
theorem dX10_laysForce_19 : decode cX10_laysForce 19 = .ok (.getfield 45, 3) := by decide +kernel
theorem dX10_laysForce_22 : decode cX10_laysForce 22 = .ok (.iload_n 3, 1) := by decide +kernel
theorem dX10_laysForce_23 : decode cX10_laysForce 23 = .ok (.iaload, 1) := by decide +kernel
theorem dX10_laysForce_24 : decode cX10_laysForce 24 = .ok (.aload_n 0, 1) := by decide +kernel
theorem dX10_laysForce_25 : decode cX10_laysForce 25 = .ok (.getfield 45, 3) := by decide +kernel
theorem dX10_laysForce_28 : decode cX10_laysForce 28 = .ok (.iload_n 3, 1) := by decide +kernel
theorem dX10_laysForce_29 : decode cX10_laysForce 29 = .ok (.iaload, 1) := by decide +kernel
theorem dX10_laysForce_30 : decode cX10_laysForce 30 = .ok (.iload_n 1, 1) := by decide +kernel
theorem dX10_laysForce_31 : decode cX10_laysForce 31 = .ok (.invokestatic 231, 3) := by decide +kernel
theorem dX10_laysForce_34 : decode cX10_laysForce 34 = .ok (.iload_n 2, 1) := by decide +kernel
theorem dX10_laysForce_35 : decode cX10_laysForce 35 = .ok (.if_icmp .ne 7, 3) := by decide +kernel
theorem dX10_laysForce_42 : decode cX10_laysForce 42 = .ok (.ldc_w 361, 3) := by decide +kernel
theorem dX10_laysForce_45 : decode cX10_laysForce 45 = .ok (.iastore, 1) := by decide +kernel
theorem dX10_laysForce_46 : decode cX10_laysForce 46 = .ok (.aload_n 0, 1) := by decide +kernel
theorem dX10_laysForce_47 : decode cX10_laysForce 47 = .ok (.getfield 55, 3) := by decide +kernel
theorem dX10_laysForce_50 : decode cX10_laysForce 50 = .ok (.aload_n 0, 1) := by decide +kernel
theorem dX10_laysForce_51 : decode cX10_laysForce 51 = .ok (.getfield 45, 3) := by decide +kernel
theorem dX10_laysForce_54 : decode cX10_laysForce 54 = .ok (.iload_n 3, 1) := by decide +kernel
theorem dX10_laysForce_55 : decode cX10_laysForce 55 = .ok (.iaload, 1) := by decide +kernel
theorem dX10_laysForce_56 : decode cX10_laysForce 56 = .ok (.aload_n 0, 1) := by decide +kernel
theorem dX10_laysForce_57 : decode cX10_laysForce 57 = .ok (.getfield 52, 3) := by decide +kernel
theorem dX10_laysForce_60 : decode cX10_laysForce 60 = .ok (.aload_n 0, 1) := by decide +kernel
theorem dX10_laysForce_61 : decode cX10_laysForce 61 = .ok (.getfield 45, 3) := by decide +kernel
theorem dX10_laysForce_64 : decode cX10_laysForce 64 = .ok (.iload_n 3, 1) := by decide +kernel
theorem dX10_laysForce_65 : decode cX10_laysForce 65 = .ok (.iaload, 1) := by decide +kernel
theorem dX10_laysForce_66 : decode cX10_laysForce 66 = .ok (.iaload, 1) := by decide +kernel
theorem dX10_laysForce_67 : decode cX10_laysForce 67 = .ok (.iastore, 1) := by decide +kernel
theorem dX10_laysForce_68 : decode cX10_laysForce 68 = .ok (.iinc 3 1, 3) := by decide +kernel
theorem dX10_laysForce_71 : decode cX10_laysForce 71 = .ok (.goto (-65), 3) := by decide +kernel
theorem dX10_laysForce_38 : decode cX10_laysForce 38 = .ok (.iconst 0, 1) := by decide +kernel
theorem dX10_laysForce_39 : decode cX10_laysForce 39 = .ok (.goto 6, 3) := by decide +kernel
set_option maxHeartbeats 4000000 in
set_option maxRecDepth 100000 in
theorem k_X10_laysForce_0 (l : Launch) (V : GV) (z : Nat → Nat) (a1 : Int32) (a2 : Int32) (fz15 : Nat → Int32) (fz16 : Nat → Int32) (fz24 : Nat → Int32) (fz25 : Nat → Int32) (fz26 : Nat → Int32) (fz27 : Nat → Int32) (fz28 : Nat → Int32) (pz0_0 : Int32) (pz0_5 : Int32) (pz0_6 : Int32) (pz0_7 : Int32) (pz0_8 : Int32) (pz0_9 : Int32) (pz0_10 : Int32) (pz0_11 : Int32) (pz0_12 : Int32) (pz0_13 : Int32) (pz0_14 : Int32) (pz0_18 : Int32) (pz0_19 : Int32) (pz0_22 : Int32) (pz0_23 : Int32) (pz0_29 : Int32) (fz1 : Nat → Int32) (ba1 : iv 0 3 a1) (tfz16 : ivT tW fz16) (tfz24 : ∀ j, iv 0 9999 (fz24 j)) (tfz25 : ∀ j, iv (-1) 9999 (fz25 j)) (tfz26 : ∀ j, iv 0 268435456 (fz26 j)) (tfz27 : ∀ j, iv 0 268435456 (fz27 j)) (bpz0_5 : iv 0 900 pz0_5) (bpz0_6 : iv 0 900 pz0_6) (bpz0_7 : iv 0 900 pz0_7) (bpz0_8 : iv 0 900 pz0_8) (bpz0_10 : iv 0 999 pz0_10) (bpz0_11 : iv 0 4 pz0_11) (bpz0_12 : iv 0 900 pz0_12) (bpz0_13 : iv 0 4 pz0_13) (bpz0_14 : iv (-1) 900 pz0_14) (bpz0_18 : iv 0 2 pz0_18) (bpz0_22 : iv 0 9999 pz0_22) (bpz0_29 : iv 0 10000 pz0_29) (tfz1 : ivT tA fz1) (hf0 : RW fz1) : Ct l V yX10_laysForce (.code yX10_laysForce cX10_laysForce 8 (some .int)) 6 [.ref (z 0), .int a1, .int a2] [(z 15, aI V 900 fz15), (z 16, aI V 6 fz16), (z 24, aI V 10000 fz24), (z 25, aI V 40000 fz25), (z 26, aI V 10000 fz26), (z 27, aI V 10000 fz27), (z 28, aZ V 10000 fz28), (z 0, .inr (10, mo z pz0_0 pz0_5 pz0_6 pz0_7 pz0_8 pz0_9 pz0_10 pz0_11 pz0_12 pz0_13 pz0_14 pz0_18 pz0_19 pz0_22 pz0_23 pz0_29)), (z 1, aI V 3075 fz1)] 0 0 (QI V (fun (r : Int32) (w : va_W) => ∃ (g0 : Nat → Int32) (g1 : Nat → Int32) (g2 : Nat → Int32) (g3 : Nat → Int32) (g4 : Nat → Int32) (g5 : Nat → Int32) (g6 : Nat → Int32) (v7 : Int32), (ivT tW g1) ∧ (∀ j, iv 0 9999 (g2 j)) ∧ (∀ j, iv (-1) 9999 (g3 j)) ∧ (∀ j, iv 0 268435456 (g4 j)) ∧ (∀ j, iv 0 268435456 (g5 j)) ∧ iv 0 10000 v7 ∧ iv 0 268435456 r ∧ (RW fz1) ∧ w = [(z 15, aI V 900 g0), (z 16, aI V 6 g1), (z 24, aI V 10000 g2), (z 25, aI V 40000 g3), (z 26, aI V 10000 g4), (z 27, aI V 10000 g5), (z 28, aZ V 10000 g6), (z 0, .inr (10, mo z pz0_0 pz0_5 pz0_6 pz0_7 pz0_8 pz0_9 pz0_10 pz0_11 pz0_12 pz0_13 pz0_14 pz0_18 pz0_19 pz0_22 pz0_23 v7)), (z 1, aI V 3075 fz1)])) := by
  refine Ct.of (by decide) (Nat.le_of_ble_eq_true rfl) (fun p e s m below meth c A ls hx hb hr hml hown hlk hnm hg hP hK hD hE hA hS hl => ?_)
  have hl : lv_has ls 8 [(0, .ref (z 0)), (1, .int a1), (2, .int a2)] := hl
  refine lv_aload_n hx hb dX10_laysForce_0 rfl (lv_at hl 0 rfl) ?_
  refine jnV (wr := [(z 26, aI V 10000 fz26), (z 27, aI V 10000 fz27)]) (rnV (rest := []) ⟨hx, hb, hml, hown, hg⟩ (k_X10_laysStands_0 l V z fz15 fz16 fz24 fz25 fz28 pz0_0 pz0_5 pz0_6 pz0_7 pz0_8 pz0_9 pz0_10 pz0_11 pz0_12 pz0_13 pz0_14 pz0_18 pz0_19 pz0_22 pz0_23 pz0_29 fz1 tfz16 tfz24 tfz25 bpz0_5 bpz0_6 bpz0_7 bpz0_8 bpz0_10 bpz0_11 bpz0_12 bpz0_13 bpz0_14 bpz0_18 bpz0_22 bpz0_29 tfz1 hf0) mt_X10_laysStands q_7_194 ⟨Nat.le_of_ble_eq_true rfl, Nat.le_of_ble_eq_true rfl⟩ hK hP hD hS hA hE [0, 1, 2, 3, 6, 7, 8] rfl rfl 7 rfl rfl rfl rfl hl.1 rfl (Nat.le_of_ble_eq_true rfl) dX10_laysForce_1 ⟨Nat.le_of_ble_eq_true rfl, Nat.le_of_ble_eq_true rfl⟩) hP hD hS hA [0, 1, 2, 3, 6, 7, 8] [4, 5] rfl rfl rfl (by decide) (fun  w H locs hw hP hD hS => ?_)
  obtain ⟨f_1, f_2, f_3, f_4, f_5, v_6, tf_2, tf_3, tf_4, bv_6, g_7, g_8, g_9, rfl⟩ := hw
  have hP : va_P V.1 vwCl [(z 26, aI V 10000 fz26), (z 27, aI V 10000 fz27), (z 15, aI V 900 f_1), (z 16, aI V 6 f_2), (z 24, aI V 10000 f_3), (z 25, aI V 40000 f_4), (z 28, aZ V 10000 f_5), (z 0, .inr (10, mo z pz0_0 pz0_5 pz0_6 pz0_7 pz0_8 pz0_9 pz0_10 pz0_11 pz0_12 pz0_13 pz0_14 pz0_18 pz0_19 pz0_22 pz0_23 v_6)), (z 1, aI V 3075 fz1)] H := hP
  have hD : va_D A [(z 26, aI V 10000 fz26), (z 27, aI V 10000 fz27), (z 15, aI V 900 f_1), (z 16, aI V 6 f_2), (z 24, aI V 10000 f_3), (z 25, aI V 40000 f_4), (z 28, aZ V 10000 f_5), (z 0, .inr (10, mo z pz0_0 pz0_5 pz0_6 pz0_7 pz0_8 pz0_9 pz0_10 pz0_11 pz0_12 pz0_13 pz0_14 pz0_18 pz0_19 pz0_22 pz0_23 v_6)), (z 1, aI V 3075 fz1)] := hD
  refine lv_iconst (v := 0) hx hb dX10_laysForce_4 (by decide) ?_
  refine lv_istore_n (lv' := [(3, .int 0), (0, .ref (z 0)), (1, .int a1), (2, .int a2)]) hx hb dX10_laysForce_5 rfl hl (by decide) rfl (fun ls hl => ?_)
  refine loopF (X := fun (n_13 : Nat) (H : Heap) (locs : List Loc) (ls : Array Slot) => ∃ (u_10 : Int32) (f_11 : Nat → Int32) (f_12 : Nat → Int32), (iv 0 2147483647 u_10) ∧ (∀ j, iv 0 268435456 (f_11 j)) ∧ (∀ j, iv 0 268435456 (f_12 j)) ∧ (RW fz1) ∧ n_13 = (2147483647 - (u_10 : Int32).toInt).toNat ∧ va_P V.1 vwCl [(z 26, aI V 10000 f_11), (z 27, aI V 10000 f_12), (z 15, aI V 900 f_1), (z 16, aI V 6 f_2), (z 24, aI V 10000 f_3), (z 25, aI V 40000 f_4), (z 28, aZ V 10000 f_5), (z 0, .inr (10, mo z pz0_0 pz0_5 pz0_6 pz0_7 pz0_8 pz0_9 pz0_10 pz0_11 pz0_12 pz0_13 pz0_14 pz0_18 pz0_19 pz0_22 pz0_23 v_6)), (z 1, aI V 3075 fz1)] H ∧ va_D A [(z 26, aI V 10000 f_11), (z 27, aI V 10000 f_12), (z 15, aI V 900 f_1), (z 16, aI V 6 f_2), (z 24, aI V 10000 f_3), (z 25, aI V 40000 f_4), (z 28, aZ V 10000 f_5), (z 0, .inr (10, mo z pz0_0 pz0_5 pz0_6 pz0_7 pz0_8 pz0_9 pz0_10 pz0_11 pz0_12 pz0_13 pz0_14 pz0_18 pz0_19 pz0_22 pz0_23 v_6)), (z 1, aI V 3075 fz1)] ∧ va_S A s.heap H locs ∧ lv_has ls 8 [(3, .int u_10), (0, .ref (z 0)), (1, .int a1), (2, .int a2)]) (g := fun ls => F0 m 6 ls []) (fun n_13 H locs ls hX ihn_13 => ?_) _ ⟨0, fz26, fz27, (iv_c (0 : Int32) (by decide)), tfz26, tfz27, g_7, rfl, hP, hD, hS, lv_sub hl [0, 1, 2, 3] rfl⟩
  obtain ⟨u_10, f_11, f_12, bu_10, tf_11, tf_12, inn_13_0, en_13, hP, hD, hS, hl⟩ := hX
  refine lv_iload_n hx hb dX10_laysForce_6 rfl (lv_at hl 0 rfl) ?_
  refine lv_aload_n hx hb dX10_laysForce_7 rfl (lv_at hl 1 rfl) ?_
  refine va_get (ci := 10) (v := .int v_6) (C := RX10) (T := TX10) (N := 40) hx hb hg inX10 hown hK hP 7 rfl rfl 29 (by decide) (hg _ q_6_13) (fun _ h9 => h9) rfl dX10_laysForce_8 ?_
  refine lv_icmp_ge (tgt := 74) hx hb dX10_laysForce_11 (by decide) (fun c_14 => ?_) (fun c_14 => ?_)
  · refine lv_iconst (v := 1) hx hb dX10_laysForce_74 (by decide) ?_
    refine lv_istore_n (lv' := [(3, .int 1), (0, .ref (z 0)), (1, .int a1), (2, .int a2)]) hx hb dX10_laysForce_75 rfl hl (by decide) rfl (fun ls hl => ?_)
    refine loopF (X := fun (n_18 : Nat) (H : Heap) (locs : List Loc) (ls : Array Slot) => ∃ (u_15 : Int32) (f_16 : Nat → Int32) (f_17 : Nat → Int32), (iv 0 1 u_15) ∧ (∀ j, iv 0 268435456 (f_16 j)) ∧ (∀ j, iv 0 268435456 (f_17 j)) ∧ (RW fz1) ∧ n_18 = 2 * (sm f_16 10000 + sm f_17 10000) + (u_15).toNatClampNeg ∧ va_P V.1 vwCl [(z 26, aI V 10000 f_16), (z 27, aI V 10000 f_17), (z 15, aI V 900 f_1), (z 16, aI V 6 f_2), (z 24, aI V 10000 f_3), (z 25, aI V 40000 f_4), (z 28, aZ V 10000 f_5), (z 0, .inr (10, mo z pz0_0 pz0_5 pz0_6 pz0_7 pz0_8 pz0_9 pz0_10 pz0_11 pz0_12 pz0_13 pz0_14 pz0_18 pz0_19 pz0_22 pz0_23 v_6)), (z 1, aI V 3075 fz1)] H ∧ va_D A [(z 26, aI V 10000 f_16), (z 27, aI V 10000 f_17), (z 15, aI V 900 f_1), (z 16, aI V 6 f_2), (z 24, aI V 10000 f_3), (z 25, aI V 40000 f_4), (z 28, aZ V 10000 f_5), (z 0, .inr (10, mo z pz0_0 pz0_5 pz0_6 pz0_7 pz0_8 pz0_9 pz0_10 pz0_11 pz0_12 pz0_13 pz0_14 pz0_18 pz0_19 pz0_22 pz0_23 v_6)), (z 1, aI V 3075 fz1)] ∧ va_S A s.heap H locs ∧ lv_has ls 8 [(3, .int u_15), (0, .ref (z 0)), (1, .int a1), (2, .int a2)]) (g := fun ls => F0 m 76 ls []) (fun n_18 H locs ls hX ihn_18 => ?_) _ ⟨1, f_11, f_12, (iv_c (1 : Int32) (by decide)), tf_11, tf_12, inn_13_0, rfl, hP, hD, hS, lv_sub hl [0, 1, 2, 3] rfl⟩
    obtain ⟨u_15, f_16, f_17, bu_15, tf_16, tf_17, inn_18_0, en_18, hP, hD, hS, hl⟩ := hX
    refine lv_iload_n hx hb dX10_laysForce_76 rfl (lv_at hl 0 rfl) ?_
    refine lv_if_eq (tgt := 258) hx hb dX10_laysForce_77 (by decide) (fun c_19 => ?_) (fun c_19 => ?_)
    · have b_20 : iv 0 0 u_15 := iv_q c_19 (iv_c (0 : Int32) (a := 0) (b := 0) (by decide))
      refine lv_aload_n hx hb dX10_laysForce_258 rfl (lv_at hl 1 rfl) ?_
      refine va_get (ci := 10) (v := .ref (z 26)) (C := RX10) (T := TX10) (N := 40) hx hb hg inX10 hown hK hP 7 rfl rfl 26 (by decide) (hg _ q_6_10) (fun _ h9 => h9) rfl dX10_laysForce_259 ?_
      refine lv_aload_n hx hb dX10_laysForce_262 rfl (lv_at hl 1 rfl) ?_
      refine jnI (wr := [(z 26, aI V 10000 f_16), (z 27, aI V 10000 f_17), (z 15, aI V 900 f_1), (z 16, aI V 6 f_2), (z 24, aI V 10000 f_3), (z 25, aI V 40000 f_4), (z 28, aZ V 10000 f_5)]) (rnV (rest := [.ref (z 26)]) ⟨hx, hb, hml, hown, hg⟩ (k_X10_standNow_0 l V z pz0_0 pz0_5 pz0_6 pz0_7 pz0_8 pz0_9 pz0_10 pz0_11 pz0_12 pz0_13 pz0_14 pz0_18 pz0_19 pz0_22 pz0_23 v_6 fz1 bpz0_5 bpz0_6 bpz0_7 bpz0_8 bpz0_10 bpz0_11 bpz0_12 bpz0_13 bpz0_14 bpz0_18 bpz0_22 bv_6 tfz1) mt_X10_standNow q_7_11 ⟨Nat.le_of_ble_eq_true rfl, Nat.le_of_ble_eq_true rfl⟩ hK hP hD hS hA hE [7, 8] rfl rfl 7 rfl rfl rfl rfl hl.1 rfl (Nat.le_of_ble_eq_true rfl) dX10_laysForce_263 ⟨Nat.le_of_ble_eq_true rfl, Nat.le_of_ble_eq_true rfl⟩) hP hD hS hA [7, 8] [0, 1, 2, 3, 4, 5, 6] rfl rfl rfl (by decide) (fun r_21 w H locs hw hP hD hS => ?_)
      obtain ⟨br_21, er_21, rfl⟩ := hw
      have hP : va_P V.1 vwCl [(z 26, aI V 10000 f_16), (z 27, aI V 10000 f_17), (z 15, aI V 900 f_1), (z 16, aI V 6 f_2), (z 24, aI V 10000 f_3), (z 25, aI V 40000 f_4), (z 28, aZ V 10000 f_5), (z 0, .inr (10, mo z pz0_0 pz0_5 pz0_6 pz0_7 pz0_8 pz0_9 pz0_10 pz0_11 pz0_12 pz0_13 pz0_14 pz0_18 pz0_19 pz0_22 pz0_23 v_6)), (z 1, aI V 3075 fz1)] H := hP
      have hD : va_D A [(z 26, aI V 10000 f_16), (z 27, aI V 10000 f_17), (z 15, aI V 900 f_1), (z 16, aI V 6 f_2), (z 24, aI V 10000 f_3), (z 25, aI V 40000 f_4), (z 28, aZ V 10000 f_5), (z 0, .inr (10, mo z pz0_0 pz0_5 pz0_6 pz0_7 pz0_8 pz0_9 pz0_10 pz0_11 pz0_12 pz0_13 pz0_14 pz0_18 pz0_19 pz0_22 pz0_23 v_6)), (z 1, aI V 3075 fz1)] := hD
      refine va_iald hx hb hK hP 0 0 rfl rfl (iv_in br_21 (by decide)) dX10_laysForce_266 ?_
      refine lv_topi (fun x_22 ex_22 => ?_)
      have bx_22 : iv 0 268435456 x_22 := by rw [ex_22]; exact tf_16 _
      have hP := subP (ws' := [(z 15, aI V 900 f_1), (z 16, aI V 6 f_2), (z 24, aI V 10000 f_3), (z 25, aI V 40000 f_4), (z 26, aI V 10000 f_16), (z 27, aI V 10000 f_17), (z 28, aZ V 10000 f_5), (z 0, .inr (10, mo z pz0_0 pz0_5 pz0_6 pz0_7 pz0_8 pz0_9 pz0_10 pz0_11 pz0_12 pz0_13 pz0_14 pz0_18 pz0_19 pz0_22 pz0_23 v_6)), (z 1, aI V 3075 fz1)]) hP [2, 3, 4, 5, 0, 1, 6, 7, 8] rfl
      have hD := hD.sub (ws' := [(z 15, aI V 900 f_1), (z 16, aI V 6 f_2), (z 24, aI V 10000 f_3), (z 25, aI V 40000 f_4), (z 26, aI V 10000 f_16), (z 27, aI V 10000 f_17), (z 28, aZ V 10000 f_5), (z 0, .inr (10, mo z pz0_0 pz0_5 pz0_6 pz0_7 pz0_8 pz0_9 pz0_10 pz0_11 pz0_12 pz0_13 pz0_14 pz0_18 pz0_19 pz0_22 pz0_23 v_6)), (z 1, aI V 3075 fz1)]) [2, 3, 4, 5, 0, 1, 6, 7, 8] rfl rfl
      exact fiI hx hb hr hlk hK hP hD hS dX10_laysForce_267 (Nat.le_of_ble_eq_true rfl) (Nat.le_of_ble_eq_true rfl) (⟨f_1, f_2, f_3, f_4, f_16, f_17, f_5, v_6, tf_2, tf_3, tf_4, tf_16, tf_17, bv_6, bx_22, inn_18_0, rfl⟩)
    · have b_23 : iv 1 1 u_15 := iv_n0 c_19 bu_15 (iv_c (0 : Int32) (a := 0) (b := 0) (by decide)) (by decide)
      refine lv_iconst (v := 0) hx hb dX10_laysForce_80 (by decide) ?_
      refine lv_istore_n (lv' := [(3, .int 0), (0, .ref (z 0)), (1, .int a1), (2, .int a2)]) hx hb dX10_laysForce_81 rfl hl (by decide) rfl (fun ls hl => ?_)
      refine lv_aload_n hx hb dX10_laysForce_82 rfl (lv_at hl 1 rfl) ?_
      refine va_get (ci := 10) (v := .int v_6) (C := RX10) (T := TX10) (N := 40) hx hb hg inX10 hown hK hP 7 rfl rfl 29 (by decide) (hg _ q_6_13) (fun _ h9 => h9) rfl dX10_laysForce_83 ?_
      refine lv_iconst (v := 1) hx hb dX10_laysForce_86 (by decide) ?_
      refine lv_isub hx hb dX10_laysForce_87 ?_
      refine lv_topi (fun x_24 ex_24 => ?_)
      have bx_24 : iv (-1) 9999 x_24 := by rw [ex_24]; exact iv_sub bv_6 (iv_c (1 : Int32) (a := 1) (b := 1) (by decide)) (by decide)
      refine lv_istore (lv' := [(4, .int x_24), (3, .int 0), (0, .ref (z 0)), (1, .int a1), (2, .int a2)]) hx hb dX10_laysForce_88 hl (by decide) rfl (fun ls hl => ?_)
      refine loopF (X := fun (n_29 : Nat) (H : Heap) (locs : List Loc) (ls : Array Slot) => ∃ (u_25 : Int32) (u_26 : Int32) (f_27 : Nat → Int32) (f_28 : Nat → Int32), (iv (-1) 9999 u_25) ∧ (iv 0 1 u_26) ∧ (∀ j, iv 0 268435456 (f_27 j)) ∧ (∀ j, iv 0 268435456 (f_28 j)) ∧ (SD (sm f_27 10000 + sm f_28 10000) (sm f_16 10000 + sm f_17 10000) u_26) ∧ (RW fz1) ∧ n_29 = ((u_25 : Int32).toInt + 2147483648).toNat ∧ va_P V.1 vwCl [(z 26, aI V 10000 f_27), (z 27, aI V 10000 f_28), (z 15, aI V 900 f_1), (z 16, aI V 6 f_2), (z 24, aI V 10000 f_3), (z 25, aI V 40000 f_4), (z 28, aZ V 10000 f_5), (z 0, .inr (10, mo z pz0_0 pz0_5 pz0_6 pz0_7 pz0_8 pz0_9 pz0_10 pz0_11 pz0_12 pz0_13 pz0_14 pz0_18 pz0_19 pz0_22 pz0_23 v_6)), (z 1, aI V 3075 fz1)] H ∧ va_D A [(z 26, aI V 10000 f_27), (z 27, aI V 10000 f_28), (z 15, aI V 900 f_1), (z 16, aI V 6 f_2), (z 24, aI V 10000 f_3), (z 25, aI V 40000 f_4), (z 28, aZ V 10000 f_5), (z 0, .inr (10, mo z pz0_0 pz0_5 pz0_6 pz0_7 pz0_8 pz0_9 pz0_10 pz0_11 pz0_12 pz0_13 pz0_14 pz0_18 pz0_19 pz0_22 pz0_23 v_6)), (z 1, aI V 3075 fz1)] ∧ va_S A s.heap H locs ∧ lv_has ls 8 [(4, .int u_25), (3, .int u_26), (0, .ref (z 0)), (1, .int a1), (2, .int a2)]) (g := fun ls => F0 m 90 ls []) (fun n_29 H locs ls hX ihn_29 => ?_) _ ⟨x_24, 0, f_16, f_17, bx_24, (iv_c (0 : Int32) (by decide)), tf_16, tf_17, (SD_0 rfl), inn_18_0, rfl, hP, hD, hS, lv_sub hl [0, 1, 2, 3, 4] rfl⟩
      obtain ⟨u_25, u_26, f_27, f_28, bu_25, bu_26, tf_27, tf_28, inn_29_0, inn_29_1, en_29, hP, hD, hS, hl⟩ := hX
      refine lv_iload hx hb dX10_laysForce_90 (lv_at hl 0 rfl) ?_
      refine lv_if_lt (tgt := 255) hx hb dX10_laysForce_92 (by decide) (fun c_30 => ?_) (fun c_30 => ?_)
      · have b_31 : iv (-1) (-1) u_25 := iv_l1 c_30 bu_25 (iv_c (0 : Int32) (a := 0) (b := 0) (by decide)) (by decide)
        refine lv_goto (tgt := 76) hx hb dX10_laysForce_255 (by decide) ?_
        exact ihn_18 _ _ _ _ (by rw [en_18]; exact mu_more b_23 (by decide) bu_26 (by decide) inn_29_0) ⟨u_26, f_27, f_28, bu_26, tf_27, tf_28, inn_29_1, rfl, hP, hD, hS, lv_sub hl [1, 2, 3, 4] rfl⟩
      · have b_32 : iv 0 9999 u_25 := iv_e2 (Int32.not_lt.mp c_30) (iv_c (0 : Int32) (a := 0) (b := 0) (by decide)) bu_25 (by decide)
        refine lv_aload_n hx hb dX10_laysForce_95 rfl (lv_at hl 2 rfl) ?_
        refine va_get (ci := 10) (v := .ref (z 24)) (C := RX10) (T := TX10) (N := 40) hx hb hg inX10 hown hK hP 7 rfl rfl 24 (by decide) (hg _ q_6_8) (fun _ h9 => h9) rfl dX10_laysForce_96 ?_
        refine lv_iload hx hb dX10_laysForce_99 (lv_at hl 0 rfl) ?_
        refine va_iald hx hb hK hP 4 0 rfl rfl (iv_in b_32 (by decide)) dX10_laysForce_101 ?_
        refine lv_topi (fun x_33 ex_33 => ?_)
        have bx_33 : iv 0 9999 x_33 := by rw [ex_33]; exact tf_3 _
        refine lv_istore (lv' := [(5, .int x_33), (4, .int u_25), (3, .int u_26), (0, .ref (z 0)), (1, .int a1), (2, .int a2)]) hx hb dX10_laysForce_102 hl (by decide) rfl (fun ls hl => ?_)
        refine lv_iload hx hb dX10_laysForce_104 (lv_at hl 0 rfl) ?_
        refine lv_iload_n hx hb dX10_laysForce_106 rfl (lv_at hl 4 rfl) ?_
        refine jnI (wr := [(z 26, aI V 10000 f_27), (z 27, aI V 10000 f_28), (z 15, aI V 900 f_1), (z 16, aI V 6 f_2), (z 24, aI V 10000 f_3), (z 25, aI V 40000 f_4), (z 28, aZ V 10000 f_5), (z 0, .inr (10, mo z pz0_0 pz0_5 pz0_6 pz0_7 pz0_8 pz0_9 pz0_10 pz0_11 pz0_12 pz0_13 pz0_14 pz0_18 pz0_19 pz0_22 pz0_23 v_6)), (z 1, aI V 3075 fz1)]) (rnS (rest := []) ⟨hx, hb, hml, hown, hg⟩ (k_X10_stackIn_0 l V x_33 a1 bx_33 ba1) mt_X10_stackIn q_7_26 ⟨Nat.le_of_ble_eq_true rfl, Nat.le_of_ble_eq_true rfl⟩ hK hP hD hS hA hE [] rfl rfl rfl hl.1 rfl (Nat.le_of_ble_eq_true rfl) dX10_laysForce_107 ⟨Nat.le_of_ble_eq_true rfl, Nat.le_of_ble_eq_true rfl⟩) hP hD hS hA [] [0, 1, 2, 3, 4, 5, 6, 7, 8] rfl rfl rfl (by decide) (fun r_34 w H locs hw hP hD hS => ?_)
        obtain ⟨br_34, er_34, rfl⟩ := hw
        have hP : va_P V.1 vwCl [(z 26, aI V 10000 f_27), (z 27, aI V 10000 f_28), (z 15, aI V 900 f_1), (z 16, aI V 6 f_2), (z 24, aI V 10000 f_3), (z 25, aI V 40000 f_4), (z 28, aZ V 10000 f_5), (z 0, .inr (10, mo z pz0_0 pz0_5 pz0_6 pz0_7 pz0_8 pz0_9 pz0_10 pz0_11 pz0_12 pz0_13 pz0_14 pz0_18 pz0_19 pz0_22 pz0_23 v_6)), (z 1, aI V 3075 fz1)] H := hP
        have hD : va_D A [(z 26, aI V 10000 f_27), (z 27, aI V 10000 f_28), (z 15, aI V 900 f_1), (z 16, aI V 6 f_2), (z 24, aI V 10000 f_3), (z 25, aI V 40000 f_4), (z 28, aZ V 10000 f_5), (z 0, .inr (10, mo z pz0_0 pz0_5 pz0_6 pz0_7 pz0_8 pz0_9 pz0_10 pz0_11 pz0_12 pz0_13 pz0_14 pz0_18 pz0_19 pz0_22 pz0_23 v_6)), (z 1, aI V 3075 fz1)] := hD
        refine lv_iload_n hx hb dX10_laysForce_110 rfl (lv_at hl 5 rfl) ?_
        refine lv_icmp_ne (tgt := 117) hx hb dX10_laysForce_111 (by decide) (fun c_35 => ?_) (fun c_35 => ?_)
        · refine lv_aload_n hx hb dX10_laysForce_117 rfl (lv_at hl 3 rfl) ?_
          refine va_get (ci := 10) (v := .ref (z 26)) (C := RX10) (T := TX10) (N := 40) hx hb hg inX10 hown hK hP 7 rfl rfl 26 (by decide) (hg _ q_6_10) (fun _ h9 => h9) rfl dX10_laysForce_118 ?_
          refine lv_iload hx hb dX10_laysForce_121 (lv_at hl 0 rfl) ?_
          refine va_iald hx hb hK hP 0 0 rfl rfl (iv_in bx_33 (by decide)) dX10_laysForce_123 ?_
          refine lv_topi (fun x_36 ex_36 => ?_)
          have bx_36 : iv 0 268435456 x_36 := by rw [ex_36]; exact tf_27 _
          refine lv_istore (lv' := [(6, .int x_36), (5, .int x_33), (4, .int u_25), (3, .int u_26), (0, .ref (z 0)), (1, .int a1), (2, .int a2)]) hx hb dX10_laysForce_124 hl (by decide) rfl (fun ls hl => ?_)
          refine lv_iconst (v := 0) hx hb dX10_laysForce_126 (by decide) ?_
          refine lv_istore (lv' := [(7, .int 0), (6, .int x_36), (5, .int x_33), (4, .int u_25), (3, .int u_26), (0, .ref (z 0)), (1, .int a1), (2, .int a2)]) hx hb dX10_laysForce_127 hl (by decide) rfl (fun ls hl => ?_)
          refine loopF (X := fun (n_39 : Nat) (H : Heap) (locs : List Loc) (ls : Array Slot) => ∃ (u_37 : Int32) (u_38 : Int32), (iv 0 4 u_37) ∧ (iv 0 268435456 u_38) ∧ ((u_38 : Int32).toInt ≤ (x_36 : Int32).toInt) ∧ (RW fz1) ∧ n_39 = (2147483647 - (u_37 : Int32).toInt).toNat ∧ va_P V.1 vwCl [(z 26, aI V 10000 f_27), (z 27, aI V 10000 f_28), (z 15, aI V 900 f_1), (z 16, aI V 6 f_2), (z 24, aI V 10000 f_3), (z 25, aI V 40000 f_4), (z 28, aZ V 10000 f_5), (z 0, .inr (10, mo z pz0_0 pz0_5 pz0_6 pz0_7 pz0_8 pz0_9 pz0_10 pz0_11 pz0_12 pz0_13 pz0_14 pz0_18 pz0_19 pz0_22 pz0_23 v_6)), (z 1, aI V 3075 fz1)] H ∧ va_D A [(z 26, aI V 10000 f_27), (z 27, aI V 10000 f_28), (z 15, aI V 900 f_1), (z 16, aI V 6 f_2), (z 24, aI V 10000 f_3), (z 25, aI V 40000 f_4), (z 28, aZ V 10000 f_5), (z 0, .inr (10, mo z pz0_0 pz0_5 pz0_6 pz0_7 pz0_8 pz0_9 pz0_10 pz0_11 pz0_12 pz0_13 pz0_14 pz0_18 pz0_19 pz0_22 pz0_23 v_6)), (z 1, aI V 3075 fz1)] ∧ va_S A s.heap H locs ∧ lv_has ls 8 [(7, .int u_37), (6, .int u_38), (5, .int x_33), (4, .int u_25), (3, .int u_26), (0, .ref (z 0)), (1, .int a1), (2, .int a2)]) (g := fun ls => F0 m 129 ls []) (fun n_39 H locs ls hX ihn_39 => ?_) _ ⟨0, x_36, (iv_c (0 : Int32) (by decide)), bx_36, (Int.le_refl _), inn_29_1, rfl, hP, hD, hS, lv_sub hl [0, 1, 2, 3, 4, 5, 6, 7] rfl⟩
          obtain ⟨u_37, u_38, bu_37, bu_38, inn_39_0, inn_39_1, en_39, hP, hD, hS, hl⟩ := hX
          refine lv_iload hx hb dX10_laysForce_129 (lv_at hl 0 rfl) ?_
          refine lv_iconst (v := 4) hx hb dX10_laysForce_131 (by decide) ?_
          refine lv_icmp_ge (tgt := 169) hx hb dX10_laysForce_132 (by decide) (fun c_40 => ?_) (fun c_40 => ?_)
          · have b_41 : iv 4 4 u_37 := iv_e2 c_40 (iv_c (4 : Int32) (a := 4) (b := 4) (by decide)) bu_37 (by decide)
            refine lv_aload_n hx hb dX10_laysForce_169 rfl (lv_at hl 5 rfl) ?_
            refine lv_iload hx hb dX10_laysForce_170 (lv_at hl 2 rfl) ?_
            refine jnI (wr := [(z 27, aI V 10000 f_28), (z 15, aI V 900 f_1), (z 16, aI V 6 f_2), (z 24, aI V 10000 f_3), (z 28, aZ V 10000 f_5), (z 1, aI V 3075 fz1)]) (rnV (rest := []) ⟨hx, hb, hml, hown, hg⟩ (k_X10_otherAt_0 l V z x_33 f_27 f_4 pz0_0 pz0_5 pz0_6 pz0_7 pz0_8 pz0_9 pz0_10 pz0_11 pz0_12 pz0_13 pz0_14 pz0_18 pz0_19 pz0_22 pz0_23 v_6 bx_33 tf_27 tf_4 bpz0_5 bpz0_6 bpz0_7 bpz0_8 bpz0_10 bpz0_11 bpz0_12 bpz0_13 bpz0_14 bpz0_18 bpz0_22 bv_6) mt_X10_otherAt q_8_101 ⟨Nat.le_of_ble_eq_true rfl, Nat.le_of_ble_eq_true rfl⟩ hK hP hD hS hA hE [0, 5, 7] rfl rfl 7 rfl rfl rfl rfl hl.1 rfl (Nat.le_of_ble_eq_true rfl) dX10_laysForce_172 ⟨Nat.le_of_ble_eq_true rfl, Nat.le_of_ble_eq_true rfl⟩) hP hD hS hA [0, 5, 7] [1, 2, 3, 4, 6, 8] rfl rfl rfl (by decide) (fun r_42 w H locs hw hP hD hS => ?_)
            obtain ⟨br_42, rfl⟩ := hw
            have hP : va_P V.1 vwCl [(z 27, aI V 10000 f_28), (z 15, aI V 900 f_1), (z 16, aI V 6 f_2), (z 24, aI V 10000 f_3), (z 28, aZ V 10000 f_5), (z 1, aI V 3075 fz1), (z 26, aI V 10000 f_27), (z 25, aI V 40000 f_4), (z 0, .inr (10, mo z pz0_0 pz0_5 pz0_6 pz0_7 pz0_8 pz0_9 pz0_10 pz0_11 pz0_12 pz0_13 pz0_14 pz0_18 pz0_19 pz0_22 pz0_23 v_6))] H := hP
            have hD : va_D A [(z 27, aI V 10000 f_28), (z 15, aI V 900 f_1), (z 16, aI V 6 f_2), (z 24, aI V 10000 f_3), (z 28, aZ V 10000 f_5), (z 1, aI V 3075 fz1), (z 26, aI V 10000 f_27), (z 25, aI V 40000 f_4), (z 0, .inr (10, mo z pz0_0 pz0_5 pz0_6 pz0_7 pz0_8 pz0_9 pz0_10 pz0_11 pz0_12 pz0_13 pz0_14 pz0_18 pz0_19 pz0_22 pz0_23 v_6))] := hD
            refine lv_istore (lv' := [(7, .int r_42), (6, .int u_38), (5, .int x_33), (4, .int u_25), (3, .int u_26), (0, .ref (z 0)), (1, .int a1), (2, .int a2)]) hx hb dX10_laysForce_175 hl (by decide) rfl (fun ls hl => ?_)
            refine lv_iload_n hx hb dX10_laysForce_177 rfl (lv_at hl 4 rfl) ?_
            refine lv_iload hx hb dX10_laysForce_178 (lv_at hl 1 rfl) ?_
            refine lv_aload_n hx hb dX10_laysForce_180 rfl (lv_at hl 5 rfl) ?_
            refine va_get (ci := 10) (v := .ref (z 26)) (C := RX10) (T := TX10) (N := 40) hx hb hg inX10 hown hK hP 8 rfl rfl 26 (by decide) (hg _ q_6_10) (fun _ h9 => h9) rfl dX10_laysForce_181 ?_
            refine lv_iload hx hb dX10_laysForce_184 (lv_at hl 2 rfl) ?_
            refine va_iald hx hb hK hP 6 0 rfl rfl (iv_in bx_33 (by decide)) dX10_laysForce_186 ?_
            refine tpi (y := x_36) ex_36.symm ?_
            refine lv_icmp_lt (tgt := 202) hx hb dX10_laysForce_187 (by decide) (fun c_43 => ?_) (fun c_43 => ?_)
            · have b_44 : iv 0 268435455 u_38 := iv_l1 c_43 bu_38 bx_36 (by decide)
              have b_45 : iv 1 268435456 x_36 := iv_l2 c_43 bu_38 bx_36 (by decide)
              refine lv_iconst (v := 1) hx hb dX10_laysForce_202 (by decide) ?_
              refine lv_goto (tgt := 207) hx hb dX10_laysForce_203 (by decide) ?_
              refine lv_ior hx hb dX10_laysForce_207 ?_
              refine lv_topi (fun x_46 ex_46 => ?_)
              have bx_46 : iv 0 1 x_46 := by rw [ex_46]; exact iv_or1 bu_26 (iv_c (1 : Int32) (a := 1) (b := 1) (by decide)) (by decide)
              refine lv_istore_n (lv' := [(3, .int x_46), (7, .int r_42), (6, .int u_38), (5, .int x_33), (4, .int u_25), (0, .ref (z 0)), (1, .int a1), (2, .int a2)]) hx hb dX10_laysForce_208 rfl hl (by decide) rfl (fun ls hl => ?_)
              refine lv_aload_n hx hb dX10_laysForce_209 rfl (lv_at hl 5 rfl) ?_
              refine va_get (ci := 10) (v := .ref (z 26)) (C := RX10) (T := TX10) (N := 40) hx hb hg inX10 hown hK hP 8 rfl rfl 26 (by decide) (hg _ q_6_10) (fun _ h9 => h9) rfl dX10_laysForce_210 ?_
              refine lv_iload hx hb dX10_laysForce_213 (lv_at hl 3 rfl) ?_
              refine lv_iload hx hb dX10_laysForce_215 (lv_at hl 2 rfl) ?_
              refine va_iast hx hb hK hP hD hS 6 0 rfl rfl (iv_in bx_33 (by decide)) dX10_laysForce_217 (fun H locs hP hD hS => ?_)
              obtain ⟨f_47, ef_47, tf_47, hP, hD⟩ : ∃ f_47 : Nat → Int32, f_47 = (upd f_27 (x_33 : Int32).toNatClampNeg u_38) ∧ (∀ j, iv 0 268435456 (f_47 j)) ∧ va_P V.1 vwCl [(z 27, aI V 10000 f_28), (z 15, aI V 900 f_1), (z 16, aI V 6 f_2), (z 24, aI V 10000 f_3), (z 28, aZ V 10000 f_5), (z 1, aI V 3075 fz1), (z 26, aI V 10000 f_47), (z 25, aI V 40000 f_4), (z 0, .inr (10, mo z pz0_0 pz0_5 pz0_6 pz0_7 pz0_8 pz0_9 pz0_10 pz0_11 pz0_12 pz0_13 pz0_14 pz0_18 pz0_19 pz0_22 pz0_23 v_6))] H ∧ va_D A [(z 27, aI V 10000 f_28), (z 15, aI V 900 f_1), (z 16, aI V 6 f_2), (z 24, aI V 10000 f_3), (z 28, aZ V 10000 f_5), (z 1, aI V 3075 fz1), (z 26, aI V 10000 f_47), (z 25, aI V 40000 f_4), (z 0, .inr (10, mo z pz0_0 pz0_5 pz0_6 pz0_7 pz0_8 pz0_9 pz0_10 pz0_11 pz0_12 pz0_13 pz0_14 pz0_18 pz0_19 pz0_22 pz0_23 v_6))] := ⟨_, rfl, ivU tf_27 _ (iv_w b_44 (by decide)), hP, hD⟩
              refine lv_aload_n hx hb dX10_laysForce_218 rfl (lv_at hl 5 rfl) ?_
              refine va_get (ci := 10) (v := .ref (z 27)) (C := RX10) (T := TX10) (N := 40) hx hb hg inX10 hown hK hP 8 rfl rfl 27 (by decide) (hg _ q_6_11) (fun _ h9 => h9) rfl dX10_laysForce_219 ?_
              refine lv_iload hx hb dX10_laysForce_222 (lv_at hl 3 rfl) ?_
              refine lv_iload hx hb dX10_laysForce_224 (lv_at hl 1 rfl) ?_
              refine lv_aload_n hx hb dX10_laysForce_226 rfl (lv_at hl 5 rfl) ?_
              refine va_get (ci := 10) (v := .ref (z 27)) (C := RX10) (T := TX10) (N := 40) hx hb hg inX10 hown hK hP 8 rfl rfl 27 (by decide) (hg _ q_6_11) (fun _ h9 => h9) rfl dX10_laysForce_227 ?_
              refine lv_iload hx hb dX10_laysForce_230 (lv_at hl 3 rfl) ?_
              refine va_iald hx hb hK hP 0 0 rfl rfl (iv_in bx_33 (by decide)) dX10_laysForce_232 ?_
              refine lv_topi (fun x_48 ex_48 => ?_)
              have bx_48 : iv 0 268435456 x_48 := by rw [ex_48]; exact tf_28 _
              refine lv_icmp_ge (tgt := 241) hx hb dX10_laysForce_233 (by decide) (fun c_49 => ?_) (fun c_49 => ?_)
              · refine lv_aload_n hx hb dX10_laysForce_241 rfl (lv_at hl 5 rfl) ?_
                refine va_get (ci := 10) (v := .ref (z 27)) (C := RX10) (T := TX10) (N := 40) hx hb hg inX10 hown hK hP 8 rfl rfl 27 (by decide) (hg _ q_6_11) (fun _ h9 => h9) rfl dX10_laysForce_242 ?_
                refine lv_iload hx hb dX10_laysForce_245 (lv_at hl 3 rfl) ?_
                refine va_iald hx hb hK hP 0 0 rfl rfl (iv_in bx_33 (by decide)) dX10_laysForce_247 ?_
                refine tpi (y := x_48) ex_48.symm ?_
                refine va_iast hx hb hK hP hD hS 0 0 rfl rfl (iv_in bx_33 (by decide)) dX10_laysForce_248 (fun H locs hP hD hS => ?_)
                obtain ⟨f_50, ef_50, tf_50, hP, hD⟩ : ∃ f_50 : Nat → Int32, f_50 = (upd f_28 (x_33 : Int32).toNatClampNeg x_48) ∧ (∀ j, iv 0 268435456 (f_50 j)) ∧ va_P V.1 vwCl [(z 27, aI V 10000 f_50), (z 15, aI V 900 f_1), (z 16, aI V 6 f_2), (z 24, aI V 10000 f_3), (z 28, aZ V 10000 f_5), (z 1, aI V 3075 fz1), (z 26, aI V 10000 f_47), (z 25, aI V 40000 f_4), (z 0, .inr (10, mo z pz0_0 pz0_5 pz0_6 pz0_7 pz0_8 pz0_9 pz0_10 pz0_11 pz0_12 pz0_13 pz0_14 pz0_18 pz0_19 pz0_22 pz0_23 v_6))] H ∧ va_D A [(z 27, aI V 10000 f_50), (z 15, aI V 900 f_1), (z 16, aI V 6 f_2), (z 24, aI V 10000 f_3), (z 28, aZ V 10000 f_5), (z 1, aI V 3075 fz1), (z 26, aI V 10000 f_47), (z 25, aI V 40000 f_4), (z 0, .inr (10, mo z pz0_0 pz0_5 pz0_6 pz0_7 pz0_8 pz0_9 pz0_10 pz0_11 pz0_12 pz0_13 pz0_14 pz0_18 pz0_19 pz0_22 pz0_23 v_6))] := ⟨_, rfl, ivU tf_28 _ bx_48, hP, hD⟩
                obtain ⟨x_51, ex_51⟩ : ∃ z9 : Int32, z9 = u_25 + (-1) := ⟨_, rfl⟩
                have bx_51 : iv (-1) 9998 x_51 := by rw [ex_51]; exact iv_add b_32 (iv_c ((-1) : Int32) (a := (-1)) (b := (-1)) (by decide)) (by decide)
                refine lv_iinc (v := x_51) (lv' := [(4, .int x_51), (3, .int x_46), (7, .int r_42), (6, .int u_38), (5, .int x_33), (0, .ref (z 0)), (1, .int a1), (2, .int a2)]) hx hb dX10_laysForce_249 hl (k := 4) rfl (by rw [ex_51]; rfl) (by decide) rfl (fun ls hl => ?_)
                refine lv_goto (tgt := 90) hx hb dX10_laysForce_252 (by decide) ?_
                have hP := subP (ws' := [(z 26, aI V 10000 f_47), (z 27, aI V 10000 f_50), (z 15, aI V 900 f_1), (z 16, aI V 6 f_2), (z 24, aI V 10000 f_3), (z 25, aI V 40000 f_4), (z 28, aZ V 10000 f_5), (z 0, .inr (10, mo z pz0_0 pz0_5 pz0_6 pz0_7 pz0_8 pz0_9 pz0_10 pz0_11 pz0_12 pz0_13 pz0_14 pz0_18 pz0_19 pz0_22 pz0_23 v_6)), (z 1, aI V 3075 fz1)]) hP [6, 0, 1, 2, 3, 7, 4, 8, 5] rfl
                have hD := hD.sub (ws' := [(z 26, aI V 10000 f_47), (z 27, aI V 10000 f_50), (z 15, aI V 900 f_1), (z 16, aI V 6 f_2), (z 24, aI V 10000 f_3), (z 25, aI V 40000 f_4), (z 28, aZ V 10000 f_5), (z 0, .inr (10, mo z pz0_0 pz0_5 pz0_6 pz0_7 pz0_8 pz0_9 pz0_10 pz0_11 pz0_12 pz0_13 pz0_14 pz0_18 pz0_19 pz0_22 pz0_23 v_6)), (z 1, aI V 3075 fz1)]) [6, 0, 1, 2, 3, 7, 4, 8, 5] rfl rfl
                exact ihn_29 _ _ _ _ (by rw [en_29, ex_51]; exact mu_dn b_32 (by decide)) ⟨x_51, x_46, f_47, f_50, (iv_w bx_51 (by decide)), bx_46, tf_47, tf_50, (SD_1 inn_29_0 (Nat.add_lt_add_of_lt_of_le (sm_lt ef_47 bx_33 (by decide) ex_36 b_45 b_44 (by decide) c_43) (sm_le ef_50 bx_33 (by decide) ex_48 bx_48 bx_48 (by decide) (Int.le_refl _)))), inn_39_1, rfl, hP, hD, hS, lv_sub hl [0, 1, 5, 6, 7] rfl⟩
              · have b_52 : iv 0 268435455 r_42 := iv_l1 (Int32.not_le.mp c_49) br_42 bx_48 (by decide)
                have b_53 : iv 1 268435456 x_48 := iv_l2 (Int32.not_le.mp c_49) br_42 bx_48 (by decide)
                refine lv_iload hx hb dX10_laysForce_236 (lv_at hl 1 rfl) ?_
                refine lv_goto (tgt := 248) hx hb dX10_laysForce_238 (by decide) ?_
                refine va_iast hx hb hK hP hD hS 0 0 rfl rfl (iv_in bx_33 (by decide)) dX10_laysForce_248 (fun H locs hP hD hS => ?_)
                obtain ⟨f_54, ef_54, tf_54, hP, hD⟩ : ∃ f_54 : Nat → Int32, f_54 = (upd f_28 (x_33 : Int32).toNatClampNeg r_42) ∧ (∀ j, iv 0 268435456 (f_54 j)) ∧ va_P V.1 vwCl [(z 27, aI V 10000 f_54), (z 15, aI V 900 f_1), (z 16, aI V 6 f_2), (z 24, aI V 10000 f_3), (z 28, aZ V 10000 f_5), (z 1, aI V 3075 fz1), (z 26, aI V 10000 f_47), (z 25, aI V 40000 f_4), (z 0, .inr (10, mo z pz0_0 pz0_5 pz0_6 pz0_7 pz0_8 pz0_9 pz0_10 pz0_11 pz0_12 pz0_13 pz0_14 pz0_18 pz0_19 pz0_22 pz0_23 v_6))] H ∧ va_D A [(z 27, aI V 10000 f_54), (z 15, aI V 900 f_1), (z 16, aI V 6 f_2), (z 24, aI V 10000 f_3), (z 28, aZ V 10000 f_5), (z 1, aI V 3075 fz1), (z 26, aI V 10000 f_47), (z 25, aI V 40000 f_4), (z 0, .inr (10, mo z pz0_0 pz0_5 pz0_6 pz0_7 pz0_8 pz0_9 pz0_10 pz0_11 pz0_12 pz0_13 pz0_14 pz0_18 pz0_19 pz0_22 pz0_23 v_6))] := ⟨_, rfl, ivU tf_28 _ (iv_w b_52 (by decide)), hP, hD⟩
                obtain ⟨x_55, ex_55⟩ : ∃ z9 : Int32, z9 = u_25 + (-1) := ⟨_, rfl⟩
                have bx_55 : iv (-1) 9998 x_55 := by rw [ex_55]; exact iv_add b_32 (iv_c ((-1) : Int32) (a := (-1)) (b := (-1)) (by decide)) (by decide)
                refine lv_iinc (v := x_55) (lv' := [(4, .int x_55), (3, .int x_46), (7, .int r_42), (6, .int u_38), (5, .int x_33), (0, .ref (z 0)), (1, .int a1), (2, .int a2)]) hx hb dX10_laysForce_249 hl (k := 4) rfl (by rw [ex_55]; rfl) (by decide) rfl (fun ls hl => ?_)
                refine lv_goto (tgt := 90) hx hb dX10_laysForce_252 (by decide) ?_
                have hP := subP (ws' := [(z 26, aI V 10000 f_47), (z 27, aI V 10000 f_54), (z 15, aI V 900 f_1), (z 16, aI V 6 f_2), (z 24, aI V 10000 f_3), (z 25, aI V 40000 f_4), (z 28, aZ V 10000 f_5), (z 0, .inr (10, mo z pz0_0 pz0_5 pz0_6 pz0_7 pz0_8 pz0_9 pz0_10 pz0_11 pz0_12 pz0_13 pz0_14 pz0_18 pz0_19 pz0_22 pz0_23 v_6)), (z 1, aI V 3075 fz1)]) hP [6, 0, 1, 2, 3, 7, 4, 8, 5] rfl
                have hD := hD.sub (ws' := [(z 26, aI V 10000 f_47), (z 27, aI V 10000 f_54), (z 15, aI V 900 f_1), (z 16, aI V 6 f_2), (z 24, aI V 10000 f_3), (z 25, aI V 40000 f_4), (z 28, aZ V 10000 f_5), (z 0, .inr (10, mo z pz0_0 pz0_5 pz0_6 pz0_7 pz0_8 pz0_9 pz0_10 pz0_11 pz0_12 pz0_13 pz0_14 pz0_18 pz0_19 pz0_22 pz0_23 v_6)), (z 1, aI V 3075 fz1)]) [6, 0, 1, 2, 3, 7, 4, 8, 5] rfl rfl
                exact ihn_29 _ _ _ _ (by rw [en_29, ex_55]; exact mu_dn b_32 (by decide)) ⟨x_55, x_46, f_47, f_54, (iv_w bx_55 (by decide)), bx_46, tf_47, tf_54, (SD_1 inn_29_0 (Nat.add_lt_add_of_lt_of_le (sm_lt ef_47 bx_33 (by decide) ex_36 b_45 b_44 (by decide) c_43) (sm_le ef_54 bx_33 (by decide) ex_48 b_53 b_52 (by decide) (Int.le_of_lt (Int32.lt_iff_toInt_lt.mp (Int32.not_le.mp c_49)))))), inn_39_1, rfl, hP, hD, hS, lv_sub hl [0, 1, 5, 6, 7] rfl⟩
            · refine lv_iload hx hb dX10_laysForce_190 (lv_at hl 0 rfl) ?_
              refine lv_aload_n hx hb dX10_laysForce_192 rfl (lv_at hl 5 rfl) ?_
              refine va_get (ci := 10) (v := .ref (z 27)) (C := RX10) (T := TX10) (N := 40) hx hb hg inX10 hown hK hP 8 rfl rfl 27 (by decide) (hg _ q_6_11) (fun _ h9 => h9) rfl dX10_laysForce_193 ?_
              refine lv_iload hx hb dX10_laysForce_196 (lv_at hl 2 rfl) ?_
              refine va_iald hx hb hK hP 0 0 rfl rfl (iv_in bx_33 (by decide)) dX10_laysForce_198 ?_
              refine lv_topi (fun x_56 ex_56 => ?_)
              have bx_56 : iv 0 268435456 x_56 := by rw [ex_56]; exact tf_28 _
              refine lv_icmp_ge (tgt := 206) hx hb dX10_laysForce_199 (by decide) (fun c_57 => ?_) (fun c_57 => ?_)
              · refine lv_iconst (v := 0) hx hb dX10_laysForce_206 (by decide) ?_
                refine lv_ior hx hb dX10_laysForce_207 ?_
                refine lv_topi (fun x_58 ex_58 => ?_)
                have bx_58 : iv 0 1 x_58 := by rw [ex_58]; exact iv_or1 bu_26 (iv_c (0 : Int32) (a := 0) (b := 0) (by decide)) (by decide)
                refine lv_istore_n (lv' := [(3, .int x_58), (7, .int r_42), (6, .int u_38), (5, .int x_33), (4, .int u_25), (0, .ref (z 0)), (1, .int a1), (2, .int a2)]) hx hb dX10_laysForce_208 rfl hl (by decide) rfl (fun ls hl => ?_)
                refine lv_aload_n hx hb dX10_laysForce_209 rfl (lv_at hl 5 rfl) ?_
                refine va_get (ci := 10) (v := .ref (z 26)) (C := RX10) (T := TX10) (N := 40) hx hb hg inX10 hown hK hP 8 rfl rfl 26 (by decide) (hg _ q_6_10) (fun _ h9 => h9) rfl dX10_laysForce_210 ?_
                refine lv_iload hx hb dX10_laysForce_213 (lv_at hl 3 rfl) ?_
                refine lv_iload hx hb dX10_laysForce_215 (lv_at hl 2 rfl) ?_
                refine va_iast hx hb hK hP hD hS 6 0 rfl rfl (iv_in bx_33 (by decide)) dX10_laysForce_217 (fun H locs hP hD hS => ?_)
                obtain ⟨f_59, ef_59, tf_59, hP, hD⟩ : ∃ f_59 : Nat → Int32, f_59 = (upd f_27 (x_33 : Int32).toNatClampNeg u_38) ∧ (∀ j, iv 0 268435456 (f_59 j)) ∧ va_P V.1 vwCl [(z 27, aI V 10000 f_28), (z 15, aI V 900 f_1), (z 16, aI V 6 f_2), (z 24, aI V 10000 f_3), (z 28, aZ V 10000 f_5), (z 1, aI V 3075 fz1), (z 26, aI V 10000 f_59), (z 25, aI V 40000 f_4), (z 0, .inr (10, mo z pz0_0 pz0_5 pz0_6 pz0_7 pz0_8 pz0_9 pz0_10 pz0_11 pz0_12 pz0_13 pz0_14 pz0_18 pz0_19 pz0_22 pz0_23 v_6))] H ∧ va_D A [(z 27, aI V 10000 f_28), (z 15, aI V 900 f_1), (z 16, aI V 6 f_2), (z 24, aI V 10000 f_3), (z 28, aZ V 10000 f_5), (z 1, aI V 3075 fz1), (z 26, aI V 10000 f_59), (z 25, aI V 40000 f_4), (z 0, .inr (10, mo z pz0_0 pz0_5 pz0_6 pz0_7 pz0_8 pz0_9 pz0_10 pz0_11 pz0_12 pz0_13 pz0_14 pz0_18 pz0_19 pz0_22 pz0_23 v_6))] := ⟨_, rfl, ivU tf_27 _ bu_38, hP, hD⟩
                refine lv_aload_n hx hb dX10_laysForce_218 rfl (lv_at hl 5 rfl) ?_
                refine va_get (ci := 10) (v := .ref (z 27)) (C := RX10) (T := TX10) (N := 40) hx hb hg inX10 hown hK hP 8 rfl rfl 27 (by decide) (hg _ q_6_11) (fun _ h9 => h9) rfl dX10_laysForce_219 ?_
                refine lv_iload hx hb dX10_laysForce_222 (lv_at hl 3 rfl) ?_
                refine lv_iload hx hb dX10_laysForce_224 (lv_at hl 1 rfl) ?_
                refine lv_aload_n hx hb dX10_laysForce_226 rfl (lv_at hl 5 rfl) ?_
                refine va_get (ci := 10) (v := .ref (z 27)) (C := RX10) (T := TX10) (N := 40) hx hb hg inX10 hown hK hP 8 rfl rfl 27 (by decide) (hg _ q_6_11) (fun _ h9 => h9) rfl dX10_laysForce_227 ?_
                refine lv_iload hx hb dX10_laysForce_230 (lv_at hl 3 rfl) ?_
                refine va_iald hx hb hK hP 0 0 rfl rfl (iv_in bx_33 (by decide)) dX10_laysForce_232 ?_
                refine tpi (y := x_56) ex_56.symm ?_
                refine lv_icmp_ge (tgt := 241) hx hb dX10_laysForce_233 (by decide) (fun _ => ?_) (fun c_61 => absurd c_57 c_61)
                refine lv_aload_n hx hb dX10_laysForce_241 rfl (lv_at hl 5 rfl) ?_
                refine va_get (ci := 10) (v := .ref (z 27)) (C := RX10) (T := TX10) (N := 40) hx hb hg inX10 hown hK hP 8 rfl rfl 27 (by decide) (hg _ q_6_11) (fun _ h9 => h9) rfl dX10_laysForce_242 ?_
                refine lv_iload hx hb dX10_laysForce_245 (lv_at hl 3 rfl) ?_
                refine va_iald hx hb hK hP 0 0 rfl rfl (iv_in bx_33 (by decide)) dX10_laysForce_247 ?_
                refine tpi (y := x_56) ex_56.symm ?_
                refine va_iast hx hb hK hP hD hS 0 0 rfl rfl (iv_in bx_33 (by decide)) dX10_laysForce_248 (fun H locs hP hD hS => ?_)
                obtain ⟨f_62, ef_62, tf_62, hP, hD⟩ : ∃ f_62 : Nat → Int32, f_62 = (upd f_28 (x_33 : Int32).toNatClampNeg x_56) ∧ (∀ j, iv 0 268435456 (f_62 j)) ∧ va_P V.1 vwCl [(z 27, aI V 10000 f_62), (z 15, aI V 900 f_1), (z 16, aI V 6 f_2), (z 24, aI V 10000 f_3), (z 28, aZ V 10000 f_5), (z 1, aI V 3075 fz1), (z 26, aI V 10000 f_59), (z 25, aI V 40000 f_4), (z 0, .inr (10, mo z pz0_0 pz0_5 pz0_6 pz0_7 pz0_8 pz0_9 pz0_10 pz0_11 pz0_12 pz0_13 pz0_14 pz0_18 pz0_19 pz0_22 pz0_23 v_6))] H ∧ va_D A [(z 27, aI V 10000 f_62), (z 15, aI V 900 f_1), (z 16, aI V 6 f_2), (z 24, aI V 10000 f_3), (z 28, aZ V 10000 f_5), (z 1, aI V 3075 fz1), (z 26, aI V 10000 f_59), (z 25, aI V 40000 f_4), (z 0, .inr (10, mo z pz0_0 pz0_5 pz0_6 pz0_7 pz0_8 pz0_9 pz0_10 pz0_11 pz0_12 pz0_13 pz0_14 pz0_18 pz0_19 pz0_22 pz0_23 v_6))] := ⟨_, rfl, ivU tf_28 _ bx_56, hP, hD⟩
                obtain ⟨x_63, ex_63⟩ : ∃ z9 : Int32, z9 = u_25 + (-1) := ⟨_, rfl⟩
                have bx_63 : iv (-1) 9998 x_63 := by rw [ex_63]; exact iv_add b_32 (iv_c ((-1) : Int32) (a := (-1)) (b := (-1)) (by decide)) (by decide)
                refine lv_iinc (v := x_63) (lv' := [(4, .int x_63), (3, .int x_58), (7, .int r_42), (6, .int u_38), (5, .int x_33), (0, .ref (z 0)), (1, .int a1), (2, .int a2)]) hx hb dX10_laysForce_249 hl (k := 4) rfl (by rw [ex_63]; rfl) (by decide) rfl (fun ls hl => ?_)
                refine lv_goto (tgt := 90) hx hb dX10_laysForce_252 (by decide) ?_
                have hP := subP (ws' := [(z 26, aI V 10000 f_59), (z 27, aI V 10000 f_62), (z 15, aI V 900 f_1), (z 16, aI V 6 f_2), (z 24, aI V 10000 f_3), (z 25, aI V 40000 f_4), (z 28, aZ V 10000 f_5), (z 0, .inr (10, mo z pz0_0 pz0_5 pz0_6 pz0_7 pz0_8 pz0_9 pz0_10 pz0_11 pz0_12 pz0_13 pz0_14 pz0_18 pz0_19 pz0_22 pz0_23 v_6)), (z 1, aI V 3075 fz1)]) hP [6, 0, 1, 2, 3, 7, 4, 8, 5] rfl
                have hD := hD.sub (ws' := [(z 26, aI V 10000 f_59), (z 27, aI V 10000 f_62), (z 15, aI V 900 f_1), (z 16, aI V 6 f_2), (z 24, aI V 10000 f_3), (z 25, aI V 40000 f_4), (z 28, aZ V 10000 f_5), (z 0, .inr (10, mo z pz0_0 pz0_5 pz0_6 pz0_7 pz0_8 pz0_9 pz0_10 pz0_11 pz0_12 pz0_13 pz0_14 pz0_18 pz0_19 pz0_22 pz0_23 v_6)), (z 1, aI V 3075 fz1)]) [6, 0, 1, 2, 3, 7, 4, 8, 5] rfl rfl
                exact ihn_29 _ _ _ _ (by rw [en_29, ex_63]; exact mu_dn b_32 (by decide)) ⟨x_63, x_58, f_59, f_62, (iv_w bx_63 (by decide)), bx_58, tf_59, tf_62, (SD_e inn_29_0 (Nat.add_le_add (sm_le ef_59 bx_33 (by decide) ex_36 bx_36 bu_38 (by decide) inn_39_0) (sm_le ef_62 bx_33 (by decide) ex_56 bx_56 bx_56 (by decide) (Int.le_refl _))) (or_z ex_58)), inn_39_1, rfl, hP, hD, hS, lv_sub hl [0, 1, 5, 6, 7] rfl⟩
              · have b_64 : iv 0 268435455 r_42 := iv_l1 (Int32.not_le.mp c_57) br_42 bx_56 (by decide)
                have b_65 : iv 1 268435456 x_56 := iv_l2 (Int32.not_le.mp c_57) br_42 bx_56 (by decide)
                refine lv_iconst (v := 1) hx hb dX10_laysForce_202 (by decide) ?_
                refine lv_goto (tgt := 207) hx hb dX10_laysForce_203 (by decide) ?_
                refine lv_ior hx hb dX10_laysForce_207 ?_
                refine lv_topi (fun x_66 ex_66 => ?_)
                have bx_66 : iv 0 1 x_66 := by rw [ex_66]; exact iv_or1 bu_26 (iv_c (1 : Int32) (a := 1) (b := 1) (by decide)) (by decide)
                refine lv_istore_n (lv' := [(3, .int x_66), (7, .int r_42), (6, .int u_38), (5, .int x_33), (4, .int u_25), (0, .ref (z 0)), (1, .int a1), (2, .int a2)]) hx hb dX10_laysForce_208 rfl hl (by decide) rfl (fun ls hl => ?_)
                refine lv_aload_n hx hb dX10_laysForce_209 rfl (lv_at hl 5 rfl) ?_
                refine va_get (ci := 10) (v := .ref (z 26)) (C := RX10) (T := TX10) (N := 40) hx hb hg inX10 hown hK hP 8 rfl rfl 26 (by decide) (hg _ q_6_10) (fun _ h9 => h9) rfl dX10_laysForce_210 ?_
                refine lv_iload hx hb dX10_laysForce_213 (lv_at hl 3 rfl) ?_
                refine lv_iload hx hb dX10_laysForce_215 (lv_at hl 2 rfl) ?_
                refine va_iast hx hb hK hP hD hS 6 0 rfl rfl (iv_in bx_33 (by decide)) dX10_laysForce_217 (fun H locs hP hD hS => ?_)
                obtain ⟨f_67, ef_67, tf_67, hP, hD⟩ : ∃ f_67 : Nat → Int32, f_67 = (upd f_27 (x_33 : Int32).toNatClampNeg u_38) ∧ (∀ j, iv 0 268435456 (f_67 j)) ∧ va_P V.1 vwCl [(z 27, aI V 10000 f_28), (z 15, aI V 900 f_1), (z 16, aI V 6 f_2), (z 24, aI V 10000 f_3), (z 28, aZ V 10000 f_5), (z 1, aI V 3075 fz1), (z 26, aI V 10000 f_67), (z 25, aI V 40000 f_4), (z 0, .inr (10, mo z pz0_0 pz0_5 pz0_6 pz0_7 pz0_8 pz0_9 pz0_10 pz0_11 pz0_12 pz0_13 pz0_14 pz0_18 pz0_19 pz0_22 pz0_23 v_6))] H ∧ va_D A [(z 27, aI V 10000 f_28), (z 15, aI V 900 f_1), (z 16, aI V 6 f_2), (z 24, aI V 10000 f_3), (z 28, aZ V 10000 f_5), (z 1, aI V 3075 fz1), (z 26, aI V 10000 f_67), (z 25, aI V 40000 f_4), (z 0, .inr (10, mo z pz0_0 pz0_5 pz0_6 pz0_7 pz0_8 pz0_9 pz0_10 pz0_11 pz0_12 pz0_13 pz0_14 pz0_18 pz0_19 pz0_22 pz0_23 v_6))] := ⟨_, rfl, ivU tf_27 _ bu_38, hP, hD⟩
                refine lv_aload_n hx hb dX10_laysForce_218 rfl (lv_at hl 5 rfl) ?_
                refine va_get (ci := 10) (v := .ref (z 27)) (C := RX10) (T := TX10) (N := 40) hx hb hg inX10 hown hK hP 8 rfl rfl 27 (by decide) (hg _ q_6_11) (fun _ h9 => h9) rfl dX10_laysForce_219 ?_
                refine lv_iload hx hb dX10_laysForce_222 (lv_at hl 3 rfl) ?_
                refine lv_iload hx hb dX10_laysForce_224 (lv_at hl 1 rfl) ?_
                refine lv_aload_n hx hb dX10_laysForce_226 rfl (lv_at hl 5 rfl) ?_
                refine va_get (ci := 10) (v := .ref (z 27)) (C := RX10) (T := TX10) (N := 40) hx hb hg inX10 hown hK hP 8 rfl rfl 27 (by decide) (hg _ q_6_11) (fun _ h9 => h9) rfl dX10_laysForce_227 ?_
                refine lv_iload hx hb dX10_laysForce_230 (lv_at hl 3 rfl) ?_
                refine va_iald hx hb hK hP 0 0 rfl rfl (iv_in bx_33 (by decide)) dX10_laysForce_232 ?_
                refine tpi (y := x_56) ex_56.symm ?_
                refine lv_icmp_ge (tgt := 241) hx hb dX10_laysForce_233 (by decide) (fun c_69 => absurd c_69 c_57) (fun _ => ?_)
                refine lv_iload hx hb dX10_laysForce_236 (lv_at hl 1 rfl) ?_
                refine lv_goto (tgt := 248) hx hb dX10_laysForce_238 (by decide) ?_
                refine va_iast hx hb hK hP hD hS 0 0 rfl rfl (iv_in bx_33 (by decide)) dX10_laysForce_248 (fun H locs hP hD hS => ?_)
                obtain ⟨f_70, ef_70, tf_70, hP, hD⟩ : ∃ f_70 : Nat → Int32, f_70 = (upd f_28 (x_33 : Int32).toNatClampNeg r_42) ∧ (∀ j, iv 0 268435456 (f_70 j)) ∧ va_P V.1 vwCl [(z 27, aI V 10000 f_70), (z 15, aI V 900 f_1), (z 16, aI V 6 f_2), (z 24, aI V 10000 f_3), (z 28, aZ V 10000 f_5), (z 1, aI V 3075 fz1), (z 26, aI V 10000 f_67), (z 25, aI V 40000 f_4), (z 0, .inr (10, mo z pz0_0 pz0_5 pz0_6 pz0_7 pz0_8 pz0_9 pz0_10 pz0_11 pz0_12 pz0_13 pz0_14 pz0_18 pz0_19 pz0_22 pz0_23 v_6))] H ∧ va_D A [(z 27, aI V 10000 f_70), (z 15, aI V 900 f_1), (z 16, aI V 6 f_2), (z 24, aI V 10000 f_3), (z 28, aZ V 10000 f_5), (z 1, aI V 3075 fz1), (z 26, aI V 10000 f_67), (z 25, aI V 40000 f_4), (z 0, .inr (10, mo z pz0_0 pz0_5 pz0_6 pz0_7 pz0_8 pz0_9 pz0_10 pz0_11 pz0_12 pz0_13 pz0_14 pz0_18 pz0_19 pz0_22 pz0_23 v_6))] := ⟨_, rfl, ivU tf_28 _ (iv_w b_64 (by decide)), hP, hD⟩
                obtain ⟨x_71, ex_71⟩ : ∃ z9 : Int32, z9 = u_25 + (-1) := ⟨_, rfl⟩
                have bx_71 : iv (-1) 9998 x_71 := by rw [ex_71]; exact iv_add b_32 (iv_c ((-1) : Int32) (a := (-1)) (b := (-1)) (by decide)) (by decide)
                refine lv_iinc (v := x_71) (lv' := [(4, .int x_71), (3, .int x_66), (7, .int r_42), (6, .int u_38), (5, .int x_33), (0, .ref (z 0)), (1, .int a1), (2, .int a2)]) hx hb dX10_laysForce_249 hl (k := 4) rfl (by rw [ex_71]; rfl) (by decide) rfl (fun ls hl => ?_)
                refine lv_goto (tgt := 90) hx hb dX10_laysForce_252 (by decide) ?_
                have hP := subP (ws' := [(z 26, aI V 10000 f_67), (z 27, aI V 10000 f_70), (z 15, aI V 900 f_1), (z 16, aI V 6 f_2), (z 24, aI V 10000 f_3), (z 25, aI V 40000 f_4), (z 28, aZ V 10000 f_5), (z 0, .inr (10, mo z pz0_0 pz0_5 pz0_6 pz0_7 pz0_8 pz0_9 pz0_10 pz0_11 pz0_12 pz0_13 pz0_14 pz0_18 pz0_19 pz0_22 pz0_23 v_6)), (z 1, aI V 3075 fz1)]) hP [6, 0, 1, 2, 3, 7, 4, 8, 5] rfl
                have hD := hD.sub (ws' := [(z 26, aI V 10000 f_67), (z 27, aI V 10000 f_70), (z 15, aI V 900 f_1), (z 16, aI V 6 f_2), (z 24, aI V 10000 f_3), (z 25, aI V 40000 f_4), (z 28, aZ V 10000 f_5), (z 0, .inr (10, mo z pz0_0 pz0_5 pz0_6 pz0_7 pz0_8 pz0_9 pz0_10 pz0_11 pz0_12 pz0_13 pz0_14 pz0_18 pz0_19 pz0_22 pz0_23 v_6)), (z 1, aI V 3075 fz1)]) [6, 0, 1, 2, 3, 7, 4, 8, 5] rfl rfl
                exact ihn_29 _ _ _ _ (by rw [en_29, ex_71]; exact mu_dn b_32 (by decide)) ⟨x_71, x_66, f_67, f_70, (iv_w bx_71 (by decide)), bx_66, tf_67, tf_70, (SD_1 inn_29_0 (Nat.add_lt_add_of_le_of_lt (sm_le ef_67 bx_33 (by decide) ex_36 bx_36 bu_38 (by decide) inn_39_0) (sm_lt ef_70 bx_33 (by decide) ex_56 b_65 b_64 (by decide) (Int32.not_le.mp c_57)))), inn_39_1, rfl, hP, hD, hS, lv_sub hl [0, 1, 5, 6, 7] rfl⟩
          · have b_72 : iv 0 3 u_37 := iv_l1 (Int32.not_le.mp c_40) bu_37 (iv_c (4 : Int32) (a := 4) (b := 4) (by decide)) (by decide)
            refine lv_aload_n hx hb dX10_laysForce_135 rfl (lv_at hl 5 rfl) ?_
            refine lv_iload hx hb dX10_laysForce_136 (lv_at hl 2 rfl) ?_
            refine lv_iload hx hb dX10_laysForce_138 (lv_at hl 0 rfl) ?_
            refine jnI (wr := [(z 26, aI V 10000 f_27), (z 15, aI V 900 f_1), (z 16, aI V 6 f_2), (z 24, aI V 10000 f_3), (z 28, aZ V 10000 f_5), (z 1, aI V 3075 fz1)]) (rnV (rest := []) ⟨hx, hb, hml, hown, hg⟩ (k_X10_firstBy_0 l V z x_33 u_37 f_28 f_4 pz0_0 pz0_5 pz0_6 pz0_7 pz0_8 pz0_9 pz0_10 pz0_11 pz0_12 pz0_13 pz0_14 pz0_18 pz0_19 pz0_22 pz0_23 v_6 bx_33 b_72 tf_28 tf_4 bpz0_5 bpz0_6 bpz0_7 bpz0_8 bpz0_10 bpz0_11 bpz0_12 bpz0_13 bpz0_14 bpz0_18 bpz0_22 bv_6) mt_X10_firstBy q_8_97 ⟨Nat.le_of_ble_eq_true rfl, Nat.le_of_ble_eq_true rfl⟩ hK hP hD hS hA hE [1, 5, 7] rfl rfl 7 rfl rfl rfl rfl hl.1 rfl (Nat.le_of_ble_eq_true rfl) dX10_laysForce_140 ⟨Nat.le_of_ble_eq_true rfl, Nat.le_of_ble_eq_true rfl⟩) hP hD hS hA [1, 5, 7] [0, 2, 3, 4, 6, 8] rfl rfl rfl (by decide) (fun r_73 w H locs hw hP hD hS => ?_)
            obtain ⟨br_73, er_73, rfl⟩ := hw
            have hP : va_P V.1 vwCl [(z 26, aI V 10000 f_27), (z 15, aI V 900 f_1), (z 16, aI V 6 f_2), (z 24, aI V 10000 f_3), (z 28, aZ V 10000 f_5), (z 1, aI V 3075 fz1), (z 27, aI V 10000 f_28), (z 25, aI V 40000 f_4), (z 0, .inr (10, mo z pz0_0 pz0_5 pz0_6 pz0_7 pz0_8 pz0_9 pz0_10 pz0_11 pz0_12 pz0_13 pz0_14 pz0_18 pz0_19 pz0_22 pz0_23 v_6))] H := hP
            have hD : va_D A [(z 26, aI V 10000 f_27), (z 15, aI V 900 f_1), (z 16, aI V 6 f_2), (z 24, aI V 10000 f_3), (z 28, aZ V 10000 f_5), (z 1, aI V 3075 fz1), (z 27, aI V 10000 f_28), (z 25, aI V 40000 f_4), (z 0, .inr (10, mo z pz0_0 pz0_5 pz0_6 pz0_7 pz0_8 pz0_9 pz0_10 pz0_11 pz0_12 pz0_13 pz0_14 pz0_18 pz0_19 pz0_22 pz0_23 v_6))] := hD
            refine lv_iload hx hb dX10_laysForce_143 (lv_at hl 1 rfl) ?_
            refine lv_icmp_ge (tgt := 159) hx hb dX10_laysForce_145 (by decide) (fun c_74 => ?_) (fun c_74 => ?_)
            · refine lv_iload hx hb dX10_laysForce_159 (lv_at hl 1 rfl) ?_
              refine lv_istore (lv' := [(6, .int u_38), (7, .int u_37), (5, .int x_33), (4, .int u_25), (3, .int u_26), (0, .ref (z 0)), (1, .int a1), (2, .int a2)]) hx hb dX10_laysForce_161 hl (by decide) rfl (fun ls hl => ?_)
              obtain ⟨x_75, ex_75⟩ : ∃ z9 : Int32, z9 = u_37 + 1 := ⟨_, rfl⟩
              have bx_75 : iv 1 4 x_75 := by rw [ex_75]; exact iv_add b_72 (iv_c (1 : Int32) (a := 1) (b := 1) (by decide)) (by decide)
              refine lv_iinc (v := x_75) (lv' := [(7, .int x_75), (6, .int u_38), (5, .int x_33), (4, .int u_25), (3, .int u_26), (0, .ref (z 0)), (1, .int a1), (2, .int a2)]) hx hb dX10_laysForce_163 hl (k := 1) rfl (by rw [ex_75]; rfl) (by decide) rfl (fun ls hl => ?_)
              refine lv_goto (tgt := 129) hx hb dX10_laysForce_166 (by decide) ?_
              have hP := subP (ws' := [(z 26, aI V 10000 f_27), (z 27, aI V 10000 f_28), (z 15, aI V 900 f_1), (z 16, aI V 6 f_2), (z 24, aI V 10000 f_3), (z 25, aI V 40000 f_4), (z 28, aZ V 10000 f_5), (z 0, .inr (10, mo z pz0_0 pz0_5 pz0_6 pz0_7 pz0_8 pz0_9 pz0_10 pz0_11 pz0_12 pz0_13 pz0_14 pz0_18 pz0_19 pz0_22 pz0_23 v_6)), (z 1, aI V 3075 fz1)]) hP [0, 6, 1, 2, 3, 7, 4, 8, 5] rfl
              have hD := hD.sub (ws' := [(z 26, aI V 10000 f_27), (z 27, aI V 10000 f_28), (z 15, aI V 900 f_1), (z 16, aI V 6 f_2), (z 24, aI V 10000 f_3), (z 25, aI V 40000 f_4), (z 28, aZ V 10000 f_5), (z 0, .inr (10, mo z pz0_0 pz0_5 pz0_6 pz0_7 pz0_8 pz0_9 pz0_10 pz0_11 pz0_12 pz0_13 pz0_14 pz0_18 pz0_19 pz0_22 pz0_23 v_6)), (z 1, aI V 3075 fz1)]) [0, 6, 1, 2, 3, 7, 4, 8, 5] rfl rfl
              exact ihn_39 _ _ _ _ (by rw [en_39, ex_75]; exact mu_up b_72 (by decide)) ⟨x_75, u_38, (iv_w bx_75 (by decide)), bu_38, inn_39_0, inn_39_1, rfl, hP, hD, hS, lv_sub hl [0, 1, 2, 3, 4, 5, 6, 7] rfl⟩
            · have b_76 : iv 1 268435455 r_73 := iv_l1 (Int32.not_le.mp c_74) br_73 bu_38 (by decide)
              have b_77 : iv 2 268435456 u_38 := iv_l2 (Int32.not_le.mp c_74) br_73 bu_38 (by decide)
              refine lv_aload_n hx hb dX10_laysForce_148 rfl (lv_at hl 5 rfl) ?_
              refine lv_iload hx hb dX10_laysForce_149 (lv_at hl 2 rfl) ?_
              refine lv_iload hx hb dX10_laysForce_151 (lv_at hl 0 rfl) ?_
              refine jnI (wr := [(z 26, aI V 10000 f_27), (z 15, aI V 900 f_1), (z 16, aI V 6 f_2), (z 24, aI V 10000 f_3), (z 28, aZ V 10000 f_5), (z 1, aI V 3075 fz1)]) (rnV (rest := []) ⟨hx, hb, hml, hown, hg⟩ (k_X10_firstBy_0 l V z x_33 u_37 f_28 f_4 pz0_0 pz0_5 pz0_6 pz0_7 pz0_8 pz0_9 pz0_10 pz0_11 pz0_12 pz0_13 pz0_14 pz0_18 pz0_19 pz0_22 pz0_23 v_6 bx_33 b_72 tf_28 tf_4 bpz0_5 bpz0_6 bpz0_7 bpz0_8 bpz0_10 bpz0_11 bpz0_12 bpz0_13 bpz0_14 bpz0_18 bpz0_22 bv_6) mt_X10_firstBy q_8_97 ⟨Nat.le_of_ble_eq_true rfl, Nat.le_of_ble_eq_true rfl⟩ hK hP hD hS hA hE [6, 7, 8] rfl rfl 8 rfl rfl rfl rfl hl.1 rfl (Nat.le_of_ble_eq_true rfl) dX10_laysForce_153 ⟨Nat.le_of_ble_eq_true rfl, Nat.le_of_ble_eq_true rfl⟩) hP hD hS hA [6, 7, 8] [0, 1, 2, 3, 4, 5] rfl rfl rfl (by decide) (fun r_78 w H locs hw hP hD hS => ?_)
              obtain ⟨br_78, er_78, rfl⟩ := hw
              have e9_r_78 : r_78 = r_73 := er_78.trans er_73.symm
              rw [e9_r_78]
              have hP : va_P V.1 vwCl [(z 26, aI V 10000 f_27), (z 15, aI V 900 f_1), (z 16, aI V 6 f_2), (z 24, aI V 10000 f_3), (z 28, aZ V 10000 f_5), (z 1, aI V 3075 fz1), (z 27, aI V 10000 f_28), (z 25, aI V 40000 f_4), (z 0, .inr (10, mo z pz0_0 pz0_5 pz0_6 pz0_7 pz0_8 pz0_9 pz0_10 pz0_11 pz0_12 pz0_13 pz0_14 pz0_18 pz0_19 pz0_22 pz0_23 v_6))] H := hP
              have hD : va_D A [(z 26, aI V 10000 f_27), (z 15, aI V 900 f_1), (z 16, aI V 6 f_2), (z 24, aI V 10000 f_3), (z 28, aZ V 10000 f_5), (z 1, aI V 3075 fz1), (z 27, aI V 10000 f_28), (z 25, aI V 40000 f_4), (z 0, .inr (10, mo z pz0_0 pz0_5 pz0_6 pz0_7 pz0_8 pz0_9 pz0_10 pz0_11 pz0_12 pz0_13 pz0_14 pz0_18 pz0_19 pz0_22 pz0_23 v_6))] := hD
              refine lv_goto (tgt := 161) hx hb dX10_laysForce_156 (by decide) ?_
              refine lv_istore (lv' := [(6, .int r_73), (7, .int u_37), (5, .int x_33), (4, .int u_25), (3, .int u_26), (0, .ref (z 0)), (1, .int a1), (2, .int a2)]) hx hb dX10_laysForce_161 hl (by decide) rfl (fun ls hl => ?_)
              obtain ⟨x_79, ex_79⟩ : ∃ z9 : Int32, z9 = u_37 + 1 := ⟨_, rfl⟩
              have bx_79 : iv 1 4 x_79 := by rw [ex_79]; exact iv_add b_72 (iv_c (1 : Int32) (a := 1) (b := 1) (by decide)) (by decide)
              refine lv_iinc (v := x_79) (lv' := [(7, .int x_79), (6, .int r_73), (5, .int x_33), (4, .int u_25), (3, .int u_26), (0, .ref (z 0)), (1, .int a1), (2, .int a2)]) hx hb dX10_laysForce_163 hl (k := 1) rfl (by rw [ex_79]; rfl) (by decide) rfl (fun ls hl => ?_)
              refine lv_goto (tgt := 129) hx hb dX10_laysForce_166 (by decide) ?_
              have hP := subP (ws' := [(z 26, aI V 10000 f_27), (z 27, aI V 10000 f_28), (z 15, aI V 900 f_1), (z 16, aI V 6 f_2), (z 24, aI V 10000 f_3), (z 25, aI V 40000 f_4), (z 28, aZ V 10000 f_5), (z 0, .inr (10, mo z pz0_0 pz0_5 pz0_6 pz0_7 pz0_8 pz0_9 pz0_10 pz0_11 pz0_12 pz0_13 pz0_14 pz0_18 pz0_19 pz0_22 pz0_23 v_6)), (z 1, aI V 3075 fz1)]) hP [0, 6, 1, 2, 3, 7, 4, 8, 5] rfl
              have hD := hD.sub (ws' := [(z 26, aI V 10000 f_27), (z 27, aI V 10000 f_28), (z 15, aI V 900 f_1), (z 16, aI V 6 f_2), (z 24, aI V 10000 f_3), (z 25, aI V 40000 f_4), (z 28, aZ V 10000 f_5), (z 0, .inr (10, mo z pz0_0 pz0_5 pz0_6 pz0_7 pz0_8 pz0_9 pz0_10 pz0_11 pz0_12 pz0_13 pz0_14 pz0_18 pz0_19 pz0_22 pz0_23 v_6)), (z 1, aI V 3075 fz1)]) [0, 6, 1, 2, 3, 7, 4, 8, 5] rfl rfl
              exact ihn_39 _ _ _ _ (by rw [en_39, ex_79]; exact mu_up b_72 (by decide)) ⟨x_79, r_73, (iv_w bx_79 (by decide)), (iv_w b_76 (by decide)), (Int.le_trans (Int.le_of_lt (Int32.lt_iff_toInt_lt.mp (Int32.not_le.mp c_74))) inn_39_0), inn_39_1, rfl, hP, hD, hS, lv_sub hl [0, 1, 2, 3, 4, 5, 6, 7] rfl⟩
        · have b_80 : iv 0 4 a2 := iv_q c_35.symm br_34
          refine lv_goto (tgt := 249) hx hb dX10_laysForce_114 (by decide) ?_
          obtain ⟨x_81, ex_81⟩ : ∃ z9 : Int32, z9 = u_25 + (-1) := ⟨_, rfl⟩
          have bx_81 : iv (-1) 9998 x_81 := by rw [ex_81]; exact iv_add b_32 (iv_c ((-1) : Int32) (a := (-1)) (b := (-1)) (by decide)) (by decide)
          refine lv_iinc (v := x_81) (lv' := [(4, .int x_81), (5, .int x_33), (3, .int u_26), (0, .ref (z 0)), (1, .int a1), (2, .int a2)]) hx hb dX10_laysForce_249 hl (k := 1) rfl (by rw [ex_81]; rfl) (by decide) rfl (fun ls hl => ?_)
          refine lv_goto (tgt := 90) hx hb dX10_laysForce_252 (by decide) ?_
          exact ihn_29 _ _ _ _ (by rw [en_29, ex_81]; exact mu_dn b_32 (by decide)) ⟨x_81, u_26, f_27, f_28, (iv_w bx_81 (by decide)), bu_26, tf_27, tf_28, inn_29_0, inn_29_1, rfl, hP, hD, hS, lv_sub hl [0, 2, 3, 4, 5] rfl⟩
  · have b_82 : iv 0 9999 u_10 := iv_l1 (Int32.not_le.mp c_14) bu_10 bv_6 (by decide)
    have b_83 : iv 1 10000 v_6 := iv_l2 (Int32.not_le.mp c_14) bu_10 bv_6 (by decide)
    refine lv_aload_n hx hb dX10_laysForce_14 rfl (lv_at hl 1 rfl) ?_
    refine va_get (ci := 10) (v := .ref (z 26)) (C := RX10) (T := TX10) (N := 40) hx hb hg inX10 hown hK hP 7 rfl rfl 26 (by decide) (hg _ q_6_10) (fun _ h9 => h9) rfl dX10_laysForce_15 ?_
    refine lv_aload_n hx hb dX10_laysForce_18 rfl (lv_at hl 1 rfl) ?_
    refine va_get (ci := 10) (v := .ref (z 24)) (C := RX10) (T := TX10) (N := 40) hx hb hg inX10 hown hK hP 7 rfl rfl 24 (by decide) (hg _ q_6_8) (fun _ h9 => h9) rfl dX10_laysForce_19 ?_
    refine lv_iload_n hx hb dX10_laysForce_22 rfl (lv_at hl 0 rfl) ?_
    refine va_iald hx hb hK hP 4 0 rfl rfl (iv_in b_82 (by decide)) dX10_laysForce_23 ?_
    refine lv_topi (fun x_84 ex_84 => ?_)
    have bx_84 : iv 0 9999 x_84 := by rw [ex_84]; exact tf_3 _
    refine lv_aload_n hx hb dX10_laysForce_24 rfl (lv_at hl 1 rfl) ?_
    refine va_get (ci := 10) (v := .ref (z 24)) (C := RX10) (T := TX10) (N := 40) hx hb hg inX10 hown hK hP 7 rfl rfl 24 (by decide) (hg _ q_6_8) (fun _ h9 => h9) rfl dX10_laysForce_25 ?_
    refine lv_iload_n hx hb dX10_laysForce_28 rfl (lv_at hl 0 rfl) ?_
    refine va_iald hx hb hK hP 4 0 rfl rfl (iv_in b_82 (by decide)) dX10_laysForce_29 ?_
    refine tpi (y := x_84) ex_84.symm ?_
    refine lv_iload_n hx hb dX10_laysForce_30 rfl (lv_at hl 2 rfl) ?_
    refine jnI (wr := [(z 26, aI V 10000 f_11), (z 27, aI V 10000 f_12), (z 15, aI V 900 f_1), (z 16, aI V 6 f_2), (z 24, aI V 10000 f_3), (z 25, aI V 40000 f_4), (z 28, aZ V 10000 f_5), (z 0, .inr (10, mo z pz0_0 pz0_5 pz0_6 pz0_7 pz0_8 pz0_9 pz0_10 pz0_11 pz0_12 pz0_13 pz0_14 pz0_18 pz0_19 pz0_22 pz0_23 v_6)), (z 1, aI V 3075 fz1)]) (rnS (rest := [.int x_84, .ref (z 26)]) ⟨hx, hb, hml, hown, hg⟩ (k_X10_stackIn_0 l V x_84 a1 bx_84 ba1) mt_X10_stackIn q_7_26 ⟨Nat.le_of_ble_eq_true rfl, Nat.le_of_ble_eq_true rfl⟩ hK hP hD hS hA hE [] rfl rfl rfl hl.1 rfl (Nat.le_of_ble_eq_true rfl) dX10_laysForce_31 ⟨Nat.le_of_ble_eq_true rfl, Nat.le_of_ble_eq_true rfl⟩) hP hD hS hA [] [0, 1, 2, 3, 4, 5, 6, 7, 8] rfl rfl rfl (by decide) (fun r_85 w H locs hw hP hD hS => ?_)
    obtain ⟨br_85, er_85, rfl⟩ := hw
    have hP : va_P V.1 vwCl [(z 26, aI V 10000 f_11), (z 27, aI V 10000 f_12), (z 15, aI V 900 f_1), (z 16, aI V 6 f_2), (z 24, aI V 10000 f_3), (z 25, aI V 40000 f_4), (z 28, aZ V 10000 f_5), (z 0, .inr (10, mo z pz0_0 pz0_5 pz0_6 pz0_7 pz0_8 pz0_9 pz0_10 pz0_11 pz0_12 pz0_13 pz0_14 pz0_18 pz0_19 pz0_22 pz0_23 v_6)), (z 1, aI V 3075 fz1)] H := hP
    have hD : va_D A [(z 26, aI V 10000 f_11), (z 27, aI V 10000 f_12), (z 15, aI V 900 f_1), (z 16, aI V 6 f_2), (z 24, aI V 10000 f_3), (z 25, aI V 40000 f_4), (z 28, aZ V 10000 f_5), (z 0, .inr (10, mo z pz0_0 pz0_5 pz0_6 pz0_7 pz0_8 pz0_9 pz0_10 pz0_11 pz0_12 pz0_13 pz0_14 pz0_18 pz0_19 pz0_22 pz0_23 v_6)), (z 1, aI V 3075 fz1)] := hD
    refine lv_iload_n hx hb dX10_laysForce_34 rfl (lv_at hl 3 rfl) ?_
    refine lv_icmp_ne (tgt := 42) hx hb dX10_laysForce_35 (by decide) (fun c_86 => ?_) (fun c_86 => ?_)
    · refine lv_ldcw (v := 268435456) hx hb hown (hg _ q_7_202) dX10_laysForce_42 ?_
      refine va_iast hx hb hK hP hD hS 0 0 rfl rfl (iv_in bx_84 (by decide)) dX10_laysForce_45 (fun H locs hP hD hS => ?_)
      obtain ⟨f_87, ef_87, tf_87, hP, hD⟩ : ∃ f_87 : Nat → Int32, f_87 = (upd f_11 (x_84 : Int32).toNatClampNeg 268435456) ∧ (∀ j, iv 0 268435456 (f_87 j)) ∧ va_P V.1 vwCl [(z 26, aI V 10000 f_87), (z 27, aI V 10000 f_12), (z 15, aI V 900 f_1), (z 16, aI V 6 f_2), (z 24, aI V 10000 f_3), (z 25, aI V 40000 f_4), (z 28, aZ V 10000 f_5), (z 0, .inr (10, mo z pz0_0 pz0_5 pz0_6 pz0_7 pz0_8 pz0_9 pz0_10 pz0_11 pz0_12 pz0_13 pz0_14 pz0_18 pz0_19 pz0_22 pz0_23 v_6)), (z 1, aI V 3075 fz1)] H ∧ va_D A [(z 26, aI V 10000 f_87), (z 27, aI V 10000 f_12), (z 15, aI V 900 f_1), (z 16, aI V 6 f_2), (z 24, aI V 10000 f_3), (z 25, aI V 40000 f_4), (z 28, aZ V 10000 f_5), (z 0, .inr (10, mo z pz0_0 pz0_5 pz0_6 pz0_7 pz0_8 pz0_9 pz0_10 pz0_11 pz0_12 pz0_13 pz0_14 pz0_18 pz0_19 pz0_22 pz0_23 v_6)), (z 1, aI V 3075 fz1)] := ⟨_, rfl, ivU tf_11 _ (iv_c (268435456 : Int32) (by decide)), hP, hD⟩
      refine lv_aload_n hx hb dX10_laysForce_46 rfl (lv_at hl 1 rfl) ?_
      refine va_get (ci := 10) (v := .ref (z 27)) (C := RX10) (T := TX10) (N := 40) hx hb hg inX10 hown hK hP 7 rfl rfl 27 (by decide) (hg _ q_6_11) (fun _ h9 => h9) rfl dX10_laysForce_47 ?_
      refine lv_aload_n hx hb dX10_laysForce_50 rfl (lv_at hl 1 rfl) ?_
      refine va_get (ci := 10) (v := .ref (z 24)) (C := RX10) (T := TX10) (N := 40) hx hb hg inX10 hown hK hP 7 rfl rfl 24 (by decide) (hg _ q_6_8) (fun _ h9 => h9) rfl dX10_laysForce_51 ?_
      refine lv_iload_n hx hb dX10_laysForce_54 rfl (lv_at hl 0 rfl) ?_
      refine va_iald hx hb hK hP 4 0 rfl rfl (iv_in b_82 (by decide)) dX10_laysForce_55 ?_
      refine tpi (y := x_84) ex_84.symm ?_
      refine lv_aload_n hx hb dX10_laysForce_56 rfl (lv_at hl 1 rfl) ?_
      refine va_get (ci := 10) (v := .ref (z 26)) (C := RX10) (T := TX10) (N := 40) hx hb hg inX10 hown hK hP 7 rfl rfl 26 (by decide) (hg _ q_6_10) (fun _ h9 => h9) rfl dX10_laysForce_57 ?_
      refine lv_aload_n hx hb dX10_laysForce_60 rfl (lv_at hl 1 rfl) ?_
      refine va_get (ci := 10) (v := .ref (z 24)) (C := RX10) (T := TX10) (N := 40) hx hb hg inX10 hown hK hP 7 rfl rfl 24 (by decide) (hg _ q_6_8) (fun _ h9 => h9) rfl dX10_laysForce_61 ?_
      refine lv_iload_n hx hb dX10_laysForce_64 rfl (lv_at hl 0 rfl) ?_
      refine va_iald hx hb hK hP 4 0 rfl rfl (iv_in b_82 (by decide)) dX10_laysForce_65 ?_
      refine tpi (y := x_84) ex_84.symm ?_
      refine va_iald hx hb hK hP 0 0 rfl rfl (iv_in bx_84 (by decide)) dX10_laysForce_66 ?_
      refine tpi (y := 268435456) (show f_87 (x_84 : Int32).toNatClampNeg = 268435456 from by rw [ef_87]; exact upd_at) ?_
      refine va_iast hx hb hK hP hD hS 1 0 rfl rfl (iv_in bx_84 (by decide)) dX10_laysForce_67 (fun H locs hP hD hS => ?_)
      obtain ⟨f_88, ef_88, tf_88, hP, hD⟩ : ∃ f_88 : Nat → Int32, f_88 = (upd f_12 (x_84 : Int32).toNatClampNeg 268435456) ∧ (∀ j, iv 0 268435456 (f_88 j)) ∧ va_P V.1 vwCl [(z 26, aI V 10000 f_87), (z 27, aI V 10000 f_88), (z 15, aI V 900 f_1), (z 16, aI V 6 f_2), (z 24, aI V 10000 f_3), (z 25, aI V 40000 f_4), (z 28, aZ V 10000 f_5), (z 0, .inr (10, mo z pz0_0 pz0_5 pz0_6 pz0_7 pz0_8 pz0_9 pz0_10 pz0_11 pz0_12 pz0_13 pz0_14 pz0_18 pz0_19 pz0_22 pz0_23 v_6)), (z 1, aI V 3075 fz1)] H ∧ va_D A [(z 26, aI V 10000 f_87), (z 27, aI V 10000 f_88), (z 15, aI V 900 f_1), (z 16, aI V 6 f_2), (z 24, aI V 10000 f_3), (z 25, aI V 40000 f_4), (z 28, aZ V 10000 f_5), (z 0, .inr (10, mo z pz0_0 pz0_5 pz0_6 pz0_7 pz0_8 pz0_9 pz0_10 pz0_11 pz0_12 pz0_13 pz0_14 pz0_18 pz0_19 pz0_22 pz0_23 v_6)), (z 1, aI V 3075 fz1)] := ⟨_, rfl, ivU tf_12 _ (iv_c (268435456 : Int32) (by decide)), hP, hD⟩
      obtain ⟨x_89, ex_89⟩ : ∃ z9 : Int32, z9 = u_10 + 1 := ⟨_, rfl⟩
      have bx_89 : iv 1 10000 x_89 := by rw [ex_89]; exact iv_add b_82 (iv_c (1 : Int32) (a := 1) (b := 1) (by decide)) (by decide)
      refine lv_iinc (v := x_89) (lv' := [(3, .int x_89), (0, .ref (z 0)), (1, .int a1), (2, .int a2)]) hx hb dX10_laysForce_68 hl (k := 0) rfl (by rw [ex_89]; rfl) (by decide) rfl (fun ls hl => ?_)
      refine lv_goto (tgt := 6) hx hb dX10_laysForce_71 (by decide) ?_
      exact ihn_13 _ _ _ _ (by rw [en_13, ex_89]; exact mu_up b_82 (by decide)) ⟨x_89, f_87, f_88, (iv_w bx_89 (by decide)), tf_87, tf_88, inn_13_0, rfl, hP, hD, hS, lv_sub hl [0, 1, 2, 3] rfl⟩
    · have b_90 : iv 0 4 a2 := iv_q c_86.symm br_85
      refine lv_iconst (v := 0) hx hb dX10_laysForce_38 (by decide) ?_
      refine lv_goto (tgt := 45) hx hb dX10_laysForce_39 (by decide) ?_
      refine va_iast hx hb hK hP hD hS 0 0 rfl rfl (iv_in bx_84 (by decide)) dX10_laysForce_45 (fun H locs hP hD hS => ?_)
      obtain ⟨f_91, ef_91, tf_91, hP, hD⟩ : ∃ f_91 : Nat → Int32, f_91 = (upd f_11 (x_84 : Int32).toNatClampNeg 0) ∧ (∀ j, iv 0 268435456 (f_91 j)) ∧ va_P V.1 vwCl [(z 26, aI V 10000 f_91), (z 27, aI V 10000 f_12), (z 15, aI V 900 f_1), (z 16, aI V 6 f_2), (z 24, aI V 10000 f_3), (z 25, aI V 40000 f_4), (z 28, aZ V 10000 f_5), (z 0, .inr (10, mo z pz0_0 pz0_5 pz0_6 pz0_7 pz0_8 pz0_9 pz0_10 pz0_11 pz0_12 pz0_13 pz0_14 pz0_18 pz0_19 pz0_22 pz0_23 v_6)), (z 1, aI V 3075 fz1)] H ∧ va_D A [(z 26, aI V 10000 f_91), (z 27, aI V 10000 f_12), (z 15, aI V 900 f_1), (z 16, aI V 6 f_2), (z 24, aI V 10000 f_3), (z 25, aI V 40000 f_4), (z 28, aZ V 10000 f_5), (z 0, .inr (10, mo z pz0_0 pz0_5 pz0_6 pz0_7 pz0_8 pz0_9 pz0_10 pz0_11 pz0_12 pz0_13 pz0_14 pz0_18 pz0_19 pz0_22 pz0_23 v_6)), (z 1, aI V 3075 fz1)] := ⟨_, rfl, ivU tf_11 _ (iv_c (0 : Int32) (by decide)), hP, hD⟩
      refine lv_aload_n hx hb dX10_laysForce_46 rfl (lv_at hl 1 rfl) ?_
      refine va_get (ci := 10) (v := .ref (z 27)) (C := RX10) (T := TX10) (N := 40) hx hb hg inX10 hown hK hP 7 rfl rfl 27 (by decide) (hg _ q_6_11) (fun _ h9 => h9) rfl dX10_laysForce_47 ?_
      refine lv_aload_n hx hb dX10_laysForce_50 rfl (lv_at hl 1 rfl) ?_
      refine va_get (ci := 10) (v := .ref (z 24)) (C := RX10) (T := TX10) (N := 40) hx hb hg inX10 hown hK hP 7 rfl rfl 24 (by decide) (hg _ q_6_8) (fun _ h9 => h9) rfl dX10_laysForce_51 ?_
      refine lv_iload_n hx hb dX10_laysForce_54 rfl (lv_at hl 0 rfl) ?_
      refine va_iald hx hb hK hP 4 0 rfl rfl (iv_in b_82 (by decide)) dX10_laysForce_55 ?_
      refine tpi (y := x_84) ex_84.symm ?_
      refine lv_aload_n hx hb dX10_laysForce_56 rfl (lv_at hl 1 rfl) ?_
      refine va_get (ci := 10) (v := .ref (z 26)) (C := RX10) (T := TX10) (N := 40) hx hb hg inX10 hown hK hP 7 rfl rfl 26 (by decide) (hg _ q_6_10) (fun _ h9 => h9) rfl dX10_laysForce_57 ?_
      refine lv_aload_n hx hb dX10_laysForce_60 rfl (lv_at hl 1 rfl) ?_
      refine va_get (ci := 10) (v := .ref (z 24)) (C := RX10) (T := TX10) (N := 40) hx hb hg inX10 hown hK hP 7 rfl rfl 24 (by decide) (hg _ q_6_8) (fun _ h9 => h9) rfl dX10_laysForce_61 ?_
      refine lv_iload_n hx hb dX10_laysForce_64 rfl (lv_at hl 0 rfl) ?_
      refine va_iald hx hb hK hP 4 0 rfl rfl (iv_in b_82 (by decide)) dX10_laysForce_65 ?_
      refine tpi (y := x_84) ex_84.symm ?_
      refine va_iald hx hb hK hP 0 0 rfl rfl (iv_in bx_84 (by decide)) dX10_laysForce_66 ?_
      refine tpi (y := 0) (show f_91 (x_84 : Int32).toNatClampNeg = 0 from by rw [ef_91]; exact upd_at) ?_
      refine va_iast hx hb hK hP hD hS 1 0 rfl rfl (iv_in bx_84 (by decide)) dX10_laysForce_67 (fun H locs hP hD hS => ?_)
      obtain ⟨f_92, ef_92, tf_92, hP, hD⟩ : ∃ f_92 : Nat → Int32, f_92 = (upd f_12 (x_84 : Int32).toNatClampNeg 0) ∧ (∀ j, iv 0 268435456 (f_92 j)) ∧ va_P V.1 vwCl [(z 26, aI V 10000 f_91), (z 27, aI V 10000 f_92), (z 15, aI V 900 f_1), (z 16, aI V 6 f_2), (z 24, aI V 10000 f_3), (z 25, aI V 40000 f_4), (z 28, aZ V 10000 f_5), (z 0, .inr (10, mo z pz0_0 pz0_5 pz0_6 pz0_7 pz0_8 pz0_9 pz0_10 pz0_11 pz0_12 pz0_13 pz0_14 pz0_18 pz0_19 pz0_22 pz0_23 v_6)), (z 1, aI V 3075 fz1)] H ∧ va_D A [(z 26, aI V 10000 f_91), (z 27, aI V 10000 f_92), (z 15, aI V 900 f_1), (z 16, aI V 6 f_2), (z 24, aI V 10000 f_3), (z 25, aI V 40000 f_4), (z 28, aZ V 10000 f_5), (z 0, .inr (10, mo z pz0_0 pz0_5 pz0_6 pz0_7 pz0_8 pz0_9 pz0_10 pz0_11 pz0_12 pz0_13 pz0_14 pz0_18 pz0_19 pz0_22 pz0_23 v_6)), (z 1, aI V 3075 fz1)] := ⟨_, rfl, ivU tf_12 _ (iv_c (0 : Int32) (by decide)), hP, hD⟩
      obtain ⟨x_93, ex_93⟩ : ∃ z9 : Int32, z9 = u_10 + 1 := ⟨_, rfl⟩
      have bx_93 : iv 1 10000 x_93 := by rw [ex_93]; exact iv_add b_82 (iv_c (1 : Int32) (a := 1) (b := 1) (by decide)) (by decide)
      refine lv_iinc (v := x_93) (lv' := [(3, .int x_93), (0, .ref (z 0)), (1, .int a1), (2, .int a2)]) hx hb dX10_laysForce_68 hl (k := 0) rfl (by rw [ex_93]; rfl) (by decide) rfl (fun ls hl => ?_)
      refine lv_goto (tgt := 6) hx hb dX10_laysForce_71 (by decide) ?_
      exact ihn_13 _ _ _ _ (by rw [en_13, ex_93]; exact mu_up b_82 (by decide)) ⟨x_93, f_91, f_92, (iv_w bx_93 (by decide)), tf_91, tf_92, inn_13_0, rfl, hP, hD, hS, lv_sub hl [0, 1, 2, 3] rfl⟩
theorem dX10_forces_0 : decode cX10_forces 0 = .ok (.aload_n 0, 1) := by decide +kernel
theorem dX10_forces_1 : decode cX10_forces 1 = .ok (.iconst 0, 1) := by decide +kernel
theorem dX10_forces_2 : decode cX10_forces 2 = .ok (.putfield 1, 3) := by decide +kernel
theorem dX10_forces_5 : decode cX10_forces 5 = .ok (.aload_n 0, 1) := by decide +kernel
theorem dX10_forces_6 : decode cX10_forces 6 = .ok (.iload_n 1, 1) := by decide +kernel
theorem dX10_forces_7 : decode cX10_forces 7 = .ok (.iload_n 2, 1) := by decide +kernel
theorem dX10_forces_8 : decode cX10_forces 8 = .ok (.invokevirtual 373, 3) := by decide +kernel
theorem dX10_forces_11 : decode cX10_forces 11 = .ok (.istore_n 3, 1) := by decide +kernel
theorem dX10_forces_12 : decode cX10_forces 12 = .ok (.iload_n 3, 1) := by decide +kernel
theorem dX10_forces_13 : decode cX10_forces 13 = .ok (.ifCond .eq 7, 3) := by decide +kernel
theorem dX10_forces_20 : decode cX10_forces 20 = .ok (.aload_n 0, 1) := by decide +kernel
theorem dX10_forces_21 : decode cX10_forces 21 = .ok (.iload_n 1, 1) := by decide +kernel
theorem dX10_forces_22 : decode cX10_forces 22 = .ok (.iload_n 2, 1) := by decide +kernel
theorem q_8_96 : Cond.code yX10_laysForce prog_12_method_119_code 8 (some FieldType.int) ∈ gw := gw_8 (i := 96) (rfl) rfl
theorem q_8_95 : Cond.instanceMethod yX10_laysForce ∈ gw := gw_8 (i := 95) (by decide +kernel) rfl
theorem q_s_122 : Cond.selects "BeaconDelayModel" yX10_laysForce yX10_laysForce ∈ gw := gw_s (i := 122) (by decide +kernel) rfl
theorem mt_X10_laysForce : MtV yX10_laysForce cX10_laysForce 8 (some .int) 2 := ⟨⟨q_8_96, q_1_9, by decide +kernel, by decide +kernel, by decide +kernel⟩, q_8_95, q_s_122⟩
theorem q_8_93 : Cond.methodLink "BeaconDelayModel" 444 yX10_laysForce ∈ gw := gw_8 (i := 93) (by decide +kernel) rfl
theorem dX10_forces_23 : decode cX10_forces 23 = .ok (.invokevirtual 444, 3) := by decide +kernel
theorem dX10_forces_26 : decode cX10_forces 26 = .ok (.invokestatic 379, 3) := by decide +kernel
theorem dX10_forces_29 : decode cX10_forces 29 = .ok (.ireturn, 1) := by decide +kernel
theorem dX10_forces_16 : decode cX10_forces 16 = .ok (.iload_n 3, 1) := by decide +kernel
theorem dX10_forces_17 : decode cX10_forces 17 = .ok (.goto 12, 3) := by decide +kernel
set_option maxHeartbeats 4000000 in
set_option maxRecDepth 100000 in
theorem k_X10_forces_0 (l : Launch) (V : GV) (z : Nat → Nat) (a1 : Int32) (a2 : Int32) (pz0_0 : Int32) (pz0_5 : Int32) (pz0_6 : Int32) (pz0_7 : Int32) (pz0_8 : Int32) (pz0_9 : Int32) (pz0_10 : Int32) (pz0_11 : Int32) (pz0_12 : Int32) (pz0_13 : Int32) (pz0_14 : Int32) (pz0_18 : Int32) (pz0_19 : Int32) (pz0_22 : Int32) (pz0_23 : Int32) (pz0_29 : Int32) (fz1 : Nat → Int32) (fz15 : Nat → Int32) (fz16 : Nat → Int32) (fz24 : Nat → Int32) (fz25 : Nat → Int32) (fz26 : Nat → Int32) (fz27 : Nat → Int32) (fz28 : Nat → Int32) (bpz0_5 : iv 0 900 pz0_5) (bpz0_6 : iv 0 900 pz0_6) (bpz0_7 : iv 0 900 pz0_7) (bpz0_8 : iv 0 900 pz0_8) (bpz0_10 : iv 0 999 pz0_10) (bpz0_11 : iv 0 4 pz0_11) (bpz0_12 : iv 0 900 pz0_12) (bpz0_13 : iv 0 4 pz0_13) (bpz0_14 : iv (-1) 900 pz0_14) (bpz0_18 : iv 0 2 pz0_18) (bpz0_22 : iv 0 9999 pz0_22) (bpz0_29 : iv 0 10000 pz0_29) (tfz1 : ivT tA fz1) (tfz16 : ivT tW fz16) (tfz24 : ∀ j, iv 0 9999 (fz24 j)) (tfz25 : ∀ j, iv (-1) 9999 (fz25 j)) (tfz26 : ∀ j, iv 0 268435456 (fz26 j)) (tfz27 : ∀ j, iv 0 268435456 (fz27 j)) (hf0 : RW fz1) : Ct l V yX10_forces (.code yX10_forces cX10_forces 4 (some .int)) 7 [.ref (z 0), .int a1, .int a2] [(z 0, .inr (10, mo z pz0_0 pz0_5 pz0_6 pz0_7 pz0_8 pz0_9 pz0_10 pz0_11 pz0_12 pz0_13 pz0_14 pz0_18 pz0_19 pz0_22 pz0_23 pz0_29)), (z 1, aI V 3075 fz1), (z 15, aI V 900 fz15), (z 16, aI V 6 fz16), (z 24, aI V 10000 fz24), (z 25, aI V 40000 fz25), (z 26, aI V 10000 fz26), (z 27, aI V 10000 fz27), (z 28, aZ V 10000 fz28)] 0 0 (QI V (fun (r : Int32) (w : va_W) => ∃ (v0 : Int32) (v1 : Int32) (g2 : Nat → Int32) (g3 : Nat → Int32) (g4 : Nat → Int32) (g5 : Nat → Int32) (g6 : Nat → Int32) (g7 : Nat → Int32) (g8 : Nat → Int32), iv 0 10000 v1 ∧ (ivT tW g3) ∧ (∀ j, iv 0 9999 (g4 j)) ∧ (∀ j, iv (-1) 9999 (g5 j)) ∧ (∀ j, iv 0 268435456 (g6 j)) ∧ (∀ j, iv 0 268435456 (g7 j)) ∧ (RW fz1) ∧ w = [(z 0, .inr (10, mo z v0 pz0_5 pz0_6 pz0_7 pz0_8 pz0_9 pz0_10 pz0_11 pz0_12 pz0_13 pz0_14 pz0_18 pz0_19 pz0_22 pz0_23 v1)), (z 1, aI V 3075 fz1), (z 15, aI V 900 g2), (z 16, aI V 6 g3), (z 24, aI V 10000 g4), (z 25, aI V 40000 g5), (z 26, aI V 10000 g6), (z 27, aI V 10000 g7), (z 28, aZ V 10000 g8)])) := by
  refine Ct.of (by decide) (Nat.le_of_ble_eq_true rfl) (fun p e s m below meth c A ls hx hb hr hml hown hlk hnm hg hP hK hD hE hA hS hl => ?_)
  have hl : lv_has ls 4 [(0, .ref (z 0)), (1, .int a1), (2, .int a2)] := hl
  refine lv_aload_n hx hb dX10_forces_0 rfl (lv_at hl 0 rfl) ?_
  refine lv_iconst (v := 0) hx hb dX10_forces_1 (by decide) ?_
  refine va_put (ci := 10) (v := .int 0) (ty := .int) (C := RX10) (T := TX10) (N := 40) hx hb hg inX10 tyX10 tyX10_ok nmX10 hown hK hP hD hS 0 rfl rfl 0 (by decide) (hg _ q_5_224) (fun _ h9 => h9) rfl (by decide +kernel) rfl rfl (Nat.le_of_ble_eq_true rfl) dX10_forces_2 (fun H locs hP hD hS => ?_)
  have hP : va_P V.1 vwCl [(z 0, .inr (10, mo z 0 pz0_5 pz0_6 pz0_7 pz0_8 pz0_9 pz0_10 pz0_11 pz0_12 pz0_13 pz0_14 pz0_18 pz0_19 pz0_22 pz0_23 pz0_29)), (z 1, aI V 3075 fz1), (z 15, aI V 900 fz15), (z 16, aI V 6 fz16), (z 24, aI V 10000 fz24), (z 25, aI V 40000 fz25), (z 26, aI V 10000 fz26), (z 27, aI V 10000 fz27), (z 28, aZ V 10000 fz28)] H := hP
  have hD : va_D A [(z 0, .inr (10, mo z 0 pz0_5 pz0_6 pz0_7 pz0_8 pz0_9 pz0_10 pz0_11 pz0_12 pz0_13 pz0_14 pz0_18 pz0_19 pz0_22 pz0_23 pz0_29)), (z 1, aI V 3075 fz1), (z 15, aI V 900 fz15), (z 16, aI V 6 fz16), (z 24, aI V 10000 fz24), (z 25, aI V 40000 fz25), (z 26, aI V 10000 fz26), (z 27, aI V 10000 fz27), (z 28, aZ V 10000 fz28)] := hD
  refine lv_aload_n hx hb dX10_forces_5 rfl (lv_at hl 0 rfl) ?_
  refine lv_iload_n hx hb dX10_forces_6 rfl (lv_at hl 1 rfl) ?_
  refine lv_iload_n hx hb dX10_forces_7 rfl (lv_at hl 2 rfl) ?_
  refine jnI (wr := [(z 15, aI V 900 fz15), (z 16, aI V 6 fz16), (z 24, aI V 10000 fz24), (z 25, aI V 40000 fz25), (z 26, aI V 10000 fz26), (z 27, aI V 10000 fz27), (z 28, aZ V 10000 fz28)]) (rnV (rest := []) ⟨hx, hb, hml, hown, hg⟩ (k_X10_noHigh_0 l V z a1 a2 0 pz0_5 pz0_6 pz0_7 pz0_8 pz0_9 pz0_10 pz0_11 pz0_12 pz0_13 pz0_14 pz0_18 pz0_19 pz0_22 pz0_23 pz0_29 fz1 bpz0_5 bpz0_6 bpz0_7 bpz0_8 bpz0_10 bpz0_11 bpz0_12 bpz0_13 bpz0_14 bpz0_18 bpz0_22 bpz0_29 tfz1) mt_X10_noHigh q_7_182 ⟨Nat.le_of_ble_eq_true rfl, Nat.le_of_ble_eq_true rfl⟩ hK hP hD hS hA hE [0, 1] rfl rfl 0 rfl rfl rfl rfl hl.1 rfl (Nat.le_of_ble_eq_true rfl) dX10_forces_8 ⟨Nat.le_of_ble_eq_true rfl, Nat.le_of_ble_eq_true rfl⟩) hP hD hS hA [0, 1] [2, 3, 4, 5, 6, 7, 8] rfl rfl rfl (by decide) (fun r_1 w H locs hw hP hD hS => ?_)
  obtain ⟨br_1, g_2, g_3, rfl⟩ := hw
  have hP : va_P V.1 vwCl [(z 15, aI V 900 fz15), (z 16, aI V 6 fz16), (z 24, aI V 10000 fz24), (z 25, aI V 40000 fz25), (z 26, aI V 10000 fz26), (z 27, aI V 10000 fz27), (z 28, aZ V 10000 fz28), (z 0, .inr (10, mo z 0 pz0_5 pz0_6 pz0_7 pz0_8 pz0_9 pz0_10 pz0_11 pz0_12 pz0_13 pz0_14 pz0_18 pz0_19 pz0_22 pz0_23 pz0_29)), (z 1, aI V 3075 fz1)] H := hP
  have hD : va_D A [(z 15, aI V 900 fz15), (z 16, aI V 6 fz16), (z 24, aI V 10000 fz24), (z 25, aI V 40000 fz25), (z 26, aI V 10000 fz26), (z 27, aI V 10000 fz27), (z 28, aZ V 10000 fz28), (z 0, .inr (10, mo z 0 pz0_5 pz0_6 pz0_7 pz0_8 pz0_9 pz0_10 pz0_11 pz0_12 pz0_13 pz0_14 pz0_18 pz0_19 pz0_22 pz0_23 pz0_29)), (z 1, aI V 3075 fz1)] := hD
  refine lv_istore_n (lv' := [(3, .int r_1), (0, .ref (z 0)), (1, .int a1), (2, .int a2)]) hx hb dX10_forces_11 rfl hl (by decide) rfl (fun ls hl => ?_)
  refine lv_iload_n hx hb dX10_forces_12 rfl (lv_at hl 0 rfl) ?_
  refine lv_if_eq (tgt := 20) hx hb dX10_forces_13 (by decide) (fun c_4 => ?_) (fun c_4 => ?_)
  · have b_5 : iv 0 0 r_1 := iv_q c_4 (iv_c (0 : Int32) (a := 0) (b := 0) (by decide))
    have b_6 : iv 0 3 a1 := iv_cap (g_2 (iv_eqp b_5 (iv_c (0 : Int32) (by decide)))) (iv_top a1) (by decide)
    have b_7 : iv 0 4 a2 := iv_cap (g_3 (iv_eqp b_5 (iv_c (0 : Int32) (by decide)))) (iv_top a2) (by decide)
    refine lv_aload_n hx hb dX10_forces_20 rfl (lv_at hl 1 rfl) ?_
    refine lv_iload_n hx hb dX10_forces_21 rfl (lv_at hl 2 rfl) ?_
    refine lv_iload_n hx hb dX10_forces_22 rfl (lv_at hl 3 rfl) ?_
    refine jnI (wr := []) (rnV (rest := []) ⟨hx, hb, hml, hown, hg⟩ (k_X10_laysForce_0 l V z a1 a2 fz15 fz16 fz24 fz25 fz26 fz27 fz28 0 pz0_5 pz0_6 pz0_7 pz0_8 pz0_9 pz0_10 pz0_11 pz0_12 pz0_13 pz0_14 pz0_18 pz0_19 pz0_22 pz0_23 pz0_29 fz1 b_6 tfz16 tfz24 tfz25 tfz26 tfz27 bpz0_5 bpz0_6 bpz0_7 bpz0_8 bpz0_10 bpz0_11 bpz0_12 bpz0_13 bpz0_14 bpz0_18 bpz0_22 bpz0_29 tfz1 hf0) mt_X10_laysForce q_8_93 ⟨Nat.le_of_ble_eq_true rfl, Nat.le_of_ble_eq_true rfl⟩ hK hP hD hS hA hE [0, 1, 2, 3, 4, 5, 6, 7, 8] rfl rfl 7 rfl rfl rfl rfl hl.1 rfl (Nat.le_of_ble_eq_true rfl) dX10_forces_23 ⟨Nat.le_of_ble_eq_true rfl, Nat.le_of_ble_eq_true rfl⟩) hP hD hS hA [0, 1, 2, 3, 4, 5, 6, 7, 8] [] rfl rfl rfl (by decide) (fun r_8 w H locs hw hP hD hS => ?_)
    obtain ⟨f_9, f_10, f_11, f_12, f_13, f_14, f_15, v_16, tf_10, tf_11, tf_12, tf_13, tf_14, bv_16, br_8, g_17, rfl⟩ := hw
    have hP : va_P V.1 vwCl [(z 15, aI V 900 f_9), (z 16, aI V 6 f_10), (z 24, aI V 10000 f_11), (z 25, aI V 40000 f_12), (z 26, aI V 10000 f_13), (z 27, aI V 10000 f_14), (z 28, aZ V 10000 f_15), (z 0, .inr (10, mo z 0 pz0_5 pz0_6 pz0_7 pz0_8 pz0_9 pz0_10 pz0_11 pz0_12 pz0_13 pz0_14 pz0_18 pz0_19 pz0_22 pz0_23 v_16)), (z 1, aI V 3075 fz1)] H := hP
    have hD : va_D A [(z 15, aI V 900 f_9), (z 16, aI V 6 f_10), (z 24, aI V 10000 f_11), (z 25, aI V 40000 f_12), (z 26, aI V 10000 f_13), (z 27, aI V 10000 f_14), (z 28, aZ V 10000 f_15), (z 0, .inr (10, mo z 0 pz0_5 pz0_6 pz0_7 pz0_8 pz0_9 pz0_10 pz0_11 pz0_12 pz0_13 pz0_14 pz0_18 pz0_19 pz0_22 pz0_23 v_16)), (z 1, aI V 3075 fz1)] := hD
    refine jnI (wr := [(z 15, aI V 900 f_9), (z 16, aI V 6 f_10), (z 24, aI V 10000 f_11), (z 25, aI V 40000 f_12), (z 26, aI V 10000 f_13), (z 27, aI V 10000 f_14), (z 28, aZ V 10000 f_15), (z 0, .inr (10, mo z 0 pz0_5 pz0_6 pz0_7 pz0_8 pz0_9 pz0_10 pz0_11 pz0_12 pz0_13 pz0_14 pz0_18 pz0_19 pz0_22 pz0_23 v_16)), (z 1, aI V 3075 fz1)]) (rnS (rest := []) ⟨hx, hb, hml, hown, hg⟩ (k_X10_toldFar_0 l V r_8) mt_X10_toldFar q_7_207 ⟨Nat.le_of_ble_eq_true rfl, Nat.le_of_ble_eq_true rfl⟩ hK hP hD hS hA hE [] rfl rfl rfl hl.1 rfl (Nat.le_of_ble_eq_true rfl) dX10_forces_26 ⟨Nat.le_of_ble_eq_true rfl, Nat.le_of_ble_eq_true rfl⟩) hP hD hS hA [] [0, 1, 2, 3, 4, 5, 6, 7, 8] rfl rfl rfl (by decide) (fun r_18 w H locs hw hP hD hS => ?_)
    subst hw
    have hP : va_P V.1 vwCl [(z 15, aI V 900 f_9), (z 16, aI V 6 f_10), (z 24, aI V 10000 f_11), (z 25, aI V 40000 f_12), (z 26, aI V 10000 f_13), (z 27, aI V 10000 f_14), (z 28, aZ V 10000 f_15), (z 0, .inr (10, mo z 0 pz0_5 pz0_6 pz0_7 pz0_8 pz0_9 pz0_10 pz0_11 pz0_12 pz0_13 pz0_14 pz0_18 pz0_19 pz0_22 pz0_23 v_16)), (z 1, aI V 3075 fz1)] H := hP
    have hD : va_D A [(z 15, aI V 900 f_9), (z 16, aI V 6 f_10), (z 24, aI V 10000 f_11), (z 25, aI V 40000 f_12), (z 26, aI V 10000 f_13), (z 27, aI V 10000 f_14), (z 28, aZ V 10000 f_15), (z 0, .inr (10, mo z 0 pz0_5 pz0_6 pz0_7 pz0_8 pz0_9 pz0_10 pz0_11 pz0_12 pz0_13 pz0_14 pz0_18 pz0_19 pz0_22 pz0_23 v_16)), (z 1, aI V 3075 fz1)] := hD
    have hP := subP (ws' := [(z 0, .inr (10, mo z 0 pz0_5 pz0_6 pz0_7 pz0_8 pz0_9 pz0_10 pz0_11 pz0_12 pz0_13 pz0_14 pz0_18 pz0_19 pz0_22 pz0_23 v_16)), (z 1, aI V 3075 fz1), (z 15, aI V 900 f_9), (z 16, aI V 6 f_10), (z 24, aI V 10000 f_11), (z 25, aI V 40000 f_12), (z 26, aI V 10000 f_13), (z 27, aI V 10000 f_14), (z 28, aZ V 10000 f_15)]) hP [7, 8, 0, 1, 2, 3, 4, 5, 6] rfl
    have hD := hD.sub (ws' := [(z 0, .inr (10, mo z 0 pz0_5 pz0_6 pz0_7 pz0_8 pz0_9 pz0_10 pz0_11 pz0_12 pz0_13 pz0_14 pz0_18 pz0_19 pz0_22 pz0_23 v_16)), (z 1, aI V 3075 fz1), (z 15, aI V 900 f_9), (z 16, aI V 6 f_10), (z 24, aI V 10000 f_11), (z 25, aI V 40000 f_12), (z 26, aI V 10000 f_13), (z 27, aI V 10000 f_14), (z 28, aZ V 10000 f_15)]) [7, 8, 0, 1, 2, 3, 4, 5, 6] rfl rfl
    exact fiI hx hb hr hlk hK hP hD hS dX10_forces_29 (Nat.le_of_ble_eq_true rfl) (Nat.le_of_ble_eq_true rfl) (⟨0, v_16, f_9, f_10, f_11, f_12, f_13, f_14, f_15, bv_16, tf_10, tf_11, tf_12, tf_13, tf_14, g_17, rfl⟩)
  · have b_19 : iv (-3) (-1) r_1 := iv_n1 c_4 br_1 (iv_c (0 : Int32) (a := 0) (b := 0) (by decide)) (by decide)
    refine lv_iload_n hx hb dX10_forces_16 rfl (lv_at hl 0 rfl) ?_
    refine lv_goto (tgt := 29) hx hb dX10_forces_17 (by decide) ?_
    have hP := subP (ws' := [(z 0, .inr (10, mo z 0 pz0_5 pz0_6 pz0_7 pz0_8 pz0_9 pz0_10 pz0_11 pz0_12 pz0_13 pz0_14 pz0_18 pz0_19 pz0_22 pz0_23 pz0_29)), (z 1, aI V 3075 fz1), (z 15, aI V 900 fz15), (z 16, aI V 6 fz16), (z 24, aI V 10000 fz24), (z 25, aI V 40000 fz25), (z 26, aI V 10000 fz26), (z 27, aI V 10000 fz27), (z 28, aZ V 10000 fz28)]) hP [7, 8, 0, 1, 2, 3, 4, 5, 6] rfl
    have hD := hD.sub (ws' := [(z 0, .inr (10, mo z 0 pz0_5 pz0_6 pz0_7 pz0_8 pz0_9 pz0_10 pz0_11 pz0_12 pz0_13 pz0_14 pz0_18 pz0_19 pz0_22 pz0_23 pz0_29)), (z 1, aI V 3075 fz1), (z 15, aI V 900 fz15), (z 16, aI V 6 fz16), (z 24, aI V 10000 fz24), (z 25, aI V 40000 fz25), (z 26, aI V 10000 fz26), (z 27, aI V 10000 fz27), (z 28, aZ V 10000 fz28)]) [7, 8, 0, 1, 2, 3, 4, 5, 6] rfl rfl
    exact fiI hx hb hr hlk hK hP hD hS dX10_forces_29 (Nat.le_of_ble_eq_true rfl) (Nat.le_of_ble_eq_true rfl) (⟨0, pz0_29, fz15, fz16, fz24, fz25, fz26, fz27, fz28, bpz0_29, tfz16, tfz24, tfz25, tfz26, tfz27, hf0, rfl⟩)
theorem dX10_best_0 : decode cX10_best 0 = .ok (.aload_n 0, 1) := by decide +kernel
theorem dX10_best_1 : decode cX10_best 1 = .ok (.iconst 0, 1) := by decide +kernel
theorem dX10_best_2 : decode cX10_best 2 = .ok (.putfield 1, 3) := by decide +kernel
theorem dX10_best_5 : decode cX10_best 5 = .ok (.aload_n 0, 1) := by decide +kernel
theorem dX10_best_6 : decode cX10_best 6 = .ok (.iload_n 1, 1) := by decide +kernel
theorem dX10_best_7 : decode cX10_best 7 = .ok (.iload_n 2, 1) := by decide +kernel
theorem dX10_best_8 : decode cX10_best 8 = .ok (.invokevirtual 373, 3) := by decide +kernel
theorem dX10_best_11 : decode cX10_best 11 = .ok (.istore_n 3, 1) := by decide +kernel
theorem dX10_best_12 : decode cX10_best 12 = .ok (.iload_n 3, 1) := by decide +kernel
theorem dX10_best_13 : decode cX10_best 13 = .ok (.ifCond .eq 5, 3) := by decide +kernel
theorem dX10_best_18 : decode cX10_best 18 = .ok (.aload_n 0, 1) := by decide +kernel
theorem dX10_best_19 : decode cX10_best 19 = .ok (.iload_n 1, 1) := by decide +kernel
theorem dX10_best_20 : decode cX10_best 20 = .ok (.iload_n 2, 1) := by decide +kernel
theorem dX10_best_21 : decode cX10_best 21 = .ok (.invokevirtual 444, 3) := by decide +kernel
theorem dX10_best_24 : decode cX10_best 24 = .ok (.istore 4, 2) := by decide +kernel
theorem dX10_best_26 : decode cX10_best 26 = .ok (.iconst 0, 1) := by decide +kernel
theorem dX10_best_27 : decode cX10_best 27 = .ok (.istore 5, 2) := by decide +kernel
theorem dX10_best_29 : decode cX10_best 29 = .ok (.iload 5, 2) := by decide +kernel
theorem dX10_best_31 : decode cX10_best 31 = .ok (.iconst 4, 1) := by decide +kernel
theorem dX10_best_32 : decode cX10_best 32 = .ok (.if_icmp .ge 40, 3) := by decide +kernel
theorem dX10_best_72 : decode cX10_best 72 = .ok (.iconst (-1), 1) := by decide +kernel
theorem dX10_best_73 : decode cX10_best 73 = .ok (.ireturn, 1) := by decide +kernel
theorem dX10_best_35 : decode cX10_best 35 = .ok (.iload 4, 2) := by decide +kernel
theorem dX10_best_37 : decode cX10_best 37 = .ok (.ifCond .le 35, 3) := by decide +kernel
theorem dX10_best_40 : decode cX10_best 40 = .ok (.iload 4, 2) := by decide +kernel
theorem dX10_best_42 : decode cX10_best 42 = .ok (.ldc_w 361, 3) := by decide +kernel
theorem dX10_best_45 : decode cX10_best 45 = .ok (.if_icmp .ge 27, 3) := by decide +kernel
theorem dX10_best_48 : decode cX10_best 48 = .ok (.aload_n 0, 1) := by decide +kernel
theorem dX10_best_49 : decode cX10_best 49 = .ok (.aload_n 0, 1) := by decide +kernel
theorem dX10_best_50 : decode cX10_best 50 = .ok (.invokevirtual 269, 3) := by decide +kernel
theorem dX10_best_53 : decode cX10_best 53 = .ok (.iload 5, 2) := by decide +kernel
theorem dX10_best_55 : decode cX10_best 55 = .ok (.invokevirtual 438, 3) := by decide +kernel
theorem dX10_best_58 : decode cX10_best 58 = .ok (.iload 4, 2) := by decide +kernel
theorem dX10_best_60 : decode cX10_best 60 = .ok (.if_icmp .ne 6, 3) := by decide +kernel
theorem dX10_best_66 : decode cX10_best 66 = .ok (.iinc 5 1, 3) := by decide +kernel
theorem dX10_best_69 : decode cX10_best 69 = .ok (.goto (-40), 3) := by decide +kernel
theorem dX10_best_63 : decode cX10_best 63 = .ok (.iload 5, 2) := by decide +kernel
theorem dX10_best_65 : decode cX10_best 65 = .ok (.ireturn, 1) := by decide +kernel
theorem dX10_best_16 : decode cX10_best 16 = .ok (.iload_n 3, 1) := by decide +kernel
theorem dX10_best_17 : decode cX10_best 17 = .ok (.ireturn, 1) := by decide +kernel
set_option maxHeartbeats 4000000 in
set_option maxRecDepth 100000 in
theorem k_X10_best_0 (l : Launch) (V : GV) (z : Nat → Nat) (a1 : Int32) (a2 : Int32) (pz0_0 : Int32) (pz0_5 : Int32) (pz0_6 : Int32) (pz0_7 : Int32) (pz0_8 : Int32) (pz0_9 : Int32) (pz0_10 : Int32) (pz0_11 : Int32) (pz0_12 : Int32) (pz0_13 : Int32) (pz0_14 : Int32) (pz0_18 : Int32) (pz0_19 : Int32) (pz0_22 : Int32) (pz0_23 : Int32) (pz0_29 : Int32) (fz1 : Nat → Int32) (fz15 : Nat → Int32) (fz16 : Nat → Int32) (fz24 : Nat → Int32) (fz25 : Nat → Int32) (fz26 : Nat → Int32) (fz27 : Nat → Int32) (fz28 : Nat → Int32) (bpz0_5 : iv 0 900 pz0_5) (bpz0_6 : iv 0 900 pz0_6) (bpz0_7 : iv 0 900 pz0_7) (bpz0_8 : iv 0 900 pz0_8) (bpz0_10 : iv 0 999 pz0_10) (bpz0_11 : iv 0 4 pz0_11) (bpz0_12 : iv 0 900 pz0_12) (bpz0_13 : iv 0 4 pz0_13) (bpz0_14 : iv (-1) 900 pz0_14) (bpz0_18 : iv 0 2 pz0_18) (bpz0_22 : iv 0 9999 pz0_22) (bpz0_29 : iv 0 10000 pz0_29) (tfz1 : ivT tA fz1) (tfz16 : ivT tW fz16) (tfz24 : ∀ j, iv 0 9999 (fz24 j)) (tfz25 : ∀ j, iv (-1) 9999 (fz25 j)) (tfz26 : ∀ j, iv 0 268435456 (fz26 j)) (tfz27 : ∀ j, iv 0 268435456 (fz27 j)) (hf0 : RW fz1) : Ct l V yX10_best (.code yX10_best cX10_best 6 (some .int)) 7 [.ref (z 0), .int a1, .int a2] [(z 0, .inr (10, mo z pz0_0 pz0_5 pz0_6 pz0_7 pz0_8 pz0_9 pz0_10 pz0_11 pz0_12 pz0_13 pz0_14 pz0_18 pz0_19 pz0_22 pz0_23 pz0_29)), (z 1, aI V 3075 fz1), (z 15, aI V 900 fz15), (z 16, aI V 6 fz16), (z 24, aI V 10000 fz24), (z 25, aI V 40000 fz25), (z 26, aI V 10000 fz26), (z 27, aI V 10000 fz27), (z 28, aZ V 10000 fz28)] 0 0 (QI V (fun (r : Int32) (w : va_W) => ∃ (v0 : Int32) (v1 : Int32) (g2 : Nat → Int32) (g3 : Nat → Int32) (g4 : Nat → Int32) (g5 : Nat → Int32) (g6 : Nat → Int32) (g7 : Nat → Int32) (g8 : Nat → Int32), iv 0 10000 v1 ∧ (ivT tW g3) ∧ (∀ j, iv 0 9999 (g4 j)) ∧ (∀ j, iv (-1) 9999 (g5 j)) ∧ (∀ j, iv 0 268435456 (g6 j)) ∧ (∀ j, iv 0 268435456 (g7 j)) ∧ iv (-3) 3 r ∧ (RW fz1) ∧ w = [(z 0, .inr (10, mo z v0 pz0_5 pz0_6 pz0_7 pz0_8 pz0_9 pz0_10 pz0_11 pz0_12 pz0_13 pz0_14 pz0_18 pz0_19 pz0_22 pz0_23 v1)), (z 1, aI V 3075 fz1), (z 15, aI V 900 g2), (z 16, aI V 6 g3), (z 24, aI V 10000 g4), (z 25, aI V 40000 g5), (z 26, aI V 10000 g6), (z 27, aI V 10000 g7), (z 28, aZ V 10000 g8)])) := by
  refine Ct.of (by decide) (Nat.le_of_ble_eq_true rfl) (fun p e s m below meth c A ls hx hb hr hml hown hlk hnm hg hP hK hD hE hA hS hl => ?_)
  have hl : lv_has ls 6 [(0, .ref (z 0)), (1, .int a1), (2, .int a2)] := hl
  refine lv_aload_n hx hb dX10_best_0 rfl (lv_at hl 0 rfl) ?_
  refine lv_iconst (v := 0) hx hb dX10_best_1 (by decide) ?_
  refine va_put (ci := 10) (v := .int 0) (ty := .int) (C := RX10) (T := TX10) (N := 40) hx hb hg inX10 tyX10 tyX10_ok nmX10 hown hK hP hD hS 0 rfl rfl 0 (by decide) (hg _ q_5_224) (fun _ h9 => h9) rfl (by decide +kernel) rfl rfl (Nat.le_of_ble_eq_true rfl) dX10_best_2 (fun H locs hP hD hS => ?_)
  have hP : va_P V.1 vwCl [(z 0, .inr (10, mo z 0 pz0_5 pz0_6 pz0_7 pz0_8 pz0_9 pz0_10 pz0_11 pz0_12 pz0_13 pz0_14 pz0_18 pz0_19 pz0_22 pz0_23 pz0_29)), (z 1, aI V 3075 fz1), (z 15, aI V 900 fz15), (z 16, aI V 6 fz16), (z 24, aI V 10000 fz24), (z 25, aI V 40000 fz25), (z 26, aI V 10000 fz26), (z 27, aI V 10000 fz27), (z 28, aZ V 10000 fz28)] H := hP
  have hD : va_D A [(z 0, .inr (10, mo z 0 pz0_5 pz0_6 pz0_7 pz0_8 pz0_9 pz0_10 pz0_11 pz0_12 pz0_13 pz0_14 pz0_18 pz0_19 pz0_22 pz0_23 pz0_29)), (z 1, aI V 3075 fz1), (z 15, aI V 900 fz15), (z 16, aI V 6 fz16), (z 24, aI V 10000 fz24), (z 25, aI V 40000 fz25), (z 26, aI V 10000 fz26), (z 27, aI V 10000 fz27), (z 28, aZ V 10000 fz28)] := hD
  refine lv_aload_n hx hb dX10_best_5 rfl (lv_at hl 0 rfl) ?_
  refine lv_iload_n hx hb dX10_best_6 rfl (lv_at hl 1 rfl) ?_
  refine lv_iload_n hx hb dX10_best_7 rfl (lv_at hl 2 rfl) ?_
  refine jnI (wr := [(z 15, aI V 900 fz15), (z 16, aI V 6 fz16), (z 24, aI V 10000 fz24), (z 25, aI V 40000 fz25), (z 26, aI V 10000 fz26), (z 27, aI V 10000 fz27), (z 28, aZ V 10000 fz28)]) (rnV (rest := []) ⟨hx, hb, hml, hown, hg⟩ (k_X10_noHigh_0 l V z a1 a2 0 pz0_5 pz0_6 pz0_7 pz0_8 pz0_9 pz0_10 pz0_11 pz0_12 pz0_13 pz0_14 pz0_18 pz0_19 pz0_22 pz0_23 pz0_29 fz1 bpz0_5 bpz0_6 bpz0_7 bpz0_8 bpz0_10 bpz0_11 bpz0_12 bpz0_13 bpz0_14 bpz0_18 bpz0_22 bpz0_29 tfz1) mt_X10_noHigh q_7_182 ⟨Nat.le_of_ble_eq_true rfl, Nat.le_of_ble_eq_true rfl⟩ hK hP hD hS hA hE [0, 1] rfl rfl 0 rfl rfl rfl rfl hl.1 rfl (Nat.le_of_ble_eq_true rfl) dX10_best_8 ⟨Nat.le_of_ble_eq_true rfl, Nat.le_of_ble_eq_true rfl⟩) hP hD hS hA [0, 1] [2, 3, 4, 5, 6, 7, 8] rfl rfl rfl (by decide) (fun r_1 w H locs hw hP hD hS => ?_)
  obtain ⟨br_1, g_2, g_3, rfl⟩ := hw
  have hP : va_P V.1 vwCl [(z 15, aI V 900 fz15), (z 16, aI V 6 fz16), (z 24, aI V 10000 fz24), (z 25, aI V 40000 fz25), (z 26, aI V 10000 fz26), (z 27, aI V 10000 fz27), (z 28, aZ V 10000 fz28), (z 0, .inr (10, mo z 0 pz0_5 pz0_6 pz0_7 pz0_8 pz0_9 pz0_10 pz0_11 pz0_12 pz0_13 pz0_14 pz0_18 pz0_19 pz0_22 pz0_23 pz0_29)), (z 1, aI V 3075 fz1)] H := hP
  have hD : va_D A [(z 15, aI V 900 fz15), (z 16, aI V 6 fz16), (z 24, aI V 10000 fz24), (z 25, aI V 40000 fz25), (z 26, aI V 10000 fz26), (z 27, aI V 10000 fz27), (z 28, aZ V 10000 fz28), (z 0, .inr (10, mo z 0 pz0_5 pz0_6 pz0_7 pz0_8 pz0_9 pz0_10 pz0_11 pz0_12 pz0_13 pz0_14 pz0_18 pz0_19 pz0_22 pz0_23 pz0_29)), (z 1, aI V 3075 fz1)] := hD
  refine lv_istore_n (lv' := [(3, .int r_1), (0, .ref (z 0)), (1, .int a1), (2, .int a2)]) hx hb dX10_best_11 rfl hl (by decide) rfl (fun ls hl => ?_)
  refine lv_iload_n hx hb dX10_best_12 rfl (lv_at hl 0 rfl) ?_
  refine lv_if_eq (tgt := 18) hx hb dX10_best_13 (by decide) (fun c_4 => ?_) (fun c_4 => ?_)
  · have b_5 : iv 0 0 r_1 := iv_q c_4 (iv_c (0 : Int32) (a := 0) (b := 0) (by decide))
    have b_6 : iv 0 3 a1 := iv_cap (g_2 (iv_eqp b_5 (iv_c (0 : Int32) (by decide)))) (iv_top a1) (by decide)
    have b_7 : iv 0 4 a2 := iv_cap (g_3 (iv_eqp b_5 (iv_c (0 : Int32) (by decide)))) (iv_top a2) (by decide)
    refine lv_aload_n hx hb dX10_best_18 rfl (lv_at hl 1 rfl) ?_
    refine lv_iload_n hx hb dX10_best_19 rfl (lv_at hl 2 rfl) ?_
    refine lv_iload_n hx hb dX10_best_20 rfl (lv_at hl 3 rfl) ?_
    refine jnI (wr := []) (rnV (rest := []) ⟨hx, hb, hml, hown, hg⟩ (k_X10_laysForce_0 l V z a1 a2 fz15 fz16 fz24 fz25 fz26 fz27 fz28 0 pz0_5 pz0_6 pz0_7 pz0_8 pz0_9 pz0_10 pz0_11 pz0_12 pz0_13 pz0_14 pz0_18 pz0_19 pz0_22 pz0_23 pz0_29 fz1 b_6 tfz16 tfz24 tfz25 tfz26 tfz27 bpz0_5 bpz0_6 bpz0_7 bpz0_8 bpz0_10 bpz0_11 bpz0_12 bpz0_13 bpz0_14 bpz0_18 bpz0_22 bpz0_29 tfz1 hf0) mt_X10_laysForce q_8_93 ⟨Nat.le_of_ble_eq_true rfl, Nat.le_of_ble_eq_true rfl⟩ hK hP hD hS hA hE [0, 1, 2, 3, 4, 5, 6, 7, 8] rfl rfl 7 rfl rfl rfl rfl hl.1 rfl (Nat.le_of_ble_eq_true rfl) dX10_best_21 ⟨Nat.le_of_ble_eq_true rfl, Nat.le_of_ble_eq_true rfl⟩) hP hD hS hA [0, 1, 2, 3, 4, 5, 6, 7, 8] [] rfl rfl rfl (by decide) (fun r_8 w H locs hw hP hD hS => ?_)
    obtain ⟨f_9, f_10, f_11, f_12, f_13, f_14, f_15, v_16, tf_10, tf_11, tf_12, tf_13, tf_14, bv_16, br_8, g_17, rfl⟩ := hw
    have hP : va_P V.1 vwCl [(z 15, aI V 900 f_9), (z 16, aI V 6 f_10), (z 24, aI V 10000 f_11), (z 25, aI V 40000 f_12), (z 26, aI V 10000 f_13), (z 27, aI V 10000 f_14), (z 28, aZ V 10000 f_15), (z 0, .inr (10, mo z 0 pz0_5 pz0_6 pz0_7 pz0_8 pz0_9 pz0_10 pz0_11 pz0_12 pz0_13 pz0_14 pz0_18 pz0_19 pz0_22 pz0_23 v_16)), (z 1, aI V 3075 fz1)] H := hP
    have hD : va_D A [(z 15, aI V 900 f_9), (z 16, aI V 6 f_10), (z 24, aI V 10000 f_11), (z 25, aI V 40000 f_12), (z 26, aI V 10000 f_13), (z 27, aI V 10000 f_14), (z 28, aZ V 10000 f_15), (z 0, .inr (10, mo z 0 pz0_5 pz0_6 pz0_7 pz0_8 pz0_9 pz0_10 pz0_11 pz0_12 pz0_13 pz0_14 pz0_18 pz0_19 pz0_22 pz0_23 v_16)), (z 1, aI V 3075 fz1)] := hD
    refine lv_istore (lv' := [(4, .int r_8), (3, .int r_1), (0, .ref (z 0)), (1, .int a1), (2, .int a2)]) hx hb dX10_best_24 hl (by decide) rfl (fun ls hl => ?_)
    refine lv_iconst (v := 0) hx hb dX10_best_26 (by decide) ?_
    refine lv_istore (lv' := [(5, .int 0), (4, .int r_8), (3, .int r_1), (0, .ref (z 0)), (1, .int a1), (2, .int a2)]) hx hb dX10_best_27 hl (by decide) rfl (fun ls hl => ?_)
    refine loopF (X := fun (n_19 : Nat) (H : Heap) (locs : List Loc) (ls : Array Slot) => ∃ (u_18 : Int32), (iv 0 4 u_18) ∧ (RW fz1) ∧ n_19 = (2147483647 - (u_18 : Int32).toInt).toNat ∧ va_P V.1 vwCl [(z 15, aI V 900 f_9), (z 16, aI V 6 f_10), (z 24, aI V 10000 f_11), (z 25, aI V 40000 f_12), (z 26, aI V 10000 f_13), (z 27, aI V 10000 f_14), (z 28, aZ V 10000 f_15), (z 0, .inr (10, mo z 0 pz0_5 pz0_6 pz0_7 pz0_8 pz0_9 pz0_10 pz0_11 pz0_12 pz0_13 pz0_14 pz0_18 pz0_19 pz0_22 pz0_23 v_16)), (z 1, aI V 3075 fz1)] H ∧ va_D A [(z 15, aI V 900 f_9), (z 16, aI V 6 f_10), (z 24, aI V 10000 f_11), (z 25, aI V 40000 f_12), (z 26, aI V 10000 f_13), (z 27, aI V 10000 f_14), (z 28, aZ V 10000 f_15), (z 0, .inr (10, mo z 0 pz0_5 pz0_6 pz0_7 pz0_8 pz0_9 pz0_10 pz0_11 pz0_12 pz0_13 pz0_14 pz0_18 pz0_19 pz0_22 pz0_23 v_16)), (z 1, aI V 3075 fz1)] ∧ va_S A s.heap H locs ∧ lv_has ls 6 [(5, .int u_18), (4, .int r_8), (3, .int r_1), (0, .ref (z 0)), (1, .int a1), (2, .int a2)]) (g := fun ls => F0 m 29 ls []) (fun n_19 H locs ls hX ihn_19 => ?_) _ ⟨0, (iv_c (0 : Int32) (by decide)), g_17, rfl, hP, hD, hS, lv_sub hl [0, 1, 2, 3, 4, 5] rfl⟩
    obtain ⟨u_18, bu_18, inn_19_0, en_19, hP, hD, hS, hl⟩ := hX
    refine lv_iload hx hb dX10_best_29 (lv_at hl 0 rfl) ?_
    refine lv_iconst (v := 4) hx hb dX10_best_31 (by decide) ?_
    refine lv_icmp_ge (tgt := 72) hx hb dX10_best_32 (by decide) (fun c_20 => ?_) (fun c_20 => ?_)
    · have b_21 : iv 4 4 u_18 := iv_e2 c_20 (iv_c (4 : Int32) (a := 4) (b := 4) (by decide)) bu_18 (by decide)
      refine lv_iconst (v := (-1)) hx hb dX10_best_72 (by decide) ?_
      have hP := subP (ws' := [(z 0, .inr (10, mo z 0 pz0_5 pz0_6 pz0_7 pz0_8 pz0_9 pz0_10 pz0_11 pz0_12 pz0_13 pz0_14 pz0_18 pz0_19 pz0_22 pz0_23 v_16)), (z 1, aI V 3075 fz1), (z 15, aI V 900 f_9), (z 16, aI V 6 f_10), (z 24, aI V 10000 f_11), (z 25, aI V 40000 f_12), (z 26, aI V 10000 f_13), (z 27, aI V 10000 f_14), (z 28, aZ V 10000 f_15)]) hP [7, 8, 0, 1, 2, 3, 4, 5, 6] rfl
      have hD := hD.sub (ws' := [(z 0, .inr (10, mo z 0 pz0_5 pz0_6 pz0_7 pz0_8 pz0_9 pz0_10 pz0_11 pz0_12 pz0_13 pz0_14 pz0_18 pz0_19 pz0_22 pz0_23 v_16)), (z 1, aI V 3075 fz1), (z 15, aI V 900 f_9), (z 16, aI V 6 f_10), (z 24, aI V 10000 f_11), (z 25, aI V 40000 f_12), (z 26, aI V 10000 f_13), (z 27, aI V 10000 f_14), (z 28, aZ V 10000 f_15)]) [7, 8, 0, 1, 2, 3, 4, 5, 6] rfl rfl
      exact fiI hx hb hr hlk hK hP hD hS dX10_best_73 (Nat.le_of_ble_eq_true rfl) (Nat.le_of_ble_eq_true rfl) (⟨0, v_16, f_9, f_10, f_11, f_12, f_13, f_14, f_15, bv_16, tf_10, tf_11, tf_12, tf_13, tf_14, (iv_c ((-1) : Int32) (by decide)), inn_19_0, rfl⟩)
    · have b_22 : iv 0 3 u_18 := iv_l1 (Int32.not_le.mp c_20) bu_18 (iv_c (4 : Int32) (a := 4) (b := 4) (by decide)) (by decide)
      refine lv_iload hx hb dX10_best_35 (lv_at hl 1 rfl) ?_
      refine lv_if_le (tgt := 72) hx hb dX10_best_37 (by decide) (fun c_23 => ?_) (fun c_23 => ?_)
      · have b_24 : iv 0 0 r_8 := iv_e1 c_23 br_8 (iv_c (0 : Int32) (a := 0) (b := 0) (by decide)) (by decide)
        refine lv_iconst (v := (-1)) hx hb dX10_best_72 (by decide) ?_
        have hP := subP (ws' := [(z 0, .inr (10, mo z 0 pz0_5 pz0_6 pz0_7 pz0_8 pz0_9 pz0_10 pz0_11 pz0_12 pz0_13 pz0_14 pz0_18 pz0_19 pz0_22 pz0_23 v_16)), (z 1, aI V 3075 fz1), (z 15, aI V 900 f_9), (z 16, aI V 6 f_10), (z 24, aI V 10000 f_11), (z 25, aI V 40000 f_12), (z 26, aI V 10000 f_13), (z 27, aI V 10000 f_14), (z 28, aZ V 10000 f_15)]) hP [7, 8, 0, 1, 2, 3, 4, 5, 6] rfl
        have hD := hD.sub (ws' := [(z 0, .inr (10, mo z 0 pz0_5 pz0_6 pz0_7 pz0_8 pz0_9 pz0_10 pz0_11 pz0_12 pz0_13 pz0_14 pz0_18 pz0_19 pz0_22 pz0_23 v_16)), (z 1, aI V 3075 fz1), (z 15, aI V 900 f_9), (z 16, aI V 6 f_10), (z 24, aI V 10000 f_11), (z 25, aI V 40000 f_12), (z 26, aI V 10000 f_13), (z 27, aI V 10000 f_14), (z 28, aZ V 10000 f_15)]) [7, 8, 0, 1, 2, 3, 4, 5, 6] rfl rfl
        exact fiI hx hb hr hlk hK hP hD hS dX10_best_73 (Nat.le_of_ble_eq_true rfl) (Nat.le_of_ble_eq_true rfl) (⟨0, v_16, f_9, f_10, f_11, f_12, f_13, f_14, f_15, bv_16, tf_10, tf_11, tf_12, tf_13, tf_14, (iv_c ((-1) : Int32) (by decide)), inn_19_0, rfl⟩)
      · have b_25 : iv 1 268435456 r_8 := iv_l2 (Int32.not_le.mp c_23) (iv_c (0 : Int32) (a := 0) (b := 0) (by decide)) br_8 (by decide)
        refine lv_iload hx hb dX10_best_40 (lv_at hl 1 rfl) ?_
        refine lv_ldcw (v := 268435456) hx hb hown (hg _ q_7_202) dX10_best_42 ?_
        refine lv_icmp_ge (tgt := 72) hx hb dX10_best_45 (by decide) (fun c_26 => ?_) (fun c_26 => ?_)
        · have b_27 : iv 268435456 268435456 r_8 := iv_e2 c_26 (iv_c (268435456 : Int32) (a := 268435456) (b := 268435456) (by decide)) b_25 (by decide)
          refine lv_iconst (v := (-1)) hx hb dX10_best_72 (by decide) ?_
          have hP := subP (ws' := [(z 0, .inr (10, mo z 0 pz0_5 pz0_6 pz0_7 pz0_8 pz0_9 pz0_10 pz0_11 pz0_12 pz0_13 pz0_14 pz0_18 pz0_19 pz0_22 pz0_23 v_16)), (z 1, aI V 3075 fz1), (z 15, aI V 900 f_9), (z 16, aI V 6 f_10), (z 24, aI V 10000 f_11), (z 25, aI V 40000 f_12), (z 26, aI V 10000 f_13), (z 27, aI V 10000 f_14), (z 28, aZ V 10000 f_15)]) hP [7, 8, 0, 1, 2, 3, 4, 5, 6] rfl
          have hD := hD.sub (ws' := [(z 0, .inr (10, mo z 0 pz0_5 pz0_6 pz0_7 pz0_8 pz0_9 pz0_10 pz0_11 pz0_12 pz0_13 pz0_14 pz0_18 pz0_19 pz0_22 pz0_23 v_16)), (z 1, aI V 3075 fz1), (z 15, aI V 900 f_9), (z 16, aI V 6 f_10), (z 24, aI V 10000 f_11), (z 25, aI V 40000 f_12), (z 26, aI V 10000 f_13), (z 27, aI V 10000 f_14), (z 28, aZ V 10000 f_15)]) [7, 8, 0, 1, 2, 3, 4, 5, 6] rfl rfl
          exact fiI hx hb hr hlk hK hP hD hS dX10_best_73 (Nat.le_of_ble_eq_true rfl) (Nat.le_of_ble_eq_true rfl) (⟨0, v_16, f_9, f_10, f_11, f_12, f_13, f_14, f_15, bv_16, tf_10, tf_11, tf_12, tf_13, tf_14, (iv_c ((-1) : Int32) (by decide)), inn_19_0, rfl⟩)
        · have b_28 : iv 1 268435455 r_8 := iv_l1 (Int32.not_le.mp c_26) b_25 (iv_c (268435456 : Int32) (a := 268435456) (b := 268435456) (by decide)) (by decide)
          refine lv_aload_n hx hb dX10_best_48 rfl (lv_at hl 3 rfl) ?_
          refine lv_aload_n hx hb dX10_best_49 rfl (lv_at hl 3 rfl) ?_
          refine jnI (wr := [(z 15, aI V 900 f_9), (z 16, aI V 6 f_10), (z 24, aI V 10000 f_11), (z 25, aI V 40000 f_12), (z 26, aI V 10000 f_13), (z 27, aI V 10000 f_14), (z 28, aZ V 10000 f_15)]) (rnV (rest := [.ref (z 0)]) ⟨hx, hb, hml, hown, hg⟩ (k_X10_standNow_0 l V z 0 pz0_5 pz0_6 pz0_7 pz0_8 pz0_9 pz0_10 pz0_11 pz0_12 pz0_13 pz0_14 pz0_18 pz0_19 pz0_22 pz0_23 v_16 fz1 bpz0_5 bpz0_6 bpz0_7 bpz0_8 bpz0_10 bpz0_11 bpz0_12 bpz0_13 bpz0_14 bpz0_18 bpz0_22 bv_16 tfz1) mt_X10_standNow q_7_11 ⟨Nat.le_of_ble_eq_true rfl, Nat.le_of_ble_eq_true rfl⟩ hK hP hD hS hA hE [7, 8] rfl rfl 7 rfl rfl rfl rfl hl.1 rfl (Nat.le_of_ble_eq_true rfl) dX10_best_50 ⟨Nat.le_of_ble_eq_true rfl, Nat.le_of_ble_eq_true rfl⟩) hP hD hS hA [7, 8] [0, 1, 2, 3, 4, 5, 6] rfl rfl rfl (by decide) (fun r_29 w H locs hw hP hD hS => ?_)
          obtain ⟨br_29, er_29, rfl⟩ := hw
          have hP : va_P V.1 vwCl [(z 15, aI V 900 f_9), (z 16, aI V 6 f_10), (z 24, aI V 10000 f_11), (z 25, aI V 40000 f_12), (z 26, aI V 10000 f_13), (z 27, aI V 10000 f_14), (z 28, aZ V 10000 f_15), (z 0, .inr (10, mo z 0 pz0_5 pz0_6 pz0_7 pz0_8 pz0_9 pz0_10 pz0_11 pz0_12 pz0_13 pz0_14 pz0_18 pz0_19 pz0_22 pz0_23 v_16)), (z 1, aI V 3075 fz1)] H := hP
          have hD : va_D A [(z 15, aI V 900 f_9), (z 16, aI V 6 f_10), (z 24, aI V 10000 f_11), (z 25, aI V 40000 f_12), (z 26, aI V 10000 f_13), (z 27, aI V 10000 f_14), (z 28, aZ V 10000 f_15), (z 0, .inr (10, mo z 0 pz0_5 pz0_6 pz0_7 pz0_8 pz0_9 pz0_10 pz0_11 pz0_12 pz0_13 pz0_14 pz0_18 pz0_19 pz0_22 pz0_23 v_16)), (z 1, aI V 3075 fz1)] := hD
          refine lv_iload hx hb dX10_best_53 (lv_at hl 0 rfl) ?_
          refine jnI (wr := [(z 15, aI V 900 f_9), (z 16, aI V 6 f_10), (z 24, aI V 10000 f_11), (z 26, aI V 10000 f_13), (z 28, aZ V 10000 f_15), (z 1, aI V 3075 fz1)]) (rnV (rest := []) ⟨hx, hb, hml, hown, hg⟩ (k_X10_firstBy_0 l V z r_29 u_18 f_14 f_12 0 pz0_5 pz0_6 pz0_7 pz0_8 pz0_9 pz0_10 pz0_11 pz0_12 pz0_13 pz0_14 pz0_18 pz0_19 pz0_22 pz0_23 v_16 br_29 b_22 tf_14 tf_12 bpz0_5 bpz0_6 bpz0_7 bpz0_8 bpz0_10 bpz0_11 bpz0_12 bpz0_13 bpz0_14 bpz0_18 bpz0_22 bv_16) mt_X10_firstBy q_8_97 ⟨Nat.le_of_ble_eq_true rfl, Nat.le_of_ble_eq_true rfl⟩ hK hP hD hS hA hE [5, 3, 7] rfl rfl 7 rfl rfl rfl rfl hl.1 rfl (Nat.le_of_ble_eq_true rfl) dX10_best_55 ⟨Nat.le_of_ble_eq_true rfl, Nat.le_of_ble_eq_true rfl⟩) hP hD hS hA [5, 3, 7] [0, 1, 2, 4, 6, 8] rfl rfl rfl (by decide) (fun r_30 w H locs hw hP hD hS => ?_)
          obtain ⟨br_30, er_30, rfl⟩ := hw
          have hP : va_P V.1 vwCl [(z 15, aI V 900 f_9), (z 16, aI V 6 f_10), (z 24, aI V 10000 f_11), (z 26, aI V 10000 f_13), (z 28, aZ V 10000 f_15), (z 1, aI V 3075 fz1), (z 27, aI V 10000 f_14), (z 25, aI V 40000 f_12), (z 0, .inr (10, mo z 0 pz0_5 pz0_6 pz0_7 pz0_8 pz0_9 pz0_10 pz0_11 pz0_12 pz0_13 pz0_14 pz0_18 pz0_19 pz0_22 pz0_23 v_16))] H := hP
          have hD : va_D A [(z 15, aI V 900 f_9), (z 16, aI V 6 f_10), (z 24, aI V 10000 f_11), (z 26, aI V 10000 f_13), (z 28, aZ V 10000 f_15), (z 1, aI V 3075 fz1), (z 27, aI V 10000 f_14), (z 25, aI V 40000 f_12), (z 0, .inr (10, mo z 0 pz0_5 pz0_6 pz0_7 pz0_8 pz0_9 pz0_10 pz0_11 pz0_12 pz0_13 pz0_14 pz0_18 pz0_19 pz0_22 pz0_23 v_16))] := hD
          refine lv_iload hx hb dX10_best_58 (lv_at hl 1 rfl) ?_
          refine lv_icmp_ne (tgt := 66) hx hb dX10_best_60 (by decide) (fun c_31 => ?_) (fun c_31 => ?_)
          · obtain ⟨x_32, ex_32⟩ : ∃ z9 : Int32, z9 = u_18 + 1 := ⟨_, rfl⟩
            have bx_32 : iv 1 4 x_32 := by rw [ex_32]; exact iv_add b_22 (iv_c (1 : Int32) (a := 1) (b := 1) (by decide)) (by decide)
            refine lv_iinc (v := x_32) (lv' := [(5, .int x_32), (4, .int r_8), (3, .int r_1), (0, .ref (z 0)), (1, .int a1), (2, .int a2)]) hx hb dX10_best_66 hl (k := 0) rfl (by rw [ex_32]; rfl) (by decide) rfl (fun ls hl => ?_)
            refine lv_goto (tgt := 29) hx hb dX10_best_69 (by decide) ?_
            have hP := subP (ws' := [(z 15, aI V 900 f_9), (z 16, aI V 6 f_10), (z 24, aI V 10000 f_11), (z 25, aI V 40000 f_12), (z 26, aI V 10000 f_13), (z 27, aI V 10000 f_14), (z 28, aZ V 10000 f_15), (z 0, .inr (10, mo z 0 pz0_5 pz0_6 pz0_7 pz0_8 pz0_9 pz0_10 pz0_11 pz0_12 pz0_13 pz0_14 pz0_18 pz0_19 pz0_22 pz0_23 v_16)), (z 1, aI V 3075 fz1)]) hP [0, 1, 2, 7, 3, 6, 4, 8, 5] rfl
            have hD := hD.sub (ws' := [(z 15, aI V 900 f_9), (z 16, aI V 6 f_10), (z 24, aI V 10000 f_11), (z 25, aI V 40000 f_12), (z 26, aI V 10000 f_13), (z 27, aI V 10000 f_14), (z 28, aZ V 10000 f_15), (z 0, .inr (10, mo z 0 pz0_5 pz0_6 pz0_7 pz0_8 pz0_9 pz0_10 pz0_11 pz0_12 pz0_13 pz0_14 pz0_18 pz0_19 pz0_22 pz0_23 v_16)), (z 1, aI V 3075 fz1)]) [0, 1, 2, 7, 3, 6, 4, 8, 5] rfl rfl
            exact ihn_19 _ _ _ _ (by rw [en_19, ex_32]; exact mu_up b_22 (by decide)) ⟨x_32, (iv_w bx_32 (by decide)), inn_19_0, rfl, hP, hD, hS, lv_sub hl [0, 1, 2, 3, 4, 5] rfl⟩
          · have b_33 : iv 1 268435455 r_30 := iv_q c_31 b_28
            refine lv_iload hx hb dX10_best_63 (lv_at hl 0 rfl) ?_
            have hP := subP (ws' := [(z 0, .inr (10, mo z 0 pz0_5 pz0_6 pz0_7 pz0_8 pz0_9 pz0_10 pz0_11 pz0_12 pz0_13 pz0_14 pz0_18 pz0_19 pz0_22 pz0_23 v_16)), (z 1, aI V 3075 fz1), (z 15, aI V 900 f_9), (z 16, aI V 6 f_10), (z 24, aI V 10000 f_11), (z 25, aI V 40000 f_12), (z 26, aI V 10000 f_13), (z 27, aI V 10000 f_14), (z 28, aZ V 10000 f_15)]) hP [8, 5, 0, 1, 2, 7, 3, 6, 4] rfl
            have hD := hD.sub (ws' := [(z 0, .inr (10, mo z 0 pz0_5 pz0_6 pz0_7 pz0_8 pz0_9 pz0_10 pz0_11 pz0_12 pz0_13 pz0_14 pz0_18 pz0_19 pz0_22 pz0_23 v_16)), (z 1, aI V 3075 fz1), (z 15, aI V 900 f_9), (z 16, aI V 6 f_10), (z 24, aI V 10000 f_11), (z 25, aI V 40000 f_12), (z 26, aI V 10000 f_13), (z 27, aI V 10000 f_14), (z 28, aZ V 10000 f_15)]) [8, 5, 0, 1, 2, 7, 3, 6, 4] rfl rfl
            exact fiI hx hb hr hlk hK hP hD hS dX10_best_65 (Nat.le_of_ble_eq_true rfl) (Nat.le_of_ble_eq_true rfl) (⟨0, v_16, f_9, f_10, f_11, f_12, f_13, f_14, f_15, bv_16, tf_10, tf_11, tf_12, tf_13, tf_14, (iv_w b_22 (by decide)), inn_19_0, rfl⟩)
  · have b_34 : iv (-3) (-1) r_1 := iv_n1 c_4 br_1 (iv_c (0 : Int32) (a := 0) (b := 0) (by decide)) (by decide)
    refine lv_iload_n hx hb dX10_best_16 rfl (lv_at hl 0 rfl) ?_
    have hP := subP (ws' := [(z 0, .inr (10, mo z 0 pz0_5 pz0_6 pz0_7 pz0_8 pz0_9 pz0_10 pz0_11 pz0_12 pz0_13 pz0_14 pz0_18 pz0_19 pz0_22 pz0_23 pz0_29)), (z 1, aI V 3075 fz1), (z 15, aI V 900 fz15), (z 16, aI V 6 fz16), (z 24, aI V 10000 fz24), (z 25, aI V 40000 fz25), (z 26, aI V 10000 fz26), (z 27, aI V 10000 fz27), (z 28, aZ V 10000 fz28)]) hP [7, 8, 0, 1, 2, 3, 4, 5, 6] rfl
    have hD := hD.sub (ws' := [(z 0, .inr (10, mo z 0 pz0_5 pz0_6 pz0_7 pz0_8 pz0_9 pz0_10 pz0_11 pz0_12 pz0_13 pz0_14 pz0_18 pz0_19 pz0_22 pz0_23 pz0_29)), (z 1, aI V 3075 fz1), (z 15, aI V 900 fz15), (z 16, aI V 6 fz16), (z 24, aI V 10000 fz24), (z 25, aI V 40000 fz25), (z 26, aI V 10000 fz26), (z 27, aI V 10000 fz27), (z 28, aZ V 10000 fz28)]) [7, 8, 0, 1, 2, 3, 4, 5, 6] rfl rfl
    exact fiI hx hb hr hlk hK hP hD hS dX10_best_17 (Nat.le_of_ble_eq_true rfl) (Nat.le_of_ble_eq_true rfl) (⟨0, pz0_29, fz15, fz16, fz24, fz25, fz26, fz27, fz28, bpz0_29, tfz16, tfz24, tfz25, tfz26, tfz27, (iv_w b_34 (by decide)), hf0, rfl⟩)
theorem dX10_laysLikely_0 : decode cX10_laysLikely 0 = .ok (.aload_n 0, 1) := by decide +kernel
theorem dX10_laysLikely_1 : decode cX10_laysLikely 1 = .ok (.invokevirtual 362, 3) := by decide +kernel
theorem dX10_laysLikely_4 : decode cX10_laysLikely 4 = .ok (.aload_n 0, 1) := by decide +kernel
theorem dX10_laysLikely_5 : decode cX10_laysLikely 5 = .ok (.invokevirtual 389, 3) := by decide +kernel
theorem dX10_laysLikely_8 : decode cX10_laysLikely 8 = .ok (.aload_n 0, 1) := by decide +kernel
theorem dX10_laysLikely_9 : decode cX10_laysLikely 9 = .ok (.getfield 13, 3) := by decide +kernel
theorem dX10_laysLikely_12 : decode cX10_laysLikely 12 = .ok (.iconst 1, 1) := by decide +kernel
theorem dX10_laysLikely_13 : decode cX10_laysLikely 13 = .ok (.iaload, 1) := by decide +kernel
theorem dX10_laysLikely_14 : decode cX10_laysLikely 14 = .ok (.ifCond .ne 7, 3) := by decide +kernel
theorem dX10_laysLikely_21 : decode cX10_laysLikely 21 = .ok (.aload_n 0, 1) := by decide +kernel
theorem dX10_laysLikely_22 : decode cX10_laysLikely 22 = .ok (.getfield 13, 3) := by decide +kernel
theorem dX10_laysLikely_25 : decode cX10_laysLikely 25 = .ok (.iconst 1, 1) := by decide +kernel
theorem dX10_laysLikely_26 : decode cX10_laysLikely 26 = .ok (.iaload, 1) := by decide +kernel
theorem dX10_laysLikely_27 : decode cX10_laysLikely 27 = .ok (.iconst 1, 1) := by decide +kernel
theorem dX10_laysLikely_28 : decode cX10_laysLikely 28 = .ok (.isub, 1) := by decide +kernel
theorem dX10_laysLikely_29 : decode cX10_laysLikely 29 = .ok (.istore_n 2, 1) := by decide +kernel
theorem dX10_laysLikely_30 : decode cX10_laysLikely 30 = .ok (.iconst 0, 1) := by decide +kernel
theorem dX10_laysLikely_31 : decode cX10_laysLikely 31 = .ok (.istore_n 3, 1) := by decide +kernel
theorem dX10_laysLikely_32 : decode cX10_laysLikely 32 = .ok (.iload_n 3, 1) := by decide +kernel
theorem dX10_laysLikely_33 : decode cX10_laysLikely 33 = .ok (.iload_n 1, 1) := by decide +kernel
theorem dX10_laysLikely_34 : decode cX10_laysLikely 34 = .ok (.if_icmp .ge 20, 3) := by decide +kernel
theorem dX10_laysLikely_54 : decode cX10_laysLikely 54 = .ok (.return_, 1) := by decide +kernel
theorem dX10_laysLikely_37 : decode cX10_laysLikely 37 = .ok (.aload_n 0, 1) := by decide +kernel
theorem dX10_laysLikely_38 : decode cX10_laysLikely 38 = .ok (.ldc2_w 298, 3) := by decide +kernel
theorem dX10_laysLikely_41 : decode cX10_laysLikely 41 = .ok (.iload_n 2, 1) := by decide +kernel
theorem dX10_laysLikely_42 : decode cX10_laysLikely 42 = .ok (.i2l, 1) := by decide +kernel
theorem dX10_laysLikely_43 : decode cX10_laysLikely 43 = .ok (.lsub, 1) := by decide +kernel
theorem dX10_laysLikely_44 : decode cX10_laysLikely 44 = .ok (.lconst 1, 1) := by decide +kernel
theorem dX10_laysLikely_45 : decode cX10_laysLikely 45 = .ok (.invokevirtual 392, 3) := by decide +kernel
theorem dX10_laysLikely_48 : decode cX10_laysLikely 48 = .ok (.iinc 3 1, 3) := by decide +kernel
theorem dX10_laysLikely_51 : decode cX10_laysLikely 51 = .ok (.goto (-19), 3) := by decide +kernel
theorem dX10_laysLikely_17 : decode cX10_laysLikely 17 = .ok (.iconst 0, 1) := by decide +kernel
theorem dX10_laysLikely_18 : decode cX10_laysLikely 18 = .ok (.goto 11, 3) := by decide +kernel
set_option maxHeartbeats 4000000 in
set_option maxRecDepth 100000 in
theorem k_X10_laysLikely_0 (l : Launch) (V : GV) (z : Nat → Nat) (a1 : Int32) (fz15 : Nat → Int32) (fz16 : Nat → Int32) (fz24 : Nat → Int32) (fz25 : Nat → Int32) (fz28 : Nat → Int32) (fz30 : Nat → Int64) (fz31 : Nat → Int64) (pz0_0 : Int32) (pz0_5 : Int32) (pz0_6 : Int32) (pz0_7 : Int32) (pz0_8 : Int32) (pz0_9 : Int32) (pz0_10 : Int32) (pz0_11 : Int32) (pz0_12 : Int32) (pz0_13 : Int32) (pz0_14 : Int32) (pz0_18 : Int32) (pz0_19 : Int32) (pz0_22 : Int32) (pz0_23 : Int32) (pz0_29 : Int32) (fz1 : Nat → Int32) (tfz16 : ivT tW fz16) (tfz24 : ∀ j, iv 0 9999 (fz24 j)) (tfz25 : ∀ j, iv (-1) 9999 (fz25 j)) (bpz0_5 : iv 0 900 pz0_5) (bpz0_6 : iv 0 900 pz0_6) (bpz0_7 : iv 0 900 pz0_7) (bpz0_8 : iv 0 900 pz0_8) (bpz0_10 : iv 0 999 pz0_10) (bpz0_11 : iv 0 4 pz0_11) (bpz0_12 : iv 0 900 pz0_12) (bpz0_13 : iv 0 4 pz0_13) (bpz0_14 : iv (-1) 900 pz0_14) (bpz0_18 : iv 0 2 pz0_18) (bpz0_22 : iv 0 9999 pz0_22) (bpz0_29 : iv 0 10000 pz0_29) (tfz1 : ivT tA fz1) (hf0 : RW fz1) : Ct l V yX10_laysLikely (.code yX10_laysLikely cX10_laysLikely 4 none) 6 [.ref (z 0), .int a1] [(z 15, aI V 900 fz15), (z 16, aI V 6 fz16), (z 24, aI V 10000 fz24), (z 25, aI V 40000 fz25), (z 28, aZ V 10000 fz28), (z 30, aJ V 10000 fz30), (z 31, aJ V 10000 fz31), (z 0, .inr (10, mo z pz0_0 pz0_5 pz0_6 pz0_7 pz0_8 pz0_9 pz0_10 pz0_11 pz0_12 pz0_13 pz0_14 pz0_18 pz0_19 pz0_22 pz0_23 pz0_29)), (z 1, aI V 3075 fz1)] 0 0 (QV V (fun (w : va_W) => ∃ (g0 : Nat → Int32) (g1 : Nat → Int32) (g2 : Nat → Int32) (g3 : Nat → Int32) (g4 : Nat → Int32) (g5 : Nat → Int64) (g6 : Nat → Int64) (v7 : Int32), (ivT tW g1) ∧ (∀ j, iv 0 9999 (g2 j)) ∧ (∀ j, iv (-1) 9999 (g3 j)) ∧ iv 0 10000 v7 ∧ (RW fz1) ∧ w = [(z 15, aI V 900 g0), (z 16, aI V 6 g1), (z 24, aI V 10000 g2), (z 25, aI V 40000 g3), (z 28, aZ V 10000 g4), (z 30, aJ V 10000 g5), (z 31, aJ V 10000 g6), (z 0, .inr (10, mo z pz0_0 pz0_5 pz0_6 pz0_7 pz0_8 pz0_9 pz0_10 pz0_11 pz0_12 pz0_13 pz0_14 pz0_18 pz0_19 pz0_22 pz0_23 v7)), (z 1, aI V 3075 fz1)])) := by
  refine Ct.of (by decide) (Nat.le_of_ble_eq_true rfl) (fun p e s m below meth c A ls hx hb hr hml hown hlk hnm hg hP hK hD hE hA hS hl => ?_)
  have hl : lv_has ls 4 [(0, .ref (z 0)), (1, .int a1)] := hl
  refine lv_aload_n hx hb dX10_laysLikely_0 rfl (lv_at hl 0 rfl) ?_
  refine jnV (wr := [(z 30, aJ V 10000 fz30), (z 31, aJ V 10000 fz31)]) (rnV (rest := []) ⟨hx, hb, hml, hown, hg⟩ (k_X10_laysStands_0 l V z fz15 fz16 fz24 fz25 fz28 pz0_0 pz0_5 pz0_6 pz0_7 pz0_8 pz0_9 pz0_10 pz0_11 pz0_12 pz0_13 pz0_14 pz0_18 pz0_19 pz0_22 pz0_23 pz0_29 fz1 tfz16 tfz24 tfz25 bpz0_5 bpz0_6 bpz0_7 bpz0_8 bpz0_10 bpz0_11 bpz0_12 bpz0_13 bpz0_14 bpz0_18 bpz0_22 bpz0_29 tfz1 hf0) mt_X10_laysStands q_7_194 ⟨Nat.le_of_ble_eq_true rfl, Nat.le_of_ble_eq_true rfl⟩ hK hP hD hS hA hE [0, 1, 2, 3, 4, 7, 8] rfl rfl 7 rfl rfl rfl rfl hl.1 rfl (Nat.le_of_ble_eq_true rfl) dX10_laysLikely_1 ⟨Nat.le_of_ble_eq_true rfl, Nat.le_of_ble_eq_true rfl⟩) hP hD hS hA [0, 1, 2, 3, 4, 7, 8] [5, 6] rfl rfl rfl (by decide) (fun  w H locs hw hP hD hS => ?_)
  obtain ⟨f_1, f_2, f_3, f_4, f_5, v_6, tf_2, tf_3, tf_4, bv_6, g_7, g_8, g_9, rfl⟩ := hw
  have hP : va_P V.1 vwCl [(z 30, aJ V 10000 fz30), (z 31, aJ V 10000 fz31), (z 15, aI V 900 f_1), (z 16, aI V 6 f_2), (z 24, aI V 10000 f_3), (z 25, aI V 40000 f_4), (z 28, aZ V 10000 f_5), (z 0, .inr (10, mo z pz0_0 pz0_5 pz0_6 pz0_7 pz0_8 pz0_9 pz0_10 pz0_11 pz0_12 pz0_13 pz0_14 pz0_18 pz0_19 pz0_22 pz0_23 v_6)), (z 1, aI V 3075 fz1)] H := hP
  have hD : va_D A [(z 30, aJ V 10000 fz30), (z 31, aJ V 10000 fz31), (z 15, aI V 900 f_1), (z 16, aI V 6 f_2), (z 24, aI V 10000 f_3), (z 25, aI V 40000 f_4), (z 28, aZ V 10000 f_5), (z 0, .inr (10, mo z pz0_0 pz0_5 pz0_6 pz0_7 pz0_8 pz0_9 pz0_10 pz0_11 pz0_12 pz0_13 pz0_14 pz0_18 pz0_19 pz0_22 pz0_23 v_6)), (z 1, aI V 3075 fz1)] := hD
  refine lv_aload_n hx hb dX10_laysLikely_4 rfl (lv_at hl 0 rfl) ?_
  refine jnV (wr := [(z 15, aI V 900 f_1), (z 16, aI V 6 f_2), (z 24, aI V 10000 f_3), (z 25, aI V 40000 f_4), (z 28, aZ V 10000 f_5)]) (rnV (rest := []) ⟨hx, hb, hml, hown, hg⟩ (k_X10_beginsMany_0 l V z fz30 fz31 pz0_0 pz0_5 pz0_6 pz0_7 pz0_8 pz0_9 pz0_10 pz0_11 pz0_12 pz0_13 pz0_14 pz0_18 pz0_19 pz0_22 pz0_23 v_6 fz1 bpz0_5 bpz0_6 bpz0_7 bpz0_8 bpz0_10 bpz0_11 bpz0_12 bpz0_13 bpz0_14 bpz0_18 bpz0_22 bv_6 tfz1) mt_X10_beginsMany q_7_220 ⟨Nat.le_of_ble_eq_true rfl, Nat.le_of_ble_eq_true rfl⟩ hK hP hD hS hA hE [0, 1, 7, 8] rfl rfl 7 rfl rfl rfl rfl hl.1 rfl (Nat.le_of_ble_eq_true rfl) dX10_laysLikely_5 ⟨Nat.le_of_ble_eq_true rfl, Nat.le_of_ble_eq_true rfl⟩) hP hD hS hA [0, 1, 7, 8] [2, 3, 4, 5, 6] rfl rfl rfl (by decide) (fun  w H locs hw hP hD hS => ?_)
  obtain ⟨f_10, f_11, rfl⟩ := hw
  have hP : va_P V.1 vwCl [(z 15, aI V 900 f_1), (z 16, aI V 6 f_2), (z 24, aI V 10000 f_3), (z 25, aI V 40000 f_4), (z 28, aZ V 10000 f_5), (z 30, aJ V 10000 f_10), (z 31, aJ V 10000 f_11), (z 0, .inr (10, mo z pz0_0 pz0_5 pz0_6 pz0_7 pz0_8 pz0_9 pz0_10 pz0_11 pz0_12 pz0_13 pz0_14 pz0_18 pz0_19 pz0_22 pz0_23 v_6)), (z 1, aI V 3075 fz1)] H := hP
  have hD : va_D A [(z 15, aI V 900 f_1), (z 16, aI V 6 f_2), (z 24, aI V 10000 f_3), (z 25, aI V 40000 f_4), (z 28, aZ V 10000 f_5), (z 30, aJ V 10000 f_10), (z 31, aJ V 10000 f_11), (z 0, .inr (10, mo z pz0_0 pz0_5 pz0_6 pz0_7 pz0_8 pz0_9 pz0_10 pz0_11 pz0_12 pz0_13 pz0_14 pz0_18 pz0_19 pz0_22 pz0_23 v_6)), (z 1, aI V 3075 fz1)] := hD
  refine lv_aload_n hx hb dX10_laysLikely_8 rfl (lv_at hl 0 rfl) ?_
  refine va_get (ci := 10) (v := .ref (z 1)) (C := RX10) (T := TX10) (N := 40) hx hb hg inX10 hown hK hP 7 rfl rfl 1 (by decide) (hg _ q_5_225) (fun _ h9 => h9) rfl dX10_laysLikely_9 ?_
  refine lv_iconst (v := 1) hx hb dX10_laysLikely_12 (by decide) ?_
  refine va_iald hx hb hK hP 8 0 rfl rfl (vin (by decide +kernel)) dX10_laysLikely_13 ?_
  refine lv_topi (fun x_12 ex_12 => ?_)
  have bx_12 : iv 0 4 x_12 := by rw [ex_12]; exact rdT (a := 1) (n := 1) tfz1 (iv_c (1 : Int32) (a := 1) (b := 1) (by decide)) (by decide) (by decide +kernel)
  refine lv_if_ne (tgt := 21) hx hb dX10_laysLikely_14 (by decide) (fun c_13 => ?_) (fun c_13 => ?_)
  · have b_14 : iv 1 4 x_12 := iv_n0 c_13 bx_12 (iv_c (0 : Int32) (a := 0) (b := 0) (by decide)) (by decide)
    refine lv_aload_n hx hb dX10_laysLikely_21 rfl (lv_at hl 0 rfl) ?_
    refine va_get (ci := 10) (v := .ref (z 1)) (C := RX10) (T := TX10) (N := 40) hx hb hg inX10 hown hK hP 7 rfl rfl 1 (by decide) (hg _ q_5_225) (fun _ h9 => h9) rfl dX10_laysLikely_22 ?_
    refine lv_iconst (v := 1) hx hb dX10_laysLikely_25 (by decide) ?_
    refine va_iald hx hb hK hP 8 0 rfl rfl (vin (by decide +kernel)) dX10_laysLikely_26 ?_
    refine tpi (y := x_12) ex_12.symm ?_
    refine lv_iconst (v := 1) hx hb dX10_laysLikely_27 (by decide) ?_
    refine lv_isub hx hb dX10_laysLikely_28 ?_
    refine lv_topi (fun x_15 ex_15 => ?_)
    have bx_15 : iv 0 3 x_15 := by rw [ex_15]; exact iv_sub b_14 (iv_c (1 : Int32) (a := 1) (b := 1) (by decide)) (by decide)
    refine lv_istore_n (lv' := [(2, .int x_15), (0, .ref (z 0)), (1, .int a1)]) hx hb dX10_laysLikely_29 rfl hl (by decide) rfl (fun ls hl => ?_)
    refine lv_iconst (v := 0) hx hb dX10_laysLikely_30 (by decide) ?_
    refine lv_istore_n (lv' := [(3, .int 0), (2, .int x_15), (0, .ref (z 0)), (1, .int a1)]) hx hb dX10_laysLikely_31 rfl hl (by decide) rfl (fun ls hl => ?_)
    refine loopF (X := fun (n_19 : Nat) (H : Heap) (locs : List Loc) (ls : Array Slot) => ∃ (u_16 : Int32) (f_17 : Nat → Int64) (f_18 : Nat → Int64), (iv 0 2147483647 u_16) ∧ (RW fz1) ∧ n_19 = (2147483647 - (u_16 : Int32).toInt).toNat ∧ va_P V.1 vwCl [(z 15, aI V 900 f_1), (z 16, aI V 6 f_2), (z 24, aI V 10000 f_3), (z 25, aI V 40000 f_4), (z 28, aZ V 10000 f_5), (z 30, aJ V 10000 f_17), (z 31, aJ V 10000 f_18), (z 0, .inr (10, mo z pz0_0 pz0_5 pz0_6 pz0_7 pz0_8 pz0_9 pz0_10 pz0_11 pz0_12 pz0_13 pz0_14 pz0_18 pz0_19 pz0_22 pz0_23 v_6)), (z 1, aI V 3075 fz1)] H ∧ va_D A [(z 15, aI V 900 f_1), (z 16, aI V 6 f_2), (z 24, aI V 10000 f_3), (z 25, aI V 40000 f_4), (z 28, aZ V 10000 f_5), (z 30, aJ V 10000 f_17), (z 31, aJ V 10000 f_18), (z 0, .inr (10, mo z pz0_0 pz0_5 pz0_6 pz0_7 pz0_8 pz0_9 pz0_10 pz0_11 pz0_12 pz0_13 pz0_14 pz0_18 pz0_19 pz0_22 pz0_23 v_6)), (z 1, aI V 3075 fz1)] ∧ va_S A s.heap H locs ∧ lv_has ls 4 [(3, .int u_16), (2, .int x_15), (0, .ref (z 0)), (1, .int a1)]) (g := fun ls => F0 m 32 ls []) (fun n_19 H locs ls hX ihn_19 => ?_) _ ⟨0, f_10, f_11, (iv_c (0 : Int32) (by decide)), g_7, rfl, hP, hD, hS, lv_sub hl [0, 1, 2, 3] rfl⟩
    obtain ⟨u_16, f_17, f_18, bu_16, inn_19_0, en_19, hP, hD, hS, hl⟩ := hX
    refine lv_iload_n hx hb dX10_laysLikely_32 rfl (lv_at hl 0 rfl) ?_
    refine lv_iload_n hx hb dX10_laysLikely_33 rfl (lv_at hl 3 rfl) ?_
    refine lv_icmp_ge (tgt := 54) hx hb dX10_laysLikely_34 (by decide) (fun c_20 => ?_) (fun c_20 => ?_)
    · exact fiV hx hb hr hlk hK hP hD hS dX10_laysLikely_54 (Nat.le_of_ble_eq_true rfl) (Nat.le_of_ble_eq_true rfl) (⟨f_1, f_2, f_3, f_4, f_5, f_17, f_18, v_6, tf_2, tf_3, tf_4, bv_6, inn_19_0, rfl⟩)
    · have b_21 : iv 0 2147483646 u_16 := iv_l1 (Int32.not_le.mp c_20) bu_16 (iv_top a1) (by decide)
      have b_22 : iv 1 2147483647 a1 := iv_l2 (Int32.not_le.mp c_20) bu_16 (iv_top a1) (by decide)
      refine lv_aload_n hx hb dX10_laysLikely_37 rfl (lv_at hl 2 rfl) ?_
      refine lv_ldc2 (v := 10) hx hb hown (hg _ q_7_102) dX10_laysLikely_38 ?_
      refine lv_iload_n hx hb dX10_laysLikely_41 rfl (lv_at hl 1 rfl) ?_
      refine lv_i2l hx hb dX10_laysLikely_42 rfl ?_
      refine lv_topl (fun j_23 ej_23 => ?_)
      have bj_23 : ivL 0 3 j_23 := by rw [ej_23]; exact ivL_of bx_15
      refine lv_lsub hx hb dX10_laysLikely_43 ?_
      refine lv_topl (fun j_24 ej_24 => ?_)
      refine lv_lconst (v := 1) hx hb dX10_laysLikely_44 (by decide) ?_
      refine jnV (wr := [(z 15, aI V 900 f_1), (z 16, aI V 6 f_2), (z 28, aZ V 10000 f_5), (z 1, aI V 3075 fz1)]) (rnV (rest := []) ⟨hx, hb, hml, hown, hg⟩ (k_X10_goesMany_0 l V z j_24 1 f_3 f_4 f_17 f_18 pz0_0 pz0_5 pz0_6 pz0_7 pz0_8 pz0_9 pz0_10 pz0_11 pz0_12 pz0_13 pz0_14 pz0_18 pz0_19 pz0_22 pz0_23 v_6 tf_3 tf_4 bpz0_5 bpz0_6 bpz0_7 bpz0_8 bpz0_10 bpz0_11 bpz0_12 bpz0_13 bpz0_14 bpz0_18 bpz0_22 bv_6) mt_X10_goesMany q_7_224 ⟨Nat.le_of_ble_eq_true rfl, Nat.le_of_ble_eq_true rfl⟩ hK hP hD hS hA hE [2, 3, 5, 6, 7] rfl rfl 7 rfl rfl rfl rfl hl.1 rfl (Nat.le_of_ble_eq_true rfl) dX10_laysLikely_45 ⟨Nat.le_of_ble_eq_true rfl, Nat.le_of_ble_eq_true rfl⟩) hP hD hS hA [2, 3, 5, 6, 7] [0, 1, 4, 8] rfl rfl rfl (by decide) (fun  w H locs hw hP hD hS => ?_)
      obtain ⟨f_25, f_26, rfl⟩ := hw
      have hP : va_P V.1 vwCl [(z 15, aI V 900 f_1), (z 16, aI V 6 f_2), (z 28, aZ V 10000 f_5), (z 1, aI V 3075 fz1), (z 24, aI V 10000 f_3), (z 25, aI V 40000 f_4), (z 30, aJ V 10000 f_25), (z 31, aJ V 10000 f_26), (z 0, .inr (10, mo z pz0_0 pz0_5 pz0_6 pz0_7 pz0_8 pz0_9 pz0_10 pz0_11 pz0_12 pz0_13 pz0_14 pz0_18 pz0_19 pz0_22 pz0_23 v_6))] H := hP
      have hD : va_D A [(z 15, aI V 900 f_1), (z 16, aI V 6 f_2), (z 28, aZ V 10000 f_5), (z 1, aI V 3075 fz1), (z 24, aI V 10000 f_3), (z 25, aI V 40000 f_4), (z 30, aJ V 10000 f_25), (z 31, aJ V 10000 f_26), (z 0, .inr (10, mo z pz0_0 pz0_5 pz0_6 pz0_7 pz0_8 pz0_9 pz0_10 pz0_11 pz0_12 pz0_13 pz0_14 pz0_18 pz0_19 pz0_22 pz0_23 v_6))] := hD
      obtain ⟨x_27, ex_27⟩ : ∃ z9 : Int32, z9 = u_16 + 1 := ⟨_, rfl⟩
      have bx_27 : iv 1 2147483647 x_27 := by rw [ex_27]; exact iv_add b_21 (iv_c (1 : Int32) (a := 1) (b := 1) (by decide)) (by decide)
      refine lv_iinc (v := x_27) (lv' := [(3, .int x_27), (2, .int x_15), (0, .ref (z 0)), (1, .int a1)]) hx hb dX10_laysLikely_48 hl (k := 0) rfl (by rw [ex_27]; rfl) (by decide) rfl (fun ls hl => ?_)
      refine lv_goto (tgt := 32) hx hb dX10_laysLikely_51 (by decide) ?_
      have hP := subP (ws' := [(z 15, aI V 900 f_1), (z 16, aI V 6 f_2), (z 24, aI V 10000 f_3), (z 25, aI V 40000 f_4), (z 28, aZ V 10000 f_5), (z 30, aJ V 10000 f_25), (z 31, aJ V 10000 f_26), (z 0, .inr (10, mo z pz0_0 pz0_5 pz0_6 pz0_7 pz0_8 pz0_9 pz0_10 pz0_11 pz0_12 pz0_13 pz0_14 pz0_18 pz0_19 pz0_22 pz0_23 v_6)), (z 1, aI V 3075 fz1)]) hP [0, 1, 4, 5, 2, 6, 7, 8, 3] rfl
      have hD := hD.sub (ws' := [(z 15, aI V 900 f_1), (z 16, aI V 6 f_2), (z 24, aI V 10000 f_3), (z 25, aI V 40000 f_4), (z 28, aZ V 10000 f_5), (z 30, aJ V 10000 f_25), (z 31, aJ V 10000 f_26), (z 0, .inr (10, mo z pz0_0 pz0_5 pz0_6 pz0_7 pz0_8 pz0_9 pz0_10 pz0_11 pz0_12 pz0_13 pz0_14 pz0_18 pz0_19 pz0_22 pz0_23 v_6)), (z 1, aI V 3075 fz1)]) [0, 1, 4, 5, 2, 6, 7, 8, 3] rfl rfl
      exact ihn_19 _ _ _ _ (by rw [en_19, ex_27]; exact mu_up b_21 (by decide)) ⟨x_27, f_25, f_26, (iv_w bx_27 (by decide)), inn_19_0, rfl, hP, hD, hS, lv_sub hl [0, 1, 2, 3] rfl⟩
  · have b_28 : iv 0 0 x_12 := iv_q c_13 (iv_c (0 : Int32) (a := 0) (b := 0) (by decide))
    refine lv_iconst (v := 0) hx hb dX10_laysLikely_17 (by decide) ?_
    refine lv_goto (tgt := 29) hx hb dX10_laysLikely_18 (by decide) ?_
    refine lv_istore_n (lv' := [(2, .int 0), (0, .ref (z 0)), (1, .int a1)]) hx hb dX10_laysLikely_29 rfl hl (by decide) rfl (fun ls hl => ?_)
    refine lv_iconst (v := 0) hx hb dX10_laysLikely_30 (by decide) ?_
    refine lv_istore_n (lv' := [(3, .int 0), (2, .int 0), (0, .ref (z 0)), (1, .int a1)]) hx hb dX10_laysLikely_31 rfl hl (by decide) rfl (fun ls hl => ?_)
    refine loopF (X := fun (n_32 : Nat) (H : Heap) (locs : List Loc) (ls : Array Slot) => ∃ (u_29 : Int32) (f_30 : Nat → Int64) (f_31 : Nat → Int64), (iv 0 2147483647 u_29) ∧ (RW fz1) ∧ n_32 = (2147483647 - (u_29 : Int32).toInt).toNat ∧ va_P V.1 vwCl [(z 15, aI V 900 f_1), (z 16, aI V 6 f_2), (z 24, aI V 10000 f_3), (z 25, aI V 40000 f_4), (z 28, aZ V 10000 f_5), (z 30, aJ V 10000 f_30), (z 31, aJ V 10000 f_31), (z 0, .inr (10, mo z pz0_0 pz0_5 pz0_6 pz0_7 pz0_8 pz0_9 pz0_10 pz0_11 pz0_12 pz0_13 pz0_14 pz0_18 pz0_19 pz0_22 pz0_23 v_6)), (z 1, aI V 3075 fz1)] H ∧ va_D A [(z 15, aI V 900 f_1), (z 16, aI V 6 f_2), (z 24, aI V 10000 f_3), (z 25, aI V 40000 f_4), (z 28, aZ V 10000 f_5), (z 30, aJ V 10000 f_30), (z 31, aJ V 10000 f_31), (z 0, .inr (10, mo z pz0_0 pz0_5 pz0_6 pz0_7 pz0_8 pz0_9 pz0_10 pz0_11 pz0_12 pz0_13 pz0_14 pz0_18 pz0_19 pz0_22 pz0_23 v_6)), (z 1, aI V 3075 fz1)] ∧ va_S A s.heap H locs ∧ lv_has ls 4 [(3, .int u_29), (2, .int 0), (0, .ref (z 0)), (1, .int a1)]) (g := fun ls => F0 m 32 ls []) (fun n_32 H locs ls hX ihn_32 => ?_) _ ⟨0, f_10, f_11, (iv_c (0 : Int32) (by decide)), g_7, rfl, hP, hD, hS, lv_sub hl [0, 1, 2, 3] rfl⟩
    obtain ⟨u_29, f_30, f_31, bu_29, inn_32_0, en_32, hP, hD, hS, hl⟩ := hX
    refine lv_iload_n hx hb dX10_laysLikely_32 rfl (lv_at hl 0 rfl) ?_
    refine lv_iload_n hx hb dX10_laysLikely_33 rfl (lv_at hl 3 rfl) ?_
    refine lv_icmp_ge (tgt := 54) hx hb dX10_laysLikely_34 (by decide) (fun c_33 => ?_) (fun c_33 => ?_)
    · exact fiV hx hb hr hlk hK hP hD hS dX10_laysLikely_54 (Nat.le_of_ble_eq_true rfl) (Nat.le_of_ble_eq_true rfl) (⟨f_1, f_2, f_3, f_4, f_5, f_30, f_31, v_6, tf_2, tf_3, tf_4, bv_6, inn_32_0, rfl⟩)
    · have b_34 : iv 0 2147483646 u_29 := iv_l1 (Int32.not_le.mp c_33) bu_29 (iv_top a1) (by decide)
      have b_35 : iv 1 2147483647 a1 := iv_l2 (Int32.not_le.mp c_33) bu_29 (iv_top a1) (by decide)
      refine lv_aload_n hx hb dX10_laysLikely_37 rfl (lv_at hl 2 rfl) ?_
      refine lv_ldc2 (v := 10) hx hb hown (hg _ q_7_102) dX10_laysLikely_38 ?_
      refine lv_iload_n hx hb dX10_laysLikely_41 rfl (lv_at hl 1 rfl) ?_
      refine lv_i2l (v := 0) hx hb dX10_laysLikely_42 (by decide +kernel) ?_
      refine lv_lsub hx hb dX10_laysLikely_43 ?_
      refine tpl (y := 10) (by decide +kernel) ?_
      refine lv_lconst (v := 1) hx hb dX10_laysLikely_44 (by decide) ?_
      refine jnV (wr := [(z 15, aI V 900 f_1), (z 16, aI V 6 f_2), (z 28, aZ V 10000 f_5), (z 1, aI V 3075 fz1)]) (rnV (rest := []) ⟨hx, hb, hml, hown, hg⟩ (k_X10_goesMany_0 l V z 10 1 f_3 f_4 f_30 f_31 pz0_0 pz0_5 pz0_6 pz0_7 pz0_8 pz0_9 pz0_10 pz0_11 pz0_12 pz0_13 pz0_14 pz0_18 pz0_19 pz0_22 pz0_23 v_6 tf_3 tf_4 bpz0_5 bpz0_6 bpz0_7 bpz0_8 bpz0_10 bpz0_11 bpz0_12 bpz0_13 bpz0_14 bpz0_18 bpz0_22 bv_6) mt_X10_goesMany q_7_224 ⟨Nat.le_of_ble_eq_true rfl, Nat.le_of_ble_eq_true rfl⟩ hK hP hD hS hA hE [2, 3, 5, 6, 7] rfl rfl 7 rfl rfl rfl rfl hl.1 rfl (Nat.le_of_ble_eq_true rfl) dX10_laysLikely_45 ⟨Nat.le_of_ble_eq_true rfl, Nat.le_of_ble_eq_true rfl⟩) hP hD hS hA [2, 3, 5, 6, 7] [0, 1, 4, 8] rfl rfl rfl (by decide) (fun  w H locs hw hP hD hS => ?_)
      obtain ⟨f_36, f_37, rfl⟩ := hw
      have hP : va_P V.1 vwCl [(z 15, aI V 900 f_1), (z 16, aI V 6 f_2), (z 28, aZ V 10000 f_5), (z 1, aI V 3075 fz1), (z 24, aI V 10000 f_3), (z 25, aI V 40000 f_4), (z 30, aJ V 10000 f_36), (z 31, aJ V 10000 f_37), (z 0, .inr (10, mo z pz0_0 pz0_5 pz0_6 pz0_7 pz0_8 pz0_9 pz0_10 pz0_11 pz0_12 pz0_13 pz0_14 pz0_18 pz0_19 pz0_22 pz0_23 v_6))] H := hP
      have hD : va_D A [(z 15, aI V 900 f_1), (z 16, aI V 6 f_2), (z 28, aZ V 10000 f_5), (z 1, aI V 3075 fz1), (z 24, aI V 10000 f_3), (z 25, aI V 40000 f_4), (z 30, aJ V 10000 f_36), (z 31, aJ V 10000 f_37), (z 0, .inr (10, mo z pz0_0 pz0_5 pz0_6 pz0_7 pz0_8 pz0_9 pz0_10 pz0_11 pz0_12 pz0_13 pz0_14 pz0_18 pz0_19 pz0_22 pz0_23 v_6))] := hD
      obtain ⟨x_38, ex_38⟩ : ∃ z9 : Int32, z9 = u_29 + 1 := ⟨_, rfl⟩
      have bx_38 : iv 1 2147483647 x_38 := by rw [ex_38]; exact iv_add b_34 (iv_c (1 : Int32) (a := 1) (b := 1) (by decide)) (by decide)
      refine lv_iinc (v := x_38) (lv' := [(3, .int x_38), (2, .int 0), (0, .ref (z 0)), (1, .int a1)]) hx hb dX10_laysLikely_48 hl (k := 0) rfl (by rw [ex_38]; rfl) (by decide) rfl (fun ls hl => ?_)
      refine lv_goto (tgt := 32) hx hb dX10_laysLikely_51 (by decide) ?_
      have hP := subP (ws' := [(z 15, aI V 900 f_1), (z 16, aI V 6 f_2), (z 24, aI V 10000 f_3), (z 25, aI V 40000 f_4), (z 28, aZ V 10000 f_5), (z 30, aJ V 10000 f_36), (z 31, aJ V 10000 f_37), (z 0, .inr (10, mo z pz0_0 pz0_5 pz0_6 pz0_7 pz0_8 pz0_9 pz0_10 pz0_11 pz0_12 pz0_13 pz0_14 pz0_18 pz0_19 pz0_22 pz0_23 v_6)), (z 1, aI V 3075 fz1)]) hP [0, 1, 4, 5, 2, 6, 7, 8, 3] rfl
      have hD := hD.sub (ws' := [(z 15, aI V 900 f_1), (z 16, aI V 6 f_2), (z 24, aI V 10000 f_3), (z 25, aI V 40000 f_4), (z 28, aZ V 10000 f_5), (z 30, aJ V 10000 f_36), (z 31, aJ V 10000 f_37), (z 0, .inr (10, mo z pz0_0 pz0_5 pz0_6 pz0_7 pz0_8 pz0_9 pz0_10 pz0_11 pz0_12 pz0_13 pz0_14 pz0_18 pz0_19 pz0_22 pz0_23 v_6)), (z 1, aI V 3075 fz1)]) [0, 1, 4, 5, 2, 6, 7, 8, 3] rfl rfl
      exact ihn_32 _ _ _ _ (by rw [en_32, ex_38]; exact mu_up b_34 (by decide)) ⟨x_38, f_36, f_37, (iv_w bx_38 (by decide)), inn_32_0, rfl, hP, hD, hS, lv_sub hl [0, 1, 2, 3] rfl⟩
theorem dX10_wholeOf_0 : decode cX10_wholeOf 0 = .ok (.lconst 1, 1) := by decide +kernel
theorem dX10_wholeOf_1 : decode cX10_wholeOf 1 = .ok (.lstore_n 1, 1) := by decide +kernel
theorem dX10_wholeOf_2 : decode cX10_wholeOf 2 = .ok (.iconst 0, 1) := by decide +kernel
theorem dX10_wholeOf_3 : decode cX10_wholeOf 3 = .ok (.istore_n 3, 1) := by decide +kernel
theorem dX10_wholeOf_4 : decode cX10_wholeOf 4 = .ok (.iload_n 3, 1) := by decide +kernel
theorem dX10_wholeOf_5 : decode cX10_wholeOf 5 = .ok (.iload_n 0, 1) := by decide +kernel
theorem dX10_wholeOf_6 : decode cX10_wholeOf 6 = .ok (.if_icmp .ge 15, 3) := by decide +kernel
theorem dX10_wholeOf_21 : decode cX10_wholeOf 21 = .ok (.lload_n 1, 1) := by decide +kernel
theorem dX10_wholeOf_22 : decode cX10_wholeOf 22 = .ok (.lreturn, 1) := by decide +kernel
theorem dX10_wholeOf_9 : decode cX10_wholeOf 9 = .ok (.lload_n 1, 1) := by decide +kernel
theorem dX10_wholeOf_10 : decode cX10_wholeOf 10 = .ok (.ldc2_w 298, 3) := by decide +kernel
theorem dX10_wholeOf_13 : decode cX10_wholeOf 13 = .ok (.lmul, 1) := by decide +kernel
theorem dX10_wholeOf_14 : decode cX10_wholeOf 14 = .ok (.lstore_n 1, 1) := by decide +kernel
theorem dX10_wholeOf_15 : decode cX10_wholeOf 15 = .ok (.iinc 3 1, 3) := by decide +kernel
theorem dX10_wholeOf_18 : decode cX10_wholeOf 18 = .ok (.goto (-14), 3) := by decide +kernel
set_option maxHeartbeats 4000000 in
set_option maxRecDepth 100000 in
theorem k_X10_wholeOf_0 (l : Launch) (V : GV) (a0 : Int32) (ba0 : iv 0 7 a0) : Ct l V yX10_wholeOf (.code yX10_wholeOf cX10_wholeOf 4 (some .long)) 1 [.int a0] [] 0 0 (QL V (fun (r : Int64) (w : va_W) => (ivL 1 10000000 r) ∧ w = [])) := by
  refine Ct.of (by decide) (Nat.le_of_ble_eq_true rfl) (fun p e s m below meth c A ls hx hb hr hml hown hlk hnm hg hP hK hD hE hA hS hl => ?_)
  have hl : lv_has ls 4 [(0, .int a0)] := hl
  refine lv_lconst (v := 1) hx hb dX10_wholeOf_0 (by decide) ?_
  refine lv_lstore_n (lv' := [(1, .long 1), (0, .int a0)]) hx hb dX10_wholeOf_1 rfl hl (by decide) rfl (fun ls hl => ?_)
  refine lv_iconst (v := 0) hx hb dX10_wholeOf_2 (by decide) ?_
  refine lv_istore_n (lv' := [(3, .int 0), (1, .long 1), (0, .int a0)]) hx hb dX10_wholeOf_3 rfl hl (by decide) rfl (fun ls hl => ?_)
  refine lv_iload_n hx hb dX10_wholeOf_4 rfl (lv_at hl 0 rfl) ?_
  refine lv_iload_n hx hb dX10_wholeOf_5 rfl (lv_at hl 2 rfl) ?_
  refine lv_icmp_ge (tgt := 21) hx hb dX10_wholeOf_6 (by decide) (fun c_1 => ?_) (fun c_1 => ?_)
  · have b_2 : iv 0 0 a0 := iv_e1 c_1 ba0 (iv_c (0 : Int32) (a := 0) (b := 0) (by decide)) (by decide)
    refine lv_lload_n hx hb dX10_wholeOf_21 rfl (lv_at hl 1 rfl) ?_
    exact fiL hx hb hr hlk hK hP hD hS dX10_wholeOf_22 (Nat.le_of_ble_eq_true rfl) (Nat.le_of_ble_eq_true rfl) (⟨(ivL_c (1 : Int64) (by decide)), rfl⟩)
  · have b_3 : iv 1 7 a0 := iv_l2 (Int32.not_le.mp c_1) (iv_c (0 : Int32) (a := 0) (b := 0) (by decide)) ba0 (by decide)
    refine lv_lload_n hx hb dX10_wholeOf_9 rfl (lv_at hl 1 rfl) ?_
    refine lv_ldc2 (v := 10) hx hb hown (hg _ q_7_102) dX10_wholeOf_10 ?_
    refine lv_lmul hx hb dX10_wholeOf_13 ?_
    refine tpl (y := 10) (by decide +kernel) ?_
    refine lv_lstore_n (lv' := [(1, .long 10), (3, .int 0), (0, .int a0)]) hx hb dX10_wholeOf_14 rfl hl (by decide) rfl (fun ls hl => ?_)
    refine lv_iinc (v := 1) (lv' := [(3, .int 1), (1, .long 10), (0, .int a0)]) hx hb dX10_wholeOf_15 hl (k := 1) rfl (by decide +kernel) (by decide) rfl (fun ls hl => ?_)
    refine lv_goto (tgt := 4) hx hb dX10_wholeOf_18 (by decide) ?_
    refine lv_iload_n hx hb dX10_wholeOf_4 rfl (lv_at hl 0 rfl) ?_
    refine lv_iload_n hx hb dX10_wholeOf_5 rfl (lv_at hl 2 rfl) ?_
    refine lv_icmp_ge (tgt := 21) hx hb dX10_wholeOf_6 (by decide) (fun c_4 => ?_) (fun c_4 => ?_)
    · have b_5 : iv 1 1 a0 := iv_e1 c_4 b_3 (iv_c (1 : Int32) (a := 1) (b := 1) (by decide)) (by decide)
      refine lv_lload_n hx hb dX10_wholeOf_21 rfl (lv_at hl 1 rfl) ?_
      exact fiL hx hb hr hlk hK hP hD hS dX10_wholeOf_22 (Nat.le_of_ble_eq_true rfl) (Nat.le_of_ble_eq_true rfl) (⟨(ivL_c (10 : Int64) (by decide)), rfl⟩)
    · have b_6 : iv 2 7 a0 := iv_l2 (Int32.not_le.mp c_4) (iv_c (1 : Int32) (a := 1) (b := 1) (by decide)) b_3 (by decide)
      refine lv_lload_n hx hb dX10_wholeOf_9 rfl (lv_at hl 1 rfl) ?_
      refine lv_ldc2 (v := 10) hx hb hown (hg _ q_7_102) dX10_wholeOf_10 ?_
      refine lv_lmul hx hb dX10_wholeOf_13 ?_
      refine tpl (y := 100) (by decide +kernel) ?_
      refine lv_lstore_n (lv' := [(1, .long 100), (3, .int 1), (0, .int a0)]) hx hb dX10_wholeOf_14 rfl hl (by decide) rfl (fun ls hl => ?_)
      refine lv_iinc (v := 2) (lv' := [(3, .int 2), (1, .long 100), (0, .int a0)]) hx hb dX10_wholeOf_15 hl (k := 1) rfl (by decide +kernel) (by decide) rfl (fun ls hl => ?_)
      refine lv_goto (tgt := 4) hx hb dX10_wholeOf_18 (by decide) ?_
      refine lv_iload_n hx hb dX10_wholeOf_4 rfl (lv_at hl 0 rfl) ?_
      refine lv_iload_n hx hb dX10_wholeOf_5 rfl (lv_at hl 2 rfl) ?_
      refine lv_icmp_ge (tgt := 21) hx hb dX10_wholeOf_6 (by decide) (fun c_7 => ?_) (fun c_7 => ?_)
      · have b_8 : iv 2 2 a0 := iv_e1 c_7 b_6 (iv_c (2 : Int32) (a := 2) (b := 2) (by decide)) (by decide)
        refine lv_lload_n hx hb dX10_wholeOf_21 rfl (lv_at hl 1 rfl) ?_
        exact fiL hx hb hr hlk hK hP hD hS dX10_wholeOf_22 (Nat.le_of_ble_eq_true rfl) (Nat.le_of_ble_eq_true rfl) (⟨(ivL_c (100 : Int64) (by decide)), rfl⟩)
      · have b_9 : iv 3 7 a0 := iv_l2 (Int32.not_le.mp c_7) (iv_c (2 : Int32) (a := 2) (b := 2) (by decide)) b_6 (by decide)
        refine lv_lload_n hx hb dX10_wholeOf_9 rfl (lv_at hl 1 rfl) ?_
        refine lv_ldc2 (v := 10) hx hb hown (hg _ q_7_102) dX10_wholeOf_10 ?_
        refine lv_lmul hx hb dX10_wholeOf_13 ?_
        refine tpl (y := 1000) (by decide +kernel) ?_
        refine lv_lstore_n (lv' := [(1, .long 1000), (3, .int 2), (0, .int a0)]) hx hb dX10_wholeOf_14 rfl hl (by decide) rfl (fun ls hl => ?_)
        refine lv_iinc (v := 3) (lv' := [(3, .int 3), (1, .long 1000), (0, .int a0)]) hx hb dX10_wholeOf_15 hl (k := 1) rfl (by decide +kernel) (by decide) rfl (fun ls hl => ?_)
        refine lv_goto (tgt := 4) hx hb dX10_wholeOf_18 (by decide) ?_
        refine lv_iload_n hx hb dX10_wholeOf_4 rfl (lv_at hl 0 rfl) ?_
        refine lv_iload_n hx hb dX10_wholeOf_5 rfl (lv_at hl 2 rfl) ?_
        refine lv_icmp_ge (tgt := 21) hx hb dX10_wholeOf_6 (by decide) (fun c_10 => ?_) (fun c_10 => ?_)
        · have b_11 : iv 3 3 a0 := iv_e1 c_10 b_9 (iv_c (3 : Int32) (a := 3) (b := 3) (by decide)) (by decide)
          refine lv_lload_n hx hb dX10_wholeOf_21 rfl (lv_at hl 1 rfl) ?_
          exact fiL hx hb hr hlk hK hP hD hS dX10_wholeOf_22 (Nat.le_of_ble_eq_true rfl) (Nat.le_of_ble_eq_true rfl) (⟨(ivL_c (1000 : Int64) (by decide)), rfl⟩)
        · have b_12 : iv 4 7 a0 := iv_l2 (Int32.not_le.mp c_10) (iv_c (3 : Int32) (a := 3) (b := 3) (by decide)) b_9 (by decide)
          refine lv_lload_n hx hb dX10_wholeOf_9 rfl (lv_at hl 1 rfl) ?_
          refine lv_ldc2 (v := 10) hx hb hown (hg _ q_7_102) dX10_wholeOf_10 ?_
          refine lv_lmul hx hb dX10_wholeOf_13 ?_
          refine tpl (y := 10000) (by decide +kernel) ?_
          refine lv_lstore_n (lv' := [(1, .long 10000), (3, .int 3), (0, .int a0)]) hx hb dX10_wholeOf_14 rfl hl (by decide) rfl (fun ls hl => ?_)
          refine lv_iinc (v := 4) (lv' := [(3, .int 4), (1, .long 10000), (0, .int a0)]) hx hb dX10_wholeOf_15 hl (k := 1) rfl (by decide +kernel) (by decide) rfl (fun ls hl => ?_)
          refine lv_goto (tgt := 4) hx hb dX10_wholeOf_18 (by decide) ?_
          refine lv_iload_n hx hb dX10_wholeOf_4 rfl (lv_at hl 0 rfl) ?_
          refine lv_iload_n hx hb dX10_wholeOf_5 rfl (lv_at hl 2 rfl) ?_
          refine lv_icmp_ge (tgt := 21) hx hb dX10_wholeOf_6 (by decide) (fun c_13 => ?_) (fun c_13 => ?_)
          · have b_14 : iv 4 4 a0 := iv_e1 c_13 b_12 (iv_c (4 : Int32) (a := 4) (b := 4) (by decide)) (by decide)
            refine lv_lload_n hx hb dX10_wholeOf_21 rfl (lv_at hl 1 rfl) ?_
            exact fiL hx hb hr hlk hK hP hD hS dX10_wholeOf_22 (Nat.le_of_ble_eq_true rfl) (Nat.le_of_ble_eq_true rfl) (⟨(ivL_c (10000 : Int64) (by decide)), rfl⟩)
          · have b_15 : iv 5 7 a0 := iv_l2 (Int32.not_le.mp c_13) (iv_c (4 : Int32) (a := 4) (b := 4) (by decide)) b_12 (by decide)
            refine lv_lload_n hx hb dX10_wholeOf_9 rfl (lv_at hl 1 rfl) ?_
            refine lv_ldc2 (v := 10) hx hb hown (hg _ q_7_102) dX10_wholeOf_10 ?_
            refine lv_lmul hx hb dX10_wholeOf_13 ?_
            refine tpl (y := 100000) (by decide +kernel) ?_
            refine lv_lstore_n (lv' := [(1, .long 100000), (3, .int 4), (0, .int a0)]) hx hb dX10_wholeOf_14 rfl hl (by decide) rfl (fun ls hl => ?_)
            refine lv_iinc (v := 5) (lv' := [(3, .int 5), (1, .long 100000), (0, .int a0)]) hx hb dX10_wholeOf_15 hl (k := 1) rfl (by decide +kernel) (by decide) rfl (fun ls hl => ?_)
            refine lv_goto (tgt := 4) hx hb dX10_wholeOf_18 (by decide) ?_
            refine lv_iload_n hx hb dX10_wholeOf_4 rfl (lv_at hl 0 rfl) ?_
            refine lv_iload_n hx hb dX10_wholeOf_5 rfl (lv_at hl 2 rfl) ?_
            refine lv_icmp_ge (tgt := 21) hx hb dX10_wholeOf_6 (by decide) (fun c_16 => ?_) (fun c_16 => ?_)
            · have b_17 : iv 5 5 a0 := iv_e1 c_16 b_15 (iv_c (5 : Int32) (a := 5) (b := 5) (by decide)) (by decide)
              refine lv_lload_n hx hb dX10_wholeOf_21 rfl (lv_at hl 1 rfl) ?_
              exact fiL hx hb hr hlk hK hP hD hS dX10_wholeOf_22 (Nat.le_of_ble_eq_true rfl) (Nat.le_of_ble_eq_true rfl) (⟨(ivL_c (100000 : Int64) (by decide)), rfl⟩)
            · have b_18 : iv 6 7 a0 := iv_l2 (Int32.not_le.mp c_16) (iv_c (5 : Int32) (a := 5) (b := 5) (by decide)) b_15 (by decide)
              refine lv_lload_n hx hb dX10_wholeOf_9 rfl (lv_at hl 1 rfl) ?_
              refine lv_ldc2 (v := 10) hx hb hown (hg _ q_7_102) dX10_wholeOf_10 ?_
              refine lv_lmul hx hb dX10_wholeOf_13 ?_
              refine tpl (y := 1000000) (by decide +kernel) ?_
              refine lv_lstore_n (lv' := [(1, .long 1000000), (3, .int 5), (0, .int a0)]) hx hb dX10_wholeOf_14 rfl hl (by decide) rfl (fun ls hl => ?_)
              refine lv_iinc (v := 6) (lv' := [(3, .int 6), (1, .long 1000000), (0, .int a0)]) hx hb dX10_wholeOf_15 hl (k := 1) rfl (by decide +kernel) (by decide) rfl (fun ls hl => ?_)
              refine lv_goto (tgt := 4) hx hb dX10_wholeOf_18 (by decide) ?_
              refine lv_iload_n hx hb dX10_wholeOf_4 rfl (lv_at hl 0 rfl) ?_
              refine lv_iload_n hx hb dX10_wholeOf_5 rfl (lv_at hl 2 rfl) ?_
              refine lv_icmp_ge (tgt := 21) hx hb dX10_wholeOf_6 (by decide) (fun c_19 => ?_) (fun c_19 => ?_)
              · have b_20 : iv 6 6 a0 := iv_e1 c_19 b_18 (iv_c (6 : Int32) (a := 6) (b := 6) (by decide)) (by decide)
                refine lv_lload_n hx hb dX10_wholeOf_21 rfl (lv_at hl 1 rfl) ?_
                exact fiL hx hb hr hlk hK hP hD hS dX10_wholeOf_22 (Nat.le_of_ble_eq_true rfl) (Nat.le_of_ble_eq_true rfl) (⟨(ivL_c (1000000 : Int64) (by decide)), rfl⟩)
              · have b_21 : iv 7 7 a0 := iv_l2 (Int32.not_le.mp c_19) (iv_c (6 : Int32) (a := 6) (b := 6) (by decide)) b_18 (by decide)
                refine lv_lload_n hx hb dX10_wholeOf_9 rfl (lv_at hl 1 rfl) ?_
                refine lv_ldc2 (v := 10) hx hb hown (hg _ q_7_102) dX10_wholeOf_10 ?_
                refine lv_lmul hx hb dX10_wholeOf_13 ?_
                refine tpl (y := 10000000) (by decide +kernel) ?_
                refine lv_lstore_n (lv' := [(1, .long 10000000), (3, .int 6), (0, .int a0)]) hx hb dX10_wholeOf_14 rfl hl (by decide) rfl (fun ls hl => ?_)
                refine lv_iinc (v := 7) (lv' := [(3, .int 7), (1, .long 10000000), (0, .int a0)]) hx hb dX10_wholeOf_15 hl (k := 1) rfl (by decide +kernel) (by decide) rfl (fun ls hl => ?_)
                refine lv_goto (tgt := 4) hx hb dX10_wholeOf_18 (by decide) ?_
                refine lv_iload_n hx hb dX10_wholeOf_4 rfl (lv_at hl 0 rfl) ?_
                refine lv_iload_n hx hb dX10_wholeOf_5 rfl (lv_at hl 2 rfl) ?_
                refine lv_icmp_ge (tgt := 21) hx hb dX10_wholeOf_6 (by decide) (fun _ => ?_) (fun c_22 => absurd (iv_le b_21 (iv_c (7 : Int32) (a := 7) (b := 7) (by decide)) (by decide)) c_22)
                refine lv_lload_n hx hb dX10_wholeOf_21 rfl (lv_at hl 1 rfl) ?_
                exact fiL hx hb hr hlk hK hP hD hS dX10_wholeOf_22 (Nat.le_of_ble_eq_true rfl) (Nat.le_of_ble_eq_true rfl) (⟨(ivL_c (10000000 : Int64) (by decide)), rfl⟩)
theorem dX10_common_0 : decode cX10_common 0 = .ok (.lload_n 2, 1) := by decide +kernel
theorem dX10_common_1 : decode cX10_common 1 = .ok (.lconst 0, 1) := by decide +kernel
theorem dX10_common_2 : decode cX10_common 2 = .ok (.lcmp, 1) := by decide +kernel
theorem dX10_common_3 : decode cX10_common 3 = .ok (.ifCond .ne 7, 3) := by decide +kernel
theorem dX10_common_6 : decode cX10_common 6 = .ok (.lload_n 0, 1) := by decide +kernel
theorem dX10_common_7 : decode cX10_common 7 = .ok (.goto 10, 3) := by decide +kernel
theorem dX10_common_17 : decode cX10_common 17 = .ok (.lreturn, 1) := by decide +kernel
set_option maxHeartbeats 4000000 in
set_option maxRecDepth 100000 in
theorem k_X10_common_0 (l : Launch) (V : GV) (k0 : Int64) (k1 : Int64) (bk1 : ivL 0 0 k1) (hf0 : ¬ k0 = 0 ∨ ¬ k1 = 0) : Ct l V yX10_common (.code yX10_common cX10_common 4 (some .long)) 1 [.long k0, .long k1] [] 0 0 (QL V (fun (r : Int64) (w : va_W) => (¬ r = 0) ∧ w = [])) := by
  refine Ct.of (by decide) (Nat.le_of_ble_eq_true rfl) (fun p e s m below meth c A ls hx hb hr hml hown hlk hnm hg hP hK hD hE hA hS hl => ?_)
  have hl : lv_has ls 4 [(0, .long k0), (2, .long k1)] := hl
  refine lv_lload_n hx hb dX10_common_0 rfl (lv_at hl 1 rfl) ?_
  refine lv_lconst (v := 0) hx hb dX10_common_1 (by decide) ?_
  refine W.lcmp hx hb dX10_common_2 ?_
  refine lv_if_ne (tgt := 10) hx hb dX10_common_3 (by decide) (fun c_1 => absurd (ivL_eqp bk1 (ivL_c (0 : Int64) (a := 0) (b := 0) (by decide))) (fun z => c_1 ((lg_cmp_eq _ _).mpr z))) (fun _ => ?_)
  refine lv_lload_n hx hb dX10_common_6 rfl (lv_at hl 0 rfl) ?_
  refine lv_goto (tgt := 17) hx hb dX10_common_7 (by decide) ?_
  exact fiL hx hb hr hlk hK hP hD hS dX10_common_17 (Nat.le_of_ble_eq_true rfl) (Nat.le_of_ble_eq_true rfl) (⟨(hf0.elim id (fun q9 => absurd (ivL_eqp bk1 (ivL_c (0 : Int64) (by decide))) q9)), rfl⟩)
theorem dX10_common_10 : decode cX10_common 10 = .ok (.lload_n 2, 1) := by decide +kernel
theorem dX10_common_11 : decode cX10_common 11 = .ok (.lload_n 0, 1) := by decide +kernel
theorem dX10_common_12 : decode cX10_common 12 = .ok (.lload_n 2, 1) := by decide +kernel
theorem dX10_common_13 : decode cX10_common 13 = .ok (.lrem, 1) := by decide +kernel
theorem q_8_126 : Cond.code yX10_common prog_12_method_124_code 4 (some FieldType.long) ∈ gw := gw_8 (i := 126) (rfl) rfl
theorem q_8_125 : Cond.static yX10_common ∈ gw := gw_8 (i := 125) (by decide +kernel) rfl
theorem mt_X10_common : MtS yX10_common cX10_common 4 (some .long) 2 := ⟨⟨q_8_126, q_1_9, by decide +kernel, by decide +kernel, by decide +kernel⟩, q_8_125⟩
theorem q_8_124 : Cond.methodLink "BeaconDelayModel" 447 yX10_common ∈ gw := gw_8 (i := 124) (by decide +kernel) rfl
theorem dX10_common_14 : decode cX10_common 14 = .ok (.invokestatic 447, 3) := by decide +kernel
set_option maxHeartbeats 4000000 in
set_option maxRecDepth 100000 in
theorem k_X10_common_1 (l : Launch) (V : GV) (k0 : Int64) (k1 : Int64) (bk0 : ivL (-1) 1 k0) (hf0 : ¬ k0 = 0) (hf1 : (k1 : Int64).toInt.natAbs < (k0 : Int64).toInt.natAbs) : Ct l V yX10_common (.code yX10_common cX10_common 4 (some .long)) 2 [.long k0, .long k1] [] 0 0 (QL V (fun (r : Int64) (w : va_W) => (¬ r = 0) ∧ w = [])) := by
  refine Ct.of (by decide) (Nat.le_of_ble_eq_true rfl) (fun p e s m below meth c A ls hx hb hr hml hown hlk hnm hg hP hK hD hE hA hS hl => ?_)
  have hl : lv_has ls 4 [(0, .long k0), (2, .long k1)] := hl
  refine lv_lload_n hx hb dX10_common_0 rfl (lv_at hl 1 rfl) ?_
  refine lv_lconst (v := 0) hx hb dX10_common_1 (by decide) ?_
  refine W.lcmp hx hb dX10_common_2 ?_
  refine lv_if_ne (tgt := 10) hx hb dX10_common_3 (by decide) (fun c_1 => ?_) (fun c_1 => ?_)
  · replace c_1 : ¬ k1 = (0 : Int64) := fun z => c_1 ((lg_cmp_eq _ _).mpr z)
    refine lv_lload_n hx hb dX10_common_10 rfl (lv_at hl 1 rfl) ?_
    refine lv_lload_n hx hb dX10_common_11 rfl (lv_at hl 0 rfl) ?_
    refine lv_lload_n hx hb dX10_common_12 rfl (lv_at hl 1 rfl) ?_
    refine lv_lrem hx hb dX10_common_13 c_1 ?_
    refine lv_topl (fun j_2 ej_2 => ?_)
    have b_3 : ivL 0 0 j_2 := com_D (M := 1) (K := 0) ej_2 c_1 bk0 hf1 (by decide)
    refine jnL (wr := []) (rnS (rest := []) ⟨hx, hb, hml, hown, hg⟩ (k_X10_common_0 l V k1 j_2 b_3 (Or.inl c_1)) mt_X10_common q_8_124 ⟨Nat.le_of_ble_eq_true rfl, Nat.le_of_ble_eq_true rfl⟩ hK hP hD hS hA hE [] rfl rfl rfl hl.1 rfl (Nat.le_of_ble_eq_true rfl) dX10_common_14 ⟨Nat.le_of_ble_eq_true rfl, Nat.le_of_ble_eq_true rfl⟩) hP hD hS hA [] [] rfl rfl rfl (by decide) (fun r_4 w H locs hw hP hD hS => ?_)
    obtain ⟨g_5, rfl⟩ := hw
    have hP : va_P V.1 vwCl [] H := hP
    have hD : va_D A [] := hD
    exact fiL hx hb hr hlk hK hP hD hS dX10_common_17 (Nat.le_of_ble_eq_true rfl) (Nat.le_of_ble_eq_true rfl) (⟨g_5, rfl⟩)
  · replace c_1 : k1 = (0 : Int64) := (lg_cmp_eq _ _).mp c_1
    have b_6 : ivL 0 0 k1 := ivL_q c_1 (ivL_c (0 : Int64) (a := 0) (b := 0) (by decide))
    refine lv_lload_n hx hb dX10_common_6 rfl (lv_at hl 0 rfl) ?_
    refine lv_goto (tgt := 17) hx hb dX10_common_7 (by decide) ?_
    exact fiL hx hb hr hlk hK hP hD hS dX10_common_17 (Nat.le_of_ble_eq_true rfl) (Nat.le_of_ble_eq_true rfl) (⟨hf0, rfl⟩)
set_option maxHeartbeats 4000000 in
set_option maxRecDepth 100000 in
theorem k_X10_common_2 (l : Launch) (V : GV) (k0 : Int64) (k1 : Int64) (bk1 : ivL (-1) 1 k1) (hf0 : ¬ k0 = 0 ∨ ¬ k1 = 0) : Ct l V yX10_common (.code yX10_common cX10_common 4 (some .long)) 3 [.long k0, .long k1] [] 0 0 (QL V (fun (r : Int64) (w : va_W) => (¬ r = 0) ∧ w = [])) := by
  refine Ct.of (by decide) (Nat.le_of_ble_eq_true rfl) (fun p e s m below meth c A ls hx hb hr hml hown hlk hnm hg hP hK hD hE hA hS hl => ?_)
  have hl : lv_has ls 4 [(0, .long k0), (2, .long k1)] := hl
  refine lv_lload_n hx hb dX10_common_0 rfl (lv_at hl 1 rfl) ?_
  refine lv_lconst (v := 0) hx hb dX10_common_1 (by decide) ?_
  refine W.lcmp hx hb dX10_common_2 ?_
  refine lv_if_ne (tgt := 10) hx hb dX10_common_3 (by decide) (fun c_1 => ?_) (fun c_1 => ?_)
  · replace c_1 : ¬ k1 = (0 : Int64) := fun z => c_1 ((lg_cmp_eq _ _).mpr z)
    refine lv_lload_n hx hb dX10_common_10 rfl (lv_at hl 1 rfl) ?_
    refine lv_lload_n hx hb dX10_common_11 rfl (lv_at hl 0 rfl) ?_
    refine lv_lload_n hx hb dX10_common_12 rfl (lv_at hl 1 rfl) ?_
    refine lv_lrem hx hb dX10_common_13 c_1 ?_
    refine lv_topl (fun j_2 ej_2 => ?_)
    refine jnL (wr := []) (rnS (rest := []) ⟨hx, hb, hml, hown, hg⟩ (k_X10_common_1 l V k1 j_2 bk1 c_1 (com_C ej_2 c_1)) mt_X10_common q_8_124 ⟨Nat.le_of_ble_eq_true rfl, Nat.le_of_ble_eq_true rfl⟩ hK hP hD hS hA hE [] rfl rfl rfl hl.1 rfl (Nat.le_of_ble_eq_true rfl) dX10_common_14 ⟨Nat.le_of_ble_eq_true rfl, Nat.le_of_ble_eq_true rfl⟩) hP hD hS hA [] [] rfl rfl rfl (by decide) (fun r_3 w H locs hw hP hD hS => ?_)
    obtain ⟨g_4, rfl⟩ := hw
    have hP : va_P V.1 vwCl [] H := hP
    have hD : va_D A [] := hD
    exact fiL hx hb hr hlk hK hP hD hS dX10_common_17 (Nat.le_of_ble_eq_true rfl) (Nat.le_of_ble_eq_true rfl) (⟨g_4, rfl⟩)
  · replace c_1 : k1 = (0 : Int64) := (lg_cmp_eq _ _).mp c_1
    have b_5 : ivL 0 0 k1 := ivL_q c_1 (ivL_c (0 : Int64) (a := 0) (b := 0) (by decide))
    refine lv_lload_n hx hb dX10_common_6 rfl (lv_at hl 0 rfl) ?_
    refine lv_goto (tgt := 17) hx hb dX10_common_7 (by decide) ?_
    exact fiL hx hb hr hlk hK hP hD hS dX10_common_17 (Nat.le_of_ble_eq_true rfl) (Nat.le_of_ble_eq_true rfl) (⟨(hf0.elim id (fun q9 => absurd c_1 q9)), rfl⟩)
set_option maxHeartbeats 4000000 in
set_option maxRecDepth 100000 in
theorem k_X10_common_3 (l : Launch) (V : GV) (k0 : Int64) (k1 : Int64) (bk0 : ivL (-3) 3 k0) (hf0 : ¬ k0 = 0) (hf1 : (k1 : Int64).toInt.natAbs < (k0 : Int64).toInt.natAbs) : Ct l V yX10_common (.code yX10_common cX10_common 4 (some .long)) 4 [.long k0, .long k1] [] 0 0 (QL V (fun (r : Int64) (w : va_W) => (¬ r = 0) ∧ w = [])) := by
  refine Ct.of (by decide) (Nat.le_of_ble_eq_true rfl) (fun p e s m below meth c A ls hx hb hr hml hown hlk hnm hg hP hK hD hE hA hS hl => ?_)
  have hl : lv_has ls 4 [(0, .long k0), (2, .long k1)] := hl
  refine lv_lload_n hx hb dX10_common_0 rfl (lv_at hl 1 rfl) ?_
  refine lv_lconst (v := 0) hx hb dX10_common_1 (by decide) ?_
  refine W.lcmp hx hb dX10_common_2 ?_
  refine lv_if_ne (tgt := 10) hx hb dX10_common_3 (by decide) (fun c_1 => ?_) (fun c_1 => ?_)
  · replace c_1 : ¬ k1 = (0 : Int64) := fun z => c_1 ((lg_cmp_eq _ _).mpr z)
    refine lv_lload_n hx hb dX10_common_10 rfl (lv_at hl 1 rfl) ?_
    refine lv_lload_n hx hb dX10_common_11 rfl (lv_at hl 0 rfl) ?_
    refine lv_lload_n hx hb dX10_common_12 rfl (lv_at hl 1 rfl) ?_
    refine lv_lrem hx hb dX10_common_13 c_1 ?_
    refine lv_topl (fun j_2 ej_2 => ?_)
    have b_3 : ivL (-1) 1 j_2 := com_D (M := 3) (K := 1) ej_2 c_1 bk0 hf1 (by decide)
    refine jnL (wr := []) (rnS (rest := []) ⟨hx, hb, hml, hown, hg⟩ (k_X10_common_2 l V k1 j_2 b_3 (Or.inl c_1)) mt_X10_common q_8_124 ⟨Nat.le_of_ble_eq_true rfl, Nat.le_of_ble_eq_true rfl⟩ hK hP hD hS hA hE [] rfl rfl rfl hl.1 rfl (Nat.le_of_ble_eq_true rfl) dX10_common_14 ⟨Nat.le_of_ble_eq_true rfl, Nat.le_of_ble_eq_true rfl⟩) hP hD hS hA [] [] rfl rfl rfl (by decide) (fun r_4 w H locs hw hP hD hS => ?_)
    obtain ⟨g_5, rfl⟩ := hw
    have hP : va_P V.1 vwCl [] H := hP
    have hD : va_D A [] := hD
    exact fiL hx hb hr hlk hK hP hD hS dX10_common_17 (Nat.le_of_ble_eq_true rfl) (Nat.le_of_ble_eq_true rfl) (⟨g_5, rfl⟩)
  · replace c_1 : k1 = (0 : Int64) := (lg_cmp_eq _ _).mp c_1
    have b_6 : ivL 0 0 k1 := ivL_q c_1 (ivL_c (0 : Int64) (a := 0) (b := 0) (by decide))
    refine lv_lload_n hx hb dX10_common_6 rfl (lv_at hl 0 rfl) ?_
    refine lv_goto (tgt := 17) hx hb dX10_common_7 (by decide) ?_
    exact fiL hx hb hr hlk hK hP hD hS dX10_common_17 (Nat.le_of_ble_eq_true rfl) (Nat.le_of_ble_eq_true rfl) (⟨hf0, rfl⟩)
set_option maxHeartbeats 4000000 in
set_option maxRecDepth 100000 in
theorem k_X10_common_4 (l : Launch) (V : GV) (k0 : Int64) (k1 : Int64) (bk1 : ivL (-3) 3 k1) (hf0 : ¬ k0 = 0 ∨ ¬ k1 = 0) : Ct l V yX10_common (.code yX10_common cX10_common 4 (some .long)) 5 [.long k0, .long k1] [] 0 0 (QL V (fun (r : Int64) (w : va_W) => (¬ r = 0) ∧ w = [])) := by
  refine Ct.of (by decide) (Nat.le_of_ble_eq_true rfl) (fun p e s m below meth c A ls hx hb hr hml hown hlk hnm hg hP hK hD hE hA hS hl => ?_)
  have hl : lv_has ls 4 [(0, .long k0), (2, .long k1)] := hl
  refine lv_lload_n hx hb dX10_common_0 rfl (lv_at hl 1 rfl) ?_
  refine lv_lconst (v := 0) hx hb dX10_common_1 (by decide) ?_
  refine W.lcmp hx hb dX10_common_2 ?_
  refine lv_if_ne (tgt := 10) hx hb dX10_common_3 (by decide) (fun c_1 => ?_) (fun c_1 => ?_)
  · replace c_1 : ¬ k1 = (0 : Int64) := fun z => c_1 ((lg_cmp_eq _ _).mpr z)
    refine lv_lload_n hx hb dX10_common_10 rfl (lv_at hl 1 rfl) ?_
    refine lv_lload_n hx hb dX10_common_11 rfl (lv_at hl 0 rfl) ?_
    refine lv_lload_n hx hb dX10_common_12 rfl (lv_at hl 1 rfl) ?_
    refine lv_lrem hx hb dX10_common_13 c_1 ?_
    refine lv_topl (fun j_2 ej_2 => ?_)
    refine jnL (wr := []) (rnS (rest := []) ⟨hx, hb, hml, hown, hg⟩ (k_X10_common_3 l V k1 j_2 bk1 c_1 (com_C ej_2 c_1)) mt_X10_common q_8_124 ⟨Nat.le_of_ble_eq_true rfl, Nat.le_of_ble_eq_true rfl⟩ hK hP hD hS hA hE [] rfl rfl rfl hl.1 rfl (Nat.le_of_ble_eq_true rfl) dX10_common_14 ⟨Nat.le_of_ble_eq_true rfl, Nat.le_of_ble_eq_true rfl⟩) hP hD hS hA [] [] rfl rfl rfl (by decide) (fun r_3 w H locs hw hP hD hS => ?_)
    obtain ⟨g_4, rfl⟩ := hw
    have hP : va_P V.1 vwCl [] H := hP
    have hD : va_D A [] := hD
    exact fiL hx hb hr hlk hK hP hD hS dX10_common_17 (Nat.le_of_ble_eq_true rfl) (Nat.le_of_ble_eq_true rfl) (⟨g_4, rfl⟩)
  · replace c_1 : k1 = (0 : Int64) := (lg_cmp_eq _ _).mp c_1
    have b_5 : ivL 0 0 k1 := ivL_q c_1 (ivL_c (0 : Int64) (a := 0) (b := 0) (by decide))
    refine lv_lload_n hx hb dX10_common_6 rfl (lv_at hl 0 rfl) ?_
    refine lv_goto (tgt := 17) hx hb dX10_common_7 (by decide) ?_
    exact fiL hx hb hr hlk hK hP hD hS dX10_common_17 (Nat.le_of_ble_eq_true rfl) (Nat.le_of_ble_eq_true rfl) (⟨(hf0.elim id (fun q9 => absurd c_1 q9)), rfl⟩)
set_option maxHeartbeats 4000000 in
set_option maxRecDepth 100000 in
theorem k_X10_common_5 (l : Launch) (V : GV) (k0 : Int64) (k1 : Int64) (bk0 : ivL (-7) 7 k0) (hf0 : ¬ k0 = 0) (hf1 : (k1 : Int64).toInt.natAbs < (k0 : Int64).toInt.natAbs) : Ct l V yX10_common (.code yX10_common cX10_common 4 (some .long)) 6 [.long k0, .long k1] [] 0 0 (QL V (fun (r : Int64) (w : va_W) => (¬ r = 0) ∧ w = [])) := by
  refine Ct.of (by decide) (Nat.le_of_ble_eq_true rfl) (fun p e s m below meth c A ls hx hb hr hml hown hlk hnm hg hP hK hD hE hA hS hl => ?_)
  have hl : lv_has ls 4 [(0, .long k0), (2, .long k1)] := hl
  refine lv_lload_n hx hb dX10_common_0 rfl (lv_at hl 1 rfl) ?_
  refine lv_lconst (v := 0) hx hb dX10_common_1 (by decide) ?_
  refine W.lcmp hx hb dX10_common_2 ?_
  refine lv_if_ne (tgt := 10) hx hb dX10_common_3 (by decide) (fun c_1 => ?_) (fun c_1 => ?_)
  · replace c_1 : ¬ k1 = (0 : Int64) := fun z => c_1 ((lg_cmp_eq _ _).mpr z)
    refine lv_lload_n hx hb dX10_common_10 rfl (lv_at hl 1 rfl) ?_
    refine lv_lload_n hx hb dX10_common_11 rfl (lv_at hl 0 rfl) ?_
    refine lv_lload_n hx hb dX10_common_12 rfl (lv_at hl 1 rfl) ?_
    refine lv_lrem hx hb dX10_common_13 c_1 ?_
    refine lv_topl (fun j_2 ej_2 => ?_)
    have b_3 : ivL (-3) 3 j_2 := com_D (M := 7) (K := 3) ej_2 c_1 bk0 hf1 (by decide)
    refine jnL (wr := []) (rnS (rest := []) ⟨hx, hb, hml, hown, hg⟩ (k_X10_common_4 l V k1 j_2 b_3 (Or.inl c_1)) mt_X10_common q_8_124 ⟨Nat.le_of_ble_eq_true rfl, Nat.le_of_ble_eq_true rfl⟩ hK hP hD hS hA hE [] rfl rfl rfl hl.1 rfl (Nat.le_of_ble_eq_true rfl) dX10_common_14 ⟨Nat.le_of_ble_eq_true rfl, Nat.le_of_ble_eq_true rfl⟩) hP hD hS hA [] [] rfl rfl rfl (by decide) (fun r_4 w H locs hw hP hD hS => ?_)
    obtain ⟨g_5, rfl⟩ := hw
    have hP : va_P V.1 vwCl [] H := hP
    have hD : va_D A [] := hD
    exact fiL hx hb hr hlk hK hP hD hS dX10_common_17 (Nat.le_of_ble_eq_true rfl) (Nat.le_of_ble_eq_true rfl) (⟨g_5, rfl⟩)
  · replace c_1 : k1 = (0 : Int64) := (lg_cmp_eq _ _).mp c_1
    have b_6 : ivL 0 0 k1 := ivL_q c_1 (ivL_c (0 : Int64) (a := 0) (b := 0) (by decide))
    refine lv_lload_n hx hb dX10_common_6 rfl (lv_at hl 0 rfl) ?_
    refine lv_goto (tgt := 17) hx hb dX10_common_7 (by decide) ?_
    exact fiL hx hb hr hlk hK hP hD hS dX10_common_17 (Nat.le_of_ble_eq_true rfl) (Nat.le_of_ble_eq_true rfl) (⟨hf0, rfl⟩)
set_option maxHeartbeats 4000000 in
set_option maxRecDepth 100000 in
theorem k_X10_common_6 (l : Launch) (V : GV) (k0 : Int64) (k1 : Int64) (bk1 : ivL (-7) 7 k1) (hf0 : ¬ k0 = 0 ∨ ¬ k1 = 0) : Ct l V yX10_common (.code yX10_common cX10_common 4 (some .long)) 7 [.long k0, .long k1] [] 0 0 (QL V (fun (r : Int64) (w : va_W) => (¬ r = 0) ∧ w = [])) := by
  refine Ct.of (by decide) (Nat.le_of_ble_eq_true rfl) (fun p e s m below meth c A ls hx hb hr hml hown hlk hnm hg hP hK hD hE hA hS hl => ?_)
  have hl : lv_has ls 4 [(0, .long k0), (2, .long k1)] := hl
  refine lv_lload_n hx hb dX10_common_0 rfl (lv_at hl 1 rfl) ?_
  refine lv_lconst (v := 0) hx hb dX10_common_1 (by decide) ?_
  refine W.lcmp hx hb dX10_common_2 ?_
  refine lv_if_ne (tgt := 10) hx hb dX10_common_3 (by decide) (fun c_1 => ?_) (fun c_1 => ?_)
  · replace c_1 : ¬ k1 = (0 : Int64) := fun z => c_1 ((lg_cmp_eq _ _).mpr z)
    refine lv_lload_n hx hb dX10_common_10 rfl (lv_at hl 1 rfl) ?_
    refine lv_lload_n hx hb dX10_common_11 rfl (lv_at hl 0 rfl) ?_
    refine lv_lload_n hx hb dX10_common_12 rfl (lv_at hl 1 rfl) ?_
    refine lv_lrem hx hb dX10_common_13 c_1 ?_
    refine lv_topl (fun j_2 ej_2 => ?_)
    refine jnL (wr := []) (rnS (rest := []) ⟨hx, hb, hml, hown, hg⟩ (k_X10_common_5 l V k1 j_2 bk1 c_1 (com_C ej_2 c_1)) mt_X10_common q_8_124 ⟨Nat.le_of_ble_eq_true rfl, Nat.le_of_ble_eq_true rfl⟩ hK hP hD hS hA hE [] rfl rfl rfl hl.1 rfl (Nat.le_of_ble_eq_true rfl) dX10_common_14 ⟨Nat.le_of_ble_eq_true rfl, Nat.le_of_ble_eq_true rfl⟩) hP hD hS hA [] [] rfl rfl rfl (by decide) (fun r_3 w H locs hw hP hD hS => ?_)
    obtain ⟨g_4, rfl⟩ := hw
    have hP : va_P V.1 vwCl [] H := hP
    have hD : va_D A [] := hD
    exact fiL hx hb hr hlk hK hP hD hS dX10_common_17 (Nat.le_of_ble_eq_true rfl) (Nat.le_of_ble_eq_true rfl) (⟨g_4, rfl⟩)
  · replace c_1 : k1 = (0 : Int64) := (lg_cmp_eq _ _).mp c_1
    have b_5 : ivL 0 0 k1 := ivL_q c_1 (ivL_c (0 : Int64) (a := 0) (b := 0) (by decide))
    refine lv_lload_n hx hb dX10_common_6 rfl (lv_at hl 0 rfl) ?_
    refine lv_goto (tgt := 17) hx hb dX10_common_7 (by decide) ?_
    exact fiL hx hb hr hlk hK hP hD hS dX10_common_17 (Nat.le_of_ble_eq_true rfl) (Nat.le_of_ble_eq_true rfl) (⟨(hf0.elim id (fun q9 => absurd c_1 q9)), rfl⟩)
set_option maxHeartbeats 4000000 in
set_option maxRecDepth 100000 in
theorem k_X10_common_7 (l : Launch) (V : GV) (k0 : Int64) (k1 : Int64) (bk0 : ivL (-15) 15 k0) (hf0 : ¬ k0 = 0) (hf1 : (k1 : Int64).toInt.natAbs < (k0 : Int64).toInt.natAbs) : Ct l V yX10_common (.code yX10_common cX10_common 4 (some .long)) 8 [.long k0, .long k1] [] 0 0 (QL V (fun (r : Int64) (w : va_W) => (¬ r = 0) ∧ w = [])) := by
  refine Ct.of (by decide) (Nat.le_of_ble_eq_true rfl) (fun p e s m below meth c A ls hx hb hr hml hown hlk hnm hg hP hK hD hE hA hS hl => ?_)
  have hl : lv_has ls 4 [(0, .long k0), (2, .long k1)] := hl
  refine lv_lload_n hx hb dX10_common_0 rfl (lv_at hl 1 rfl) ?_
  refine lv_lconst (v := 0) hx hb dX10_common_1 (by decide) ?_
  refine W.lcmp hx hb dX10_common_2 ?_
  refine lv_if_ne (tgt := 10) hx hb dX10_common_3 (by decide) (fun c_1 => ?_) (fun c_1 => ?_)
  · replace c_1 : ¬ k1 = (0 : Int64) := fun z => c_1 ((lg_cmp_eq _ _).mpr z)
    refine lv_lload_n hx hb dX10_common_10 rfl (lv_at hl 1 rfl) ?_
    refine lv_lload_n hx hb dX10_common_11 rfl (lv_at hl 0 rfl) ?_
    refine lv_lload_n hx hb dX10_common_12 rfl (lv_at hl 1 rfl) ?_
    refine lv_lrem hx hb dX10_common_13 c_1 ?_
    refine lv_topl (fun j_2 ej_2 => ?_)
    have b_3 : ivL (-7) 7 j_2 := com_D (M := 15) (K := 7) ej_2 c_1 bk0 hf1 (by decide)
    refine jnL (wr := []) (rnS (rest := []) ⟨hx, hb, hml, hown, hg⟩ (k_X10_common_6 l V k1 j_2 b_3 (Or.inl c_1)) mt_X10_common q_8_124 ⟨Nat.le_of_ble_eq_true rfl, Nat.le_of_ble_eq_true rfl⟩ hK hP hD hS hA hE [] rfl rfl rfl hl.1 rfl (Nat.le_of_ble_eq_true rfl) dX10_common_14 ⟨Nat.le_of_ble_eq_true rfl, Nat.le_of_ble_eq_true rfl⟩) hP hD hS hA [] [] rfl rfl rfl (by decide) (fun r_4 w H locs hw hP hD hS => ?_)
    obtain ⟨g_5, rfl⟩ := hw
    have hP : va_P V.1 vwCl [] H := hP
    have hD : va_D A [] := hD
    exact fiL hx hb hr hlk hK hP hD hS dX10_common_17 (Nat.le_of_ble_eq_true rfl) (Nat.le_of_ble_eq_true rfl) (⟨g_5, rfl⟩)
  · replace c_1 : k1 = (0 : Int64) := (lg_cmp_eq _ _).mp c_1
    have b_6 : ivL 0 0 k1 := ivL_q c_1 (ivL_c (0 : Int64) (a := 0) (b := 0) (by decide))
    refine lv_lload_n hx hb dX10_common_6 rfl (lv_at hl 0 rfl) ?_
    refine lv_goto (tgt := 17) hx hb dX10_common_7 (by decide) ?_
    exact fiL hx hb hr hlk hK hP hD hS dX10_common_17 (Nat.le_of_ble_eq_true rfl) (Nat.le_of_ble_eq_true rfl) (⟨hf0, rfl⟩)
set_option maxHeartbeats 4000000 in
set_option maxRecDepth 100000 in
theorem k_X10_common_8 (l : Launch) (V : GV) (k0 : Int64) (k1 : Int64) (bk1 : ivL (-15) 15 k1) (hf0 : ¬ k0 = 0 ∨ ¬ k1 = 0) : Ct l V yX10_common (.code yX10_common cX10_common 4 (some .long)) 9 [.long k0, .long k1] [] 0 0 (QL V (fun (r : Int64) (w : va_W) => (¬ r = 0) ∧ w = [])) := by
  refine Ct.of (by decide) (Nat.le_of_ble_eq_true rfl) (fun p e s m below meth c A ls hx hb hr hml hown hlk hnm hg hP hK hD hE hA hS hl => ?_)
  have hl : lv_has ls 4 [(0, .long k0), (2, .long k1)] := hl
  refine lv_lload_n hx hb dX10_common_0 rfl (lv_at hl 1 rfl) ?_
  refine lv_lconst (v := 0) hx hb dX10_common_1 (by decide) ?_
  refine W.lcmp hx hb dX10_common_2 ?_
  refine lv_if_ne (tgt := 10) hx hb dX10_common_3 (by decide) (fun c_1 => ?_) (fun c_1 => ?_)
  · replace c_1 : ¬ k1 = (0 : Int64) := fun z => c_1 ((lg_cmp_eq _ _).mpr z)
    refine lv_lload_n hx hb dX10_common_10 rfl (lv_at hl 1 rfl) ?_
    refine lv_lload_n hx hb dX10_common_11 rfl (lv_at hl 0 rfl) ?_
    refine lv_lload_n hx hb dX10_common_12 rfl (lv_at hl 1 rfl) ?_
    refine lv_lrem hx hb dX10_common_13 c_1 ?_
    refine lv_topl (fun j_2 ej_2 => ?_)
    refine jnL (wr := []) (rnS (rest := []) ⟨hx, hb, hml, hown, hg⟩ (k_X10_common_7 l V k1 j_2 bk1 c_1 (com_C ej_2 c_1)) mt_X10_common q_8_124 ⟨Nat.le_of_ble_eq_true rfl, Nat.le_of_ble_eq_true rfl⟩ hK hP hD hS hA hE [] rfl rfl rfl hl.1 rfl (Nat.le_of_ble_eq_true rfl) dX10_common_14 ⟨Nat.le_of_ble_eq_true rfl, Nat.le_of_ble_eq_true rfl⟩) hP hD hS hA [] [] rfl rfl rfl (by decide) (fun r_3 w H locs hw hP hD hS => ?_)
    obtain ⟨g_4, rfl⟩ := hw
    have hP : va_P V.1 vwCl [] H := hP
    have hD : va_D A [] := hD
    exact fiL hx hb hr hlk hK hP hD hS dX10_common_17 (Nat.le_of_ble_eq_true rfl) (Nat.le_of_ble_eq_true rfl) (⟨g_4, rfl⟩)
  · replace c_1 : k1 = (0 : Int64) := (lg_cmp_eq _ _).mp c_1
    have b_5 : ivL 0 0 k1 := ivL_q c_1 (ivL_c (0 : Int64) (a := 0) (b := 0) (by decide))
    refine lv_lload_n hx hb dX10_common_6 rfl (lv_at hl 0 rfl) ?_
    refine lv_goto (tgt := 17) hx hb dX10_common_7 (by decide) ?_
    exact fiL hx hb hr hlk hK hP hD hS dX10_common_17 (Nat.le_of_ble_eq_true rfl) (Nat.le_of_ble_eq_true rfl) (⟨(hf0.elim id (fun q9 => absurd c_1 q9)), rfl⟩)
set_option maxHeartbeats 4000000 in
set_option maxRecDepth 100000 in
theorem k_X10_common_9 (l : Launch) (V : GV) (k0 : Int64) (k1 : Int64) (bk0 : ivL (-31) 31 k0) (hf0 : ¬ k0 = 0) (hf1 : (k1 : Int64).toInt.natAbs < (k0 : Int64).toInt.natAbs) : Ct l V yX10_common (.code yX10_common cX10_common 4 (some .long)) 10 [.long k0, .long k1] [] 0 0 (QL V (fun (r : Int64) (w : va_W) => (¬ r = 0) ∧ w = [])) := by
  refine Ct.of (by decide) (Nat.le_of_ble_eq_true rfl) (fun p e s m below meth c A ls hx hb hr hml hown hlk hnm hg hP hK hD hE hA hS hl => ?_)
  have hl : lv_has ls 4 [(0, .long k0), (2, .long k1)] := hl
  refine lv_lload_n hx hb dX10_common_0 rfl (lv_at hl 1 rfl) ?_
  refine lv_lconst (v := 0) hx hb dX10_common_1 (by decide) ?_
  refine W.lcmp hx hb dX10_common_2 ?_
  refine lv_if_ne (tgt := 10) hx hb dX10_common_3 (by decide) (fun c_1 => ?_) (fun c_1 => ?_)
  · replace c_1 : ¬ k1 = (0 : Int64) := fun z => c_1 ((lg_cmp_eq _ _).mpr z)
    refine lv_lload_n hx hb dX10_common_10 rfl (lv_at hl 1 rfl) ?_
    refine lv_lload_n hx hb dX10_common_11 rfl (lv_at hl 0 rfl) ?_
    refine lv_lload_n hx hb dX10_common_12 rfl (lv_at hl 1 rfl) ?_
    refine lv_lrem hx hb dX10_common_13 c_1 ?_
    refine lv_topl (fun j_2 ej_2 => ?_)
    have b_3 : ivL (-15) 15 j_2 := com_D (M := 31) (K := 15) ej_2 c_1 bk0 hf1 (by decide)
    refine jnL (wr := []) (rnS (rest := []) ⟨hx, hb, hml, hown, hg⟩ (k_X10_common_8 l V k1 j_2 b_3 (Or.inl c_1)) mt_X10_common q_8_124 ⟨Nat.le_of_ble_eq_true rfl, Nat.le_of_ble_eq_true rfl⟩ hK hP hD hS hA hE [] rfl rfl rfl hl.1 rfl (Nat.le_of_ble_eq_true rfl) dX10_common_14 ⟨Nat.le_of_ble_eq_true rfl, Nat.le_of_ble_eq_true rfl⟩) hP hD hS hA [] [] rfl rfl rfl (by decide) (fun r_4 w H locs hw hP hD hS => ?_)
    obtain ⟨g_5, rfl⟩ := hw
    have hP : va_P V.1 vwCl [] H := hP
    have hD : va_D A [] := hD
    exact fiL hx hb hr hlk hK hP hD hS dX10_common_17 (Nat.le_of_ble_eq_true rfl) (Nat.le_of_ble_eq_true rfl) (⟨g_5, rfl⟩)
  · replace c_1 : k1 = (0 : Int64) := (lg_cmp_eq _ _).mp c_1
    have b_6 : ivL 0 0 k1 := ivL_q c_1 (ivL_c (0 : Int64) (a := 0) (b := 0) (by decide))
    refine lv_lload_n hx hb dX10_common_6 rfl (lv_at hl 0 rfl) ?_
    refine lv_goto (tgt := 17) hx hb dX10_common_7 (by decide) ?_
    exact fiL hx hb hr hlk hK hP hD hS dX10_common_17 (Nat.le_of_ble_eq_true rfl) (Nat.le_of_ble_eq_true rfl) (⟨hf0, rfl⟩)
set_option maxHeartbeats 4000000 in
set_option maxRecDepth 100000 in
theorem k_X10_common_10 (l : Launch) (V : GV) (k0 : Int64) (k1 : Int64) (bk1 : ivL (-31) 31 k1) (hf0 : ¬ k0 = 0 ∨ ¬ k1 = 0) : Ct l V yX10_common (.code yX10_common cX10_common 4 (some .long)) 11 [.long k0, .long k1] [] 0 0 (QL V (fun (r : Int64) (w : va_W) => (¬ r = 0) ∧ w = [])) := by
  refine Ct.of (by decide) (Nat.le_of_ble_eq_true rfl) (fun p e s m below meth c A ls hx hb hr hml hown hlk hnm hg hP hK hD hE hA hS hl => ?_)
  have hl : lv_has ls 4 [(0, .long k0), (2, .long k1)] := hl
  refine lv_lload_n hx hb dX10_common_0 rfl (lv_at hl 1 rfl) ?_
  refine lv_lconst (v := 0) hx hb dX10_common_1 (by decide) ?_
  refine W.lcmp hx hb dX10_common_2 ?_
  refine lv_if_ne (tgt := 10) hx hb dX10_common_3 (by decide) (fun c_1 => ?_) (fun c_1 => ?_)
  · replace c_1 : ¬ k1 = (0 : Int64) := fun z => c_1 ((lg_cmp_eq _ _).mpr z)
    refine lv_lload_n hx hb dX10_common_10 rfl (lv_at hl 1 rfl) ?_
    refine lv_lload_n hx hb dX10_common_11 rfl (lv_at hl 0 rfl) ?_
    refine lv_lload_n hx hb dX10_common_12 rfl (lv_at hl 1 rfl) ?_
    refine lv_lrem hx hb dX10_common_13 c_1 ?_
    refine lv_topl (fun j_2 ej_2 => ?_)
    refine jnL (wr := []) (rnS (rest := []) ⟨hx, hb, hml, hown, hg⟩ (k_X10_common_9 l V k1 j_2 bk1 c_1 (com_C ej_2 c_1)) mt_X10_common q_8_124 ⟨Nat.le_of_ble_eq_true rfl, Nat.le_of_ble_eq_true rfl⟩ hK hP hD hS hA hE [] rfl rfl rfl hl.1 rfl (Nat.le_of_ble_eq_true rfl) dX10_common_14 ⟨Nat.le_of_ble_eq_true rfl, Nat.le_of_ble_eq_true rfl⟩) hP hD hS hA [] [] rfl rfl rfl (by decide) (fun r_3 w H locs hw hP hD hS => ?_)
    obtain ⟨g_4, rfl⟩ := hw
    have hP : va_P V.1 vwCl [] H := hP
    have hD : va_D A [] := hD
    exact fiL hx hb hr hlk hK hP hD hS dX10_common_17 (Nat.le_of_ble_eq_true rfl) (Nat.le_of_ble_eq_true rfl) (⟨g_4, rfl⟩)
  · replace c_1 : k1 = (0 : Int64) := (lg_cmp_eq _ _).mp c_1
    have b_5 : ivL 0 0 k1 := ivL_q c_1 (ivL_c (0 : Int64) (a := 0) (b := 0) (by decide))
    refine lv_lload_n hx hb dX10_common_6 rfl (lv_at hl 0 rfl) ?_
    refine lv_goto (tgt := 17) hx hb dX10_common_7 (by decide) ?_
    exact fiL hx hb hr hlk hK hP hD hS dX10_common_17 (Nat.le_of_ble_eq_true rfl) (Nat.le_of_ble_eq_true rfl) (⟨(hf0.elim id (fun q9 => absurd c_1 q9)), rfl⟩)
set_option maxHeartbeats 4000000 in
set_option maxRecDepth 100000 in
theorem k_X10_common_11 (l : Launch) (V : GV) (k0 : Int64) (k1 : Int64) (bk0 : ivL (-63) 63 k0) (hf0 : ¬ k0 = 0) (hf1 : (k1 : Int64).toInt.natAbs < (k0 : Int64).toInt.natAbs) : Ct l V yX10_common (.code yX10_common cX10_common 4 (some .long)) 12 [.long k0, .long k1] [] 0 0 (QL V (fun (r : Int64) (w : va_W) => (¬ r = 0) ∧ w = [])) := by
  refine Ct.of (by decide) (Nat.le_of_ble_eq_true rfl) (fun p e s m below meth c A ls hx hb hr hml hown hlk hnm hg hP hK hD hE hA hS hl => ?_)
  have hl : lv_has ls 4 [(0, .long k0), (2, .long k1)] := hl
  refine lv_lload_n hx hb dX10_common_0 rfl (lv_at hl 1 rfl) ?_
  refine lv_lconst (v := 0) hx hb dX10_common_1 (by decide) ?_
  refine W.lcmp hx hb dX10_common_2 ?_
  refine lv_if_ne (tgt := 10) hx hb dX10_common_3 (by decide) (fun c_1 => ?_) (fun c_1 => ?_)
  · replace c_1 : ¬ k1 = (0 : Int64) := fun z => c_1 ((lg_cmp_eq _ _).mpr z)
    refine lv_lload_n hx hb dX10_common_10 rfl (lv_at hl 1 rfl) ?_
    refine lv_lload_n hx hb dX10_common_11 rfl (lv_at hl 0 rfl) ?_
    refine lv_lload_n hx hb dX10_common_12 rfl (lv_at hl 1 rfl) ?_
    refine lv_lrem hx hb dX10_common_13 c_1 ?_
    refine lv_topl (fun j_2 ej_2 => ?_)
    have b_3 : ivL (-31) 31 j_2 := com_D (M := 63) (K := 31) ej_2 c_1 bk0 hf1 (by decide)
    refine jnL (wr := []) (rnS (rest := []) ⟨hx, hb, hml, hown, hg⟩ (k_X10_common_10 l V k1 j_2 b_3 (Or.inl c_1)) mt_X10_common q_8_124 ⟨Nat.le_of_ble_eq_true rfl, Nat.le_of_ble_eq_true rfl⟩ hK hP hD hS hA hE [] rfl rfl rfl hl.1 rfl (Nat.le_of_ble_eq_true rfl) dX10_common_14 ⟨Nat.le_of_ble_eq_true rfl, Nat.le_of_ble_eq_true rfl⟩) hP hD hS hA [] [] rfl rfl rfl (by decide) (fun r_4 w H locs hw hP hD hS => ?_)
    obtain ⟨g_5, rfl⟩ := hw
    have hP : va_P V.1 vwCl [] H := hP
    have hD : va_D A [] := hD
    exact fiL hx hb hr hlk hK hP hD hS dX10_common_17 (Nat.le_of_ble_eq_true rfl) (Nat.le_of_ble_eq_true rfl) (⟨g_5, rfl⟩)
  · replace c_1 : k1 = (0 : Int64) := (lg_cmp_eq _ _).mp c_1
    have b_6 : ivL 0 0 k1 := ivL_q c_1 (ivL_c (0 : Int64) (a := 0) (b := 0) (by decide))
    refine lv_lload_n hx hb dX10_common_6 rfl (lv_at hl 0 rfl) ?_
    refine lv_goto (tgt := 17) hx hb dX10_common_7 (by decide) ?_
    exact fiL hx hb hr hlk hK hP hD hS dX10_common_17 (Nat.le_of_ble_eq_true rfl) (Nat.le_of_ble_eq_true rfl) (⟨hf0, rfl⟩)
set_option maxHeartbeats 4000000 in
set_option maxRecDepth 100000 in
theorem k_X10_common_12 (l : Launch) (V : GV) (k0 : Int64) (k1 : Int64) (bk1 : ivL (-63) 63 k1) (hf0 : ¬ k0 = 0 ∨ ¬ k1 = 0) : Ct l V yX10_common (.code yX10_common cX10_common 4 (some .long)) 13 [.long k0, .long k1] [] 0 0 (QL V (fun (r : Int64) (w : va_W) => (¬ r = 0) ∧ w = [])) := by
  refine Ct.of (by decide) (Nat.le_of_ble_eq_true rfl) (fun p e s m below meth c A ls hx hb hr hml hown hlk hnm hg hP hK hD hE hA hS hl => ?_)
  have hl : lv_has ls 4 [(0, .long k0), (2, .long k1)] := hl
  refine lv_lload_n hx hb dX10_common_0 rfl (lv_at hl 1 rfl) ?_
  refine lv_lconst (v := 0) hx hb dX10_common_1 (by decide) ?_
  refine W.lcmp hx hb dX10_common_2 ?_
  refine lv_if_ne (tgt := 10) hx hb dX10_common_3 (by decide) (fun c_1 => ?_) (fun c_1 => ?_)
  · replace c_1 : ¬ k1 = (0 : Int64) := fun z => c_1 ((lg_cmp_eq _ _).mpr z)
    refine lv_lload_n hx hb dX10_common_10 rfl (lv_at hl 1 rfl) ?_
    refine lv_lload_n hx hb dX10_common_11 rfl (lv_at hl 0 rfl) ?_
    refine lv_lload_n hx hb dX10_common_12 rfl (lv_at hl 1 rfl) ?_
    refine lv_lrem hx hb dX10_common_13 c_1 ?_
    refine lv_topl (fun j_2 ej_2 => ?_)
    refine jnL (wr := []) (rnS (rest := []) ⟨hx, hb, hml, hown, hg⟩ (k_X10_common_11 l V k1 j_2 bk1 c_1 (com_C ej_2 c_1)) mt_X10_common q_8_124 ⟨Nat.le_of_ble_eq_true rfl, Nat.le_of_ble_eq_true rfl⟩ hK hP hD hS hA hE [] rfl rfl rfl hl.1 rfl (Nat.le_of_ble_eq_true rfl) dX10_common_14 ⟨Nat.le_of_ble_eq_true rfl, Nat.le_of_ble_eq_true rfl⟩) hP hD hS hA [] [] rfl rfl rfl (by decide) (fun r_3 w H locs hw hP hD hS => ?_)
    obtain ⟨g_4, rfl⟩ := hw
    have hP : va_P V.1 vwCl [] H := hP
    have hD : va_D A [] := hD
    exact fiL hx hb hr hlk hK hP hD hS dX10_common_17 (Nat.le_of_ble_eq_true rfl) (Nat.le_of_ble_eq_true rfl) (⟨g_4, rfl⟩)
  · replace c_1 : k1 = (0 : Int64) := (lg_cmp_eq _ _).mp c_1
    have b_5 : ivL 0 0 k1 := ivL_q c_1 (ivL_c (0 : Int64) (a := 0) (b := 0) (by decide))
    refine lv_lload_n hx hb dX10_common_6 rfl (lv_at hl 0 rfl) ?_
    refine lv_goto (tgt := 17) hx hb dX10_common_7 (by decide) ?_
    exact fiL hx hb hr hlk hK hP hD hS dX10_common_17 (Nat.le_of_ble_eq_true rfl) (Nat.le_of_ble_eq_true rfl) (⟨(hf0.elim id (fun q9 => absurd c_1 q9)), rfl⟩)
set_option maxHeartbeats 4000000 in
set_option maxRecDepth 100000 in
theorem k_X10_common_13 (l : Launch) (V : GV) (k0 : Int64) (k1 : Int64) (bk0 : ivL (-127) 127 k0) (hf0 : ¬ k0 = 0) (hf1 : (k1 : Int64).toInt.natAbs < (k0 : Int64).toInt.natAbs) : Ct l V yX10_common (.code yX10_common cX10_common 4 (some .long)) 14 [.long k0, .long k1] [] 0 0 (QL V (fun (r : Int64) (w : va_W) => (¬ r = 0) ∧ w = [])) := by
  refine Ct.of (by decide) (Nat.le_of_ble_eq_true rfl) (fun p e s m below meth c A ls hx hb hr hml hown hlk hnm hg hP hK hD hE hA hS hl => ?_)
  have hl : lv_has ls 4 [(0, .long k0), (2, .long k1)] := hl
  refine lv_lload_n hx hb dX10_common_0 rfl (lv_at hl 1 rfl) ?_
  refine lv_lconst (v := 0) hx hb dX10_common_1 (by decide) ?_
  refine W.lcmp hx hb dX10_common_2 ?_
  refine lv_if_ne (tgt := 10) hx hb dX10_common_3 (by decide) (fun c_1 => ?_) (fun c_1 => ?_)
  · replace c_1 : ¬ k1 = (0 : Int64) := fun z => c_1 ((lg_cmp_eq _ _).mpr z)
    refine lv_lload_n hx hb dX10_common_10 rfl (lv_at hl 1 rfl) ?_
    refine lv_lload_n hx hb dX10_common_11 rfl (lv_at hl 0 rfl) ?_
    refine lv_lload_n hx hb dX10_common_12 rfl (lv_at hl 1 rfl) ?_
    refine lv_lrem hx hb dX10_common_13 c_1 ?_
    refine lv_topl (fun j_2 ej_2 => ?_)
    have b_3 : ivL (-63) 63 j_2 := com_D (M := 127) (K := 63) ej_2 c_1 bk0 hf1 (by decide)
    refine jnL (wr := []) (rnS (rest := []) ⟨hx, hb, hml, hown, hg⟩ (k_X10_common_12 l V k1 j_2 b_3 (Or.inl c_1)) mt_X10_common q_8_124 ⟨Nat.le_of_ble_eq_true rfl, Nat.le_of_ble_eq_true rfl⟩ hK hP hD hS hA hE [] rfl rfl rfl hl.1 rfl (Nat.le_of_ble_eq_true rfl) dX10_common_14 ⟨Nat.le_of_ble_eq_true rfl, Nat.le_of_ble_eq_true rfl⟩) hP hD hS hA [] [] rfl rfl rfl (by decide) (fun r_4 w H locs hw hP hD hS => ?_)
    obtain ⟨g_5, rfl⟩ := hw
    have hP : va_P V.1 vwCl [] H := hP
    have hD : va_D A [] := hD
    exact fiL hx hb hr hlk hK hP hD hS dX10_common_17 (Nat.le_of_ble_eq_true rfl) (Nat.le_of_ble_eq_true rfl) (⟨g_5, rfl⟩)
  · replace c_1 : k1 = (0 : Int64) := (lg_cmp_eq _ _).mp c_1
    have b_6 : ivL 0 0 k1 := ivL_q c_1 (ivL_c (0 : Int64) (a := 0) (b := 0) (by decide))
    refine lv_lload_n hx hb dX10_common_6 rfl (lv_at hl 0 rfl) ?_
    refine lv_goto (tgt := 17) hx hb dX10_common_7 (by decide) ?_
    exact fiL hx hb hr hlk hK hP hD hS dX10_common_17 (Nat.le_of_ble_eq_true rfl) (Nat.le_of_ble_eq_true rfl) (⟨hf0, rfl⟩)
set_option maxHeartbeats 4000000 in
set_option maxRecDepth 100000 in
theorem k_X10_common_14 (l : Launch) (V : GV) (k0 : Int64) (k1 : Int64) (bk1 : ivL (-127) 127 k1) (hf0 : ¬ k0 = 0 ∨ ¬ k1 = 0) : Ct l V yX10_common (.code yX10_common cX10_common 4 (some .long)) 15 [.long k0, .long k1] [] 0 0 (QL V (fun (r : Int64) (w : va_W) => (¬ r = 0) ∧ w = [])) := by
  refine Ct.of (by decide) (Nat.le_of_ble_eq_true rfl) (fun p e s m below meth c A ls hx hb hr hml hown hlk hnm hg hP hK hD hE hA hS hl => ?_)
  have hl : lv_has ls 4 [(0, .long k0), (2, .long k1)] := hl
  refine lv_lload_n hx hb dX10_common_0 rfl (lv_at hl 1 rfl) ?_
  refine lv_lconst (v := 0) hx hb dX10_common_1 (by decide) ?_
  refine W.lcmp hx hb dX10_common_2 ?_
  refine lv_if_ne (tgt := 10) hx hb dX10_common_3 (by decide) (fun c_1 => ?_) (fun c_1 => ?_)
  · replace c_1 : ¬ k1 = (0 : Int64) := fun z => c_1 ((lg_cmp_eq _ _).mpr z)
    refine lv_lload_n hx hb dX10_common_10 rfl (lv_at hl 1 rfl) ?_
    refine lv_lload_n hx hb dX10_common_11 rfl (lv_at hl 0 rfl) ?_
    refine lv_lload_n hx hb dX10_common_12 rfl (lv_at hl 1 rfl) ?_
    refine lv_lrem hx hb dX10_common_13 c_1 ?_
    refine lv_topl (fun j_2 ej_2 => ?_)
    refine jnL (wr := []) (rnS (rest := []) ⟨hx, hb, hml, hown, hg⟩ (k_X10_common_13 l V k1 j_2 bk1 c_1 (com_C ej_2 c_1)) mt_X10_common q_8_124 ⟨Nat.le_of_ble_eq_true rfl, Nat.le_of_ble_eq_true rfl⟩ hK hP hD hS hA hE [] rfl rfl rfl hl.1 rfl (Nat.le_of_ble_eq_true rfl) dX10_common_14 ⟨Nat.le_of_ble_eq_true rfl, Nat.le_of_ble_eq_true rfl⟩) hP hD hS hA [] [] rfl rfl rfl (by decide) (fun r_3 w H locs hw hP hD hS => ?_)
    obtain ⟨g_4, rfl⟩ := hw
    have hP : va_P V.1 vwCl [] H := hP
    have hD : va_D A [] := hD
    exact fiL hx hb hr hlk hK hP hD hS dX10_common_17 (Nat.le_of_ble_eq_true rfl) (Nat.le_of_ble_eq_true rfl) (⟨g_4, rfl⟩)
  · replace c_1 : k1 = (0 : Int64) := (lg_cmp_eq _ _).mp c_1
    have b_5 : ivL 0 0 k1 := ivL_q c_1 (ivL_c (0 : Int64) (a := 0) (b := 0) (by decide))
    refine lv_lload_n hx hb dX10_common_6 rfl (lv_at hl 0 rfl) ?_
    refine lv_goto (tgt := 17) hx hb dX10_common_7 (by decide) ?_
    exact fiL hx hb hr hlk hK hP hD hS dX10_common_17 (Nat.le_of_ble_eq_true rfl) (Nat.le_of_ble_eq_true rfl) (⟨(hf0.elim id (fun q9 => absurd c_1 q9)), rfl⟩)
set_option maxHeartbeats 4000000 in
set_option maxRecDepth 100000 in
theorem k_X10_common_15 (l : Launch) (V : GV) (k0 : Int64) (k1 : Int64) (bk0 : ivL (-255) 255 k0) (hf0 : ¬ k0 = 0) (hf1 : (k1 : Int64).toInt.natAbs < (k0 : Int64).toInt.natAbs) : Ct l V yX10_common (.code yX10_common cX10_common 4 (some .long)) 16 [.long k0, .long k1] [] 0 0 (QL V (fun (r : Int64) (w : va_W) => (¬ r = 0) ∧ w = [])) := by
  refine Ct.of (by decide) (Nat.le_of_ble_eq_true rfl) (fun p e s m below meth c A ls hx hb hr hml hown hlk hnm hg hP hK hD hE hA hS hl => ?_)
  have hl : lv_has ls 4 [(0, .long k0), (2, .long k1)] := hl
  refine lv_lload_n hx hb dX10_common_0 rfl (lv_at hl 1 rfl) ?_
  refine lv_lconst (v := 0) hx hb dX10_common_1 (by decide) ?_
  refine W.lcmp hx hb dX10_common_2 ?_
  refine lv_if_ne (tgt := 10) hx hb dX10_common_3 (by decide) (fun c_1 => ?_) (fun c_1 => ?_)
  · replace c_1 : ¬ k1 = (0 : Int64) := fun z => c_1 ((lg_cmp_eq _ _).mpr z)
    refine lv_lload_n hx hb dX10_common_10 rfl (lv_at hl 1 rfl) ?_
    refine lv_lload_n hx hb dX10_common_11 rfl (lv_at hl 0 rfl) ?_
    refine lv_lload_n hx hb dX10_common_12 rfl (lv_at hl 1 rfl) ?_
    refine lv_lrem hx hb dX10_common_13 c_1 ?_
    refine lv_topl (fun j_2 ej_2 => ?_)
    have b_3 : ivL (-127) 127 j_2 := com_D (M := 255) (K := 127) ej_2 c_1 bk0 hf1 (by decide)
    refine jnL (wr := []) (rnS (rest := []) ⟨hx, hb, hml, hown, hg⟩ (k_X10_common_14 l V k1 j_2 b_3 (Or.inl c_1)) mt_X10_common q_8_124 ⟨Nat.le_of_ble_eq_true rfl, Nat.le_of_ble_eq_true rfl⟩ hK hP hD hS hA hE [] rfl rfl rfl hl.1 rfl (Nat.le_of_ble_eq_true rfl) dX10_common_14 ⟨Nat.le_of_ble_eq_true rfl, Nat.le_of_ble_eq_true rfl⟩) hP hD hS hA [] [] rfl rfl rfl (by decide) (fun r_4 w H locs hw hP hD hS => ?_)
    obtain ⟨g_5, rfl⟩ := hw
    have hP : va_P V.1 vwCl [] H := hP
    have hD : va_D A [] := hD
    exact fiL hx hb hr hlk hK hP hD hS dX10_common_17 (Nat.le_of_ble_eq_true rfl) (Nat.le_of_ble_eq_true rfl) (⟨g_5, rfl⟩)
  · replace c_1 : k1 = (0 : Int64) := (lg_cmp_eq _ _).mp c_1
    have b_6 : ivL 0 0 k1 := ivL_q c_1 (ivL_c (0 : Int64) (a := 0) (b := 0) (by decide))
    refine lv_lload_n hx hb dX10_common_6 rfl (lv_at hl 0 rfl) ?_
    refine lv_goto (tgt := 17) hx hb dX10_common_7 (by decide) ?_
    exact fiL hx hb hr hlk hK hP hD hS dX10_common_17 (Nat.le_of_ble_eq_true rfl) (Nat.le_of_ble_eq_true rfl) (⟨hf0, rfl⟩)
set_option maxHeartbeats 4000000 in
set_option maxRecDepth 100000 in
theorem k_X10_common_16 (l : Launch) (V : GV) (k0 : Int64) (k1 : Int64) (bk1 : ivL (-255) 255 k1) (hf0 : ¬ k0 = 0 ∨ ¬ k1 = 0) : Ct l V yX10_common (.code yX10_common cX10_common 4 (some .long)) 17 [.long k0, .long k1] [] 0 0 (QL V (fun (r : Int64) (w : va_W) => (¬ r = 0) ∧ w = [])) := by
  refine Ct.of (by decide) (Nat.le_of_ble_eq_true rfl) (fun p e s m below meth c A ls hx hb hr hml hown hlk hnm hg hP hK hD hE hA hS hl => ?_)
  have hl : lv_has ls 4 [(0, .long k0), (2, .long k1)] := hl
  refine lv_lload_n hx hb dX10_common_0 rfl (lv_at hl 1 rfl) ?_
  refine lv_lconst (v := 0) hx hb dX10_common_1 (by decide) ?_
  refine W.lcmp hx hb dX10_common_2 ?_
  refine lv_if_ne (tgt := 10) hx hb dX10_common_3 (by decide) (fun c_1 => ?_) (fun c_1 => ?_)
  · replace c_1 : ¬ k1 = (0 : Int64) := fun z => c_1 ((lg_cmp_eq _ _).mpr z)
    refine lv_lload_n hx hb dX10_common_10 rfl (lv_at hl 1 rfl) ?_
    refine lv_lload_n hx hb dX10_common_11 rfl (lv_at hl 0 rfl) ?_
    refine lv_lload_n hx hb dX10_common_12 rfl (lv_at hl 1 rfl) ?_
    refine lv_lrem hx hb dX10_common_13 c_1 ?_
    refine lv_topl (fun j_2 ej_2 => ?_)
    refine jnL (wr := []) (rnS (rest := []) ⟨hx, hb, hml, hown, hg⟩ (k_X10_common_15 l V k1 j_2 bk1 c_1 (com_C ej_2 c_1)) mt_X10_common q_8_124 ⟨Nat.le_of_ble_eq_true rfl, Nat.le_of_ble_eq_true rfl⟩ hK hP hD hS hA hE [] rfl rfl rfl hl.1 rfl (Nat.le_of_ble_eq_true rfl) dX10_common_14 ⟨Nat.le_of_ble_eq_true rfl, Nat.le_of_ble_eq_true rfl⟩) hP hD hS hA [] [] rfl rfl rfl (by decide) (fun r_3 w H locs hw hP hD hS => ?_)
    obtain ⟨g_4, rfl⟩ := hw
    have hP : va_P V.1 vwCl [] H := hP
    have hD : va_D A [] := hD
    exact fiL hx hb hr hlk hK hP hD hS dX10_common_17 (Nat.le_of_ble_eq_true rfl) (Nat.le_of_ble_eq_true rfl) (⟨g_4, rfl⟩)
  · replace c_1 : k1 = (0 : Int64) := (lg_cmp_eq _ _).mp c_1
    have b_5 : ivL 0 0 k1 := ivL_q c_1 (ivL_c (0 : Int64) (a := 0) (b := 0) (by decide))
    refine lv_lload_n hx hb dX10_common_6 rfl (lv_at hl 0 rfl) ?_
    refine lv_goto (tgt := 17) hx hb dX10_common_7 (by decide) ?_
    exact fiL hx hb hr hlk hK hP hD hS dX10_common_17 (Nat.le_of_ble_eq_true rfl) (Nat.le_of_ble_eq_true rfl) (⟨(hf0.elim id (fun q9 => absurd c_1 q9)), rfl⟩)
set_option maxHeartbeats 4000000 in
set_option maxRecDepth 100000 in
theorem k_X10_common_17 (l : Launch) (V : GV) (k0 : Int64) (k1 : Int64) (bk0 : ivL (-511) 511 k0) (hf0 : ¬ k0 = 0) (hf1 : (k1 : Int64).toInt.natAbs < (k0 : Int64).toInt.natAbs) : Ct l V yX10_common (.code yX10_common cX10_common 4 (some .long)) 18 [.long k0, .long k1] [] 0 0 (QL V (fun (r : Int64) (w : va_W) => (¬ r = 0) ∧ w = [])) := by
  refine Ct.of (by decide) (Nat.le_of_ble_eq_true rfl) (fun p e s m below meth c A ls hx hb hr hml hown hlk hnm hg hP hK hD hE hA hS hl => ?_)
  have hl : lv_has ls 4 [(0, .long k0), (2, .long k1)] := hl
  refine lv_lload_n hx hb dX10_common_0 rfl (lv_at hl 1 rfl) ?_
  refine lv_lconst (v := 0) hx hb dX10_common_1 (by decide) ?_
  refine W.lcmp hx hb dX10_common_2 ?_
  refine lv_if_ne (tgt := 10) hx hb dX10_common_3 (by decide) (fun c_1 => ?_) (fun c_1 => ?_)
  · replace c_1 : ¬ k1 = (0 : Int64) := fun z => c_1 ((lg_cmp_eq _ _).mpr z)
    refine lv_lload_n hx hb dX10_common_10 rfl (lv_at hl 1 rfl) ?_
    refine lv_lload_n hx hb dX10_common_11 rfl (lv_at hl 0 rfl) ?_
    refine lv_lload_n hx hb dX10_common_12 rfl (lv_at hl 1 rfl) ?_
    refine lv_lrem hx hb dX10_common_13 c_1 ?_
    refine lv_topl (fun j_2 ej_2 => ?_)
    have b_3 : ivL (-255) 255 j_2 := com_D (M := 511) (K := 255) ej_2 c_1 bk0 hf1 (by decide)
    refine jnL (wr := []) (rnS (rest := []) ⟨hx, hb, hml, hown, hg⟩ (k_X10_common_16 l V k1 j_2 b_3 (Or.inl c_1)) mt_X10_common q_8_124 ⟨Nat.le_of_ble_eq_true rfl, Nat.le_of_ble_eq_true rfl⟩ hK hP hD hS hA hE [] rfl rfl rfl hl.1 rfl (Nat.le_of_ble_eq_true rfl) dX10_common_14 ⟨Nat.le_of_ble_eq_true rfl, Nat.le_of_ble_eq_true rfl⟩) hP hD hS hA [] [] rfl rfl rfl (by decide) (fun r_4 w H locs hw hP hD hS => ?_)
    obtain ⟨g_5, rfl⟩ := hw
    have hP : va_P V.1 vwCl [] H := hP
    have hD : va_D A [] := hD
    exact fiL hx hb hr hlk hK hP hD hS dX10_common_17 (Nat.le_of_ble_eq_true rfl) (Nat.le_of_ble_eq_true rfl) (⟨g_5, rfl⟩)
  · replace c_1 : k1 = (0 : Int64) := (lg_cmp_eq _ _).mp c_1
    have b_6 : ivL 0 0 k1 := ivL_q c_1 (ivL_c (0 : Int64) (a := 0) (b := 0) (by decide))
    refine lv_lload_n hx hb dX10_common_6 rfl (lv_at hl 0 rfl) ?_
    refine lv_goto (tgt := 17) hx hb dX10_common_7 (by decide) ?_
    exact fiL hx hb hr hlk hK hP hD hS dX10_common_17 (Nat.le_of_ble_eq_true rfl) (Nat.le_of_ble_eq_true rfl) (⟨hf0, rfl⟩)
set_option maxHeartbeats 4000000 in
set_option maxRecDepth 100000 in
theorem k_X10_common_18 (l : Launch) (V : GV) (k0 : Int64) (k1 : Int64) (bk1 : ivL (-511) 511 k1) (hf0 : ¬ k0 = 0 ∨ ¬ k1 = 0) : Ct l V yX10_common (.code yX10_common cX10_common 4 (some .long)) 19 [.long k0, .long k1] [] 0 0 (QL V (fun (r : Int64) (w : va_W) => (¬ r = 0) ∧ w = [])) := by
  refine Ct.of (by decide) (Nat.le_of_ble_eq_true rfl) (fun p e s m below meth c A ls hx hb hr hml hown hlk hnm hg hP hK hD hE hA hS hl => ?_)
  have hl : lv_has ls 4 [(0, .long k0), (2, .long k1)] := hl
  refine lv_lload_n hx hb dX10_common_0 rfl (lv_at hl 1 rfl) ?_
  refine lv_lconst (v := 0) hx hb dX10_common_1 (by decide) ?_
  refine W.lcmp hx hb dX10_common_2 ?_
  refine lv_if_ne (tgt := 10) hx hb dX10_common_3 (by decide) (fun c_1 => ?_) (fun c_1 => ?_)
  · replace c_1 : ¬ k1 = (0 : Int64) := fun z => c_1 ((lg_cmp_eq _ _).mpr z)
    refine lv_lload_n hx hb dX10_common_10 rfl (lv_at hl 1 rfl) ?_
    refine lv_lload_n hx hb dX10_common_11 rfl (lv_at hl 0 rfl) ?_
    refine lv_lload_n hx hb dX10_common_12 rfl (lv_at hl 1 rfl) ?_
    refine lv_lrem hx hb dX10_common_13 c_1 ?_
    refine lv_topl (fun j_2 ej_2 => ?_)
    refine jnL (wr := []) (rnS (rest := []) ⟨hx, hb, hml, hown, hg⟩ (k_X10_common_17 l V k1 j_2 bk1 c_1 (com_C ej_2 c_1)) mt_X10_common q_8_124 ⟨Nat.le_of_ble_eq_true rfl, Nat.le_of_ble_eq_true rfl⟩ hK hP hD hS hA hE [] rfl rfl rfl hl.1 rfl (Nat.le_of_ble_eq_true rfl) dX10_common_14 ⟨Nat.le_of_ble_eq_true rfl, Nat.le_of_ble_eq_true rfl⟩) hP hD hS hA [] [] rfl rfl rfl (by decide) (fun r_3 w H locs hw hP hD hS => ?_)
    obtain ⟨g_4, rfl⟩ := hw
    have hP : va_P V.1 vwCl [] H := hP
    have hD : va_D A [] := hD
    exact fiL hx hb hr hlk hK hP hD hS dX10_common_17 (Nat.le_of_ble_eq_true rfl) (Nat.le_of_ble_eq_true rfl) (⟨g_4, rfl⟩)
  · replace c_1 : k1 = (0 : Int64) := (lg_cmp_eq _ _).mp c_1
    have b_5 : ivL 0 0 k1 := ivL_q c_1 (ivL_c (0 : Int64) (a := 0) (b := 0) (by decide))
    refine lv_lload_n hx hb dX10_common_6 rfl (lv_at hl 0 rfl) ?_
    refine lv_goto (tgt := 17) hx hb dX10_common_7 (by decide) ?_
    exact fiL hx hb hr hlk hK hP hD hS dX10_common_17 (Nat.le_of_ble_eq_true rfl) (Nat.le_of_ble_eq_true rfl) (⟨(hf0.elim id (fun q9 => absurd c_1 q9)), rfl⟩)
set_option maxHeartbeats 4000000 in
set_option maxRecDepth 100000 in
theorem k_X10_common_19 (l : Launch) (V : GV) (k0 : Int64) (k1 : Int64) (bk0 : ivL (-1023) 1023 k0) (hf0 : ¬ k0 = 0) (hf1 : (k1 : Int64).toInt.natAbs < (k0 : Int64).toInt.natAbs) : Ct l V yX10_common (.code yX10_common cX10_common 4 (some .long)) 20 [.long k0, .long k1] [] 0 0 (QL V (fun (r : Int64) (w : va_W) => (¬ r = 0) ∧ w = [])) := by
  refine Ct.of (by decide) (Nat.le_of_ble_eq_true rfl) (fun p e s m below meth c A ls hx hb hr hml hown hlk hnm hg hP hK hD hE hA hS hl => ?_)
  have hl : lv_has ls 4 [(0, .long k0), (2, .long k1)] := hl
  refine lv_lload_n hx hb dX10_common_0 rfl (lv_at hl 1 rfl) ?_
  refine lv_lconst (v := 0) hx hb dX10_common_1 (by decide) ?_
  refine W.lcmp hx hb dX10_common_2 ?_
  refine lv_if_ne (tgt := 10) hx hb dX10_common_3 (by decide) (fun c_1 => ?_) (fun c_1 => ?_)
  · replace c_1 : ¬ k1 = (0 : Int64) := fun z => c_1 ((lg_cmp_eq _ _).mpr z)
    refine lv_lload_n hx hb dX10_common_10 rfl (lv_at hl 1 rfl) ?_
    refine lv_lload_n hx hb dX10_common_11 rfl (lv_at hl 0 rfl) ?_
    refine lv_lload_n hx hb dX10_common_12 rfl (lv_at hl 1 rfl) ?_
    refine lv_lrem hx hb dX10_common_13 c_1 ?_
    refine lv_topl (fun j_2 ej_2 => ?_)
    have b_3 : ivL (-511) 511 j_2 := com_D (M := 1023) (K := 511) ej_2 c_1 bk0 hf1 (by decide)
    refine jnL (wr := []) (rnS (rest := []) ⟨hx, hb, hml, hown, hg⟩ (k_X10_common_18 l V k1 j_2 b_3 (Or.inl c_1)) mt_X10_common q_8_124 ⟨Nat.le_of_ble_eq_true rfl, Nat.le_of_ble_eq_true rfl⟩ hK hP hD hS hA hE [] rfl rfl rfl hl.1 rfl (Nat.le_of_ble_eq_true rfl) dX10_common_14 ⟨Nat.le_of_ble_eq_true rfl, Nat.le_of_ble_eq_true rfl⟩) hP hD hS hA [] [] rfl rfl rfl (by decide) (fun r_4 w H locs hw hP hD hS => ?_)
    obtain ⟨g_5, rfl⟩ := hw
    have hP : va_P V.1 vwCl [] H := hP
    have hD : va_D A [] := hD
    exact fiL hx hb hr hlk hK hP hD hS dX10_common_17 (Nat.le_of_ble_eq_true rfl) (Nat.le_of_ble_eq_true rfl) (⟨g_5, rfl⟩)
  · replace c_1 : k1 = (0 : Int64) := (lg_cmp_eq _ _).mp c_1
    have b_6 : ivL 0 0 k1 := ivL_q c_1 (ivL_c (0 : Int64) (a := 0) (b := 0) (by decide))
    refine lv_lload_n hx hb dX10_common_6 rfl (lv_at hl 0 rfl) ?_
    refine lv_goto (tgt := 17) hx hb dX10_common_7 (by decide) ?_
    exact fiL hx hb hr hlk hK hP hD hS dX10_common_17 (Nat.le_of_ble_eq_true rfl) (Nat.le_of_ble_eq_true rfl) (⟨hf0, rfl⟩)
set_option maxHeartbeats 4000000 in
set_option maxRecDepth 100000 in
theorem k_X10_common_20 (l : Launch) (V : GV) (k0 : Int64) (k1 : Int64) (bk1 : ivL (-1023) 1023 k1) (hf0 : ¬ k0 = 0 ∨ ¬ k1 = 0) : Ct l V yX10_common (.code yX10_common cX10_common 4 (some .long)) 21 [.long k0, .long k1] [] 0 0 (QL V (fun (r : Int64) (w : va_W) => (¬ r = 0) ∧ w = [])) := by
  refine Ct.of (by decide) (Nat.le_of_ble_eq_true rfl) (fun p e s m below meth c A ls hx hb hr hml hown hlk hnm hg hP hK hD hE hA hS hl => ?_)
  have hl : lv_has ls 4 [(0, .long k0), (2, .long k1)] := hl
  refine lv_lload_n hx hb dX10_common_0 rfl (lv_at hl 1 rfl) ?_
  refine lv_lconst (v := 0) hx hb dX10_common_1 (by decide) ?_
  refine W.lcmp hx hb dX10_common_2 ?_
  refine lv_if_ne (tgt := 10) hx hb dX10_common_3 (by decide) (fun c_1 => ?_) (fun c_1 => ?_)
  · replace c_1 : ¬ k1 = (0 : Int64) := fun z => c_1 ((lg_cmp_eq _ _).mpr z)
    refine lv_lload_n hx hb dX10_common_10 rfl (lv_at hl 1 rfl) ?_
    refine lv_lload_n hx hb dX10_common_11 rfl (lv_at hl 0 rfl) ?_
    refine lv_lload_n hx hb dX10_common_12 rfl (lv_at hl 1 rfl) ?_
    refine lv_lrem hx hb dX10_common_13 c_1 ?_
    refine lv_topl (fun j_2 ej_2 => ?_)
    refine jnL (wr := []) (rnS (rest := []) ⟨hx, hb, hml, hown, hg⟩ (k_X10_common_19 l V k1 j_2 bk1 c_1 (com_C ej_2 c_1)) mt_X10_common q_8_124 ⟨Nat.le_of_ble_eq_true rfl, Nat.le_of_ble_eq_true rfl⟩ hK hP hD hS hA hE [] rfl rfl rfl hl.1 rfl (Nat.le_of_ble_eq_true rfl) dX10_common_14 ⟨Nat.le_of_ble_eq_true rfl, Nat.le_of_ble_eq_true rfl⟩) hP hD hS hA [] [] rfl rfl rfl (by decide) (fun r_3 w H locs hw hP hD hS => ?_)
    obtain ⟨g_4, rfl⟩ := hw
    have hP : va_P V.1 vwCl [] H := hP
    have hD : va_D A [] := hD
    exact fiL hx hb hr hlk hK hP hD hS dX10_common_17 (Nat.le_of_ble_eq_true rfl) (Nat.le_of_ble_eq_true rfl) (⟨g_4, rfl⟩)
  · replace c_1 : k1 = (0 : Int64) := (lg_cmp_eq _ _).mp c_1
    have b_5 : ivL 0 0 k1 := ivL_q c_1 (ivL_c (0 : Int64) (a := 0) (b := 0) (by decide))
    refine lv_lload_n hx hb dX10_common_6 rfl (lv_at hl 0 rfl) ?_
    refine lv_goto (tgt := 17) hx hb dX10_common_7 (by decide) ?_
    exact fiL hx hb hr hlk hK hP hD hS dX10_common_17 (Nat.le_of_ble_eq_true rfl) (Nat.le_of_ble_eq_true rfl) (⟨(hf0.elim id (fun q9 => absurd c_1 q9)), rfl⟩)
set_option maxHeartbeats 4000000 in
set_option maxRecDepth 100000 in
theorem k_X10_common_21 (l : Launch) (V : GV) (k0 : Int64) (k1 : Int64) (bk0 : ivL (-2047) 2047 k0) (hf0 : ¬ k0 = 0) (hf1 : (k1 : Int64).toInt.natAbs < (k0 : Int64).toInt.natAbs) : Ct l V yX10_common (.code yX10_common cX10_common 4 (some .long)) 22 [.long k0, .long k1] [] 0 0 (QL V (fun (r : Int64) (w : va_W) => (¬ r = 0) ∧ w = [])) := by
  refine Ct.of (by decide) (Nat.le_of_ble_eq_true rfl) (fun p e s m below meth c A ls hx hb hr hml hown hlk hnm hg hP hK hD hE hA hS hl => ?_)
  have hl : lv_has ls 4 [(0, .long k0), (2, .long k1)] := hl
  refine lv_lload_n hx hb dX10_common_0 rfl (lv_at hl 1 rfl) ?_
  refine lv_lconst (v := 0) hx hb dX10_common_1 (by decide) ?_
  refine W.lcmp hx hb dX10_common_2 ?_
  refine lv_if_ne (tgt := 10) hx hb dX10_common_3 (by decide) (fun c_1 => ?_) (fun c_1 => ?_)
  · replace c_1 : ¬ k1 = (0 : Int64) := fun z => c_1 ((lg_cmp_eq _ _).mpr z)
    refine lv_lload_n hx hb dX10_common_10 rfl (lv_at hl 1 rfl) ?_
    refine lv_lload_n hx hb dX10_common_11 rfl (lv_at hl 0 rfl) ?_
    refine lv_lload_n hx hb dX10_common_12 rfl (lv_at hl 1 rfl) ?_
    refine lv_lrem hx hb dX10_common_13 c_1 ?_
    refine lv_topl (fun j_2 ej_2 => ?_)
    have b_3 : ivL (-1023) 1023 j_2 := com_D (M := 2047) (K := 1023) ej_2 c_1 bk0 hf1 (by decide)
    refine jnL (wr := []) (rnS (rest := []) ⟨hx, hb, hml, hown, hg⟩ (k_X10_common_20 l V k1 j_2 b_3 (Or.inl c_1)) mt_X10_common q_8_124 ⟨Nat.le_of_ble_eq_true rfl, Nat.le_of_ble_eq_true rfl⟩ hK hP hD hS hA hE [] rfl rfl rfl hl.1 rfl (Nat.le_of_ble_eq_true rfl) dX10_common_14 ⟨Nat.le_of_ble_eq_true rfl, Nat.le_of_ble_eq_true rfl⟩) hP hD hS hA [] [] rfl rfl rfl (by decide) (fun r_4 w H locs hw hP hD hS => ?_)
    obtain ⟨g_5, rfl⟩ := hw
    have hP : va_P V.1 vwCl [] H := hP
    have hD : va_D A [] := hD
    exact fiL hx hb hr hlk hK hP hD hS dX10_common_17 (Nat.le_of_ble_eq_true rfl) (Nat.le_of_ble_eq_true rfl) (⟨g_5, rfl⟩)
  · replace c_1 : k1 = (0 : Int64) := (lg_cmp_eq _ _).mp c_1
    have b_6 : ivL 0 0 k1 := ivL_q c_1 (ivL_c (0 : Int64) (a := 0) (b := 0) (by decide))
    refine lv_lload_n hx hb dX10_common_6 rfl (lv_at hl 0 rfl) ?_
    refine lv_goto (tgt := 17) hx hb dX10_common_7 (by decide) ?_
    exact fiL hx hb hr hlk hK hP hD hS dX10_common_17 (Nat.le_of_ble_eq_true rfl) (Nat.le_of_ble_eq_true rfl) (⟨hf0, rfl⟩)
set_option maxHeartbeats 4000000 in
set_option maxRecDepth 100000 in
theorem k_X10_common_22 (l : Launch) (V : GV) (k0 : Int64) (k1 : Int64) (bk1 : ivL (-2047) 2047 k1) (hf0 : ¬ k0 = 0 ∨ ¬ k1 = 0) : Ct l V yX10_common (.code yX10_common cX10_common 4 (some .long)) 23 [.long k0, .long k1] [] 0 0 (QL V (fun (r : Int64) (w : va_W) => (¬ r = 0) ∧ w = [])) := by
  refine Ct.of (by decide) (Nat.le_of_ble_eq_true rfl) (fun p e s m below meth c A ls hx hb hr hml hown hlk hnm hg hP hK hD hE hA hS hl => ?_)
  have hl : lv_has ls 4 [(0, .long k0), (2, .long k1)] := hl
  refine lv_lload_n hx hb dX10_common_0 rfl (lv_at hl 1 rfl) ?_
  refine lv_lconst (v := 0) hx hb dX10_common_1 (by decide) ?_
  refine W.lcmp hx hb dX10_common_2 ?_
  refine lv_if_ne (tgt := 10) hx hb dX10_common_3 (by decide) (fun c_1 => ?_) (fun c_1 => ?_)
  · replace c_1 : ¬ k1 = (0 : Int64) := fun z => c_1 ((lg_cmp_eq _ _).mpr z)
    refine lv_lload_n hx hb dX10_common_10 rfl (lv_at hl 1 rfl) ?_
    refine lv_lload_n hx hb dX10_common_11 rfl (lv_at hl 0 rfl) ?_
    refine lv_lload_n hx hb dX10_common_12 rfl (lv_at hl 1 rfl) ?_
    refine lv_lrem hx hb dX10_common_13 c_1 ?_
    refine lv_topl (fun j_2 ej_2 => ?_)
    refine jnL (wr := []) (rnS (rest := []) ⟨hx, hb, hml, hown, hg⟩ (k_X10_common_21 l V k1 j_2 bk1 c_1 (com_C ej_2 c_1)) mt_X10_common q_8_124 ⟨Nat.le_of_ble_eq_true rfl, Nat.le_of_ble_eq_true rfl⟩ hK hP hD hS hA hE [] rfl rfl rfl hl.1 rfl (Nat.le_of_ble_eq_true rfl) dX10_common_14 ⟨Nat.le_of_ble_eq_true rfl, Nat.le_of_ble_eq_true rfl⟩) hP hD hS hA [] [] rfl rfl rfl (by decide) (fun r_3 w H locs hw hP hD hS => ?_)
    obtain ⟨g_4, rfl⟩ := hw
    have hP : va_P V.1 vwCl [] H := hP
    have hD : va_D A [] := hD
    exact fiL hx hb hr hlk hK hP hD hS dX10_common_17 (Nat.le_of_ble_eq_true rfl) (Nat.le_of_ble_eq_true rfl) (⟨g_4, rfl⟩)
  · replace c_1 : k1 = (0 : Int64) := (lg_cmp_eq _ _).mp c_1
    have b_5 : ivL 0 0 k1 := ivL_q c_1 (ivL_c (0 : Int64) (a := 0) (b := 0) (by decide))
    refine lv_lload_n hx hb dX10_common_6 rfl (lv_at hl 0 rfl) ?_
    refine lv_goto (tgt := 17) hx hb dX10_common_7 (by decide) ?_
    exact fiL hx hb hr hlk hK hP hD hS dX10_common_17 (Nat.le_of_ble_eq_true rfl) (Nat.le_of_ble_eq_true rfl) (⟨(hf0.elim id (fun q9 => absurd c_1 q9)), rfl⟩)
set_option maxHeartbeats 4000000 in
set_option maxRecDepth 100000 in
theorem k_X10_common_23 (l : Launch) (V : GV) (k0 : Int64) (k1 : Int64) (bk0 : ivL (-4095) 4095 k0) (hf0 : ¬ k0 = 0) (hf1 : (k1 : Int64).toInt.natAbs < (k0 : Int64).toInt.natAbs) : Ct l V yX10_common (.code yX10_common cX10_common 4 (some .long)) 24 [.long k0, .long k1] [] 0 0 (QL V (fun (r : Int64) (w : va_W) => (¬ r = 0) ∧ w = [])) := by
  refine Ct.of (by decide) (Nat.le_of_ble_eq_true rfl) (fun p e s m below meth c A ls hx hb hr hml hown hlk hnm hg hP hK hD hE hA hS hl => ?_)
  have hl : lv_has ls 4 [(0, .long k0), (2, .long k1)] := hl
  refine lv_lload_n hx hb dX10_common_0 rfl (lv_at hl 1 rfl) ?_
  refine lv_lconst (v := 0) hx hb dX10_common_1 (by decide) ?_
  refine W.lcmp hx hb dX10_common_2 ?_
  refine lv_if_ne (tgt := 10) hx hb dX10_common_3 (by decide) (fun c_1 => ?_) (fun c_1 => ?_)
  · replace c_1 : ¬ k1 = (0 : Int64) := fun z => c_1 ((lg_cmp_eq _ _).mpr z)
    refine lv_lload_n hx hb dX10_common_10 rfl (lv_at hl 1 rfl) ?_
    refine lv_lload_n hx hb dX10_common_11 rfl (lv_at hl 0 rfl) ?_
    refine lv_lload_n hx hb dX10_common_12 rfl (lv_at hl 1 rfl) ?_
    refine lv_lrem hx hb dX10_common_13 c_1 ?_
    refine lv_topl (fun j_2 ej_2 => ?_)
    have b_3 : ivL (-2047) 2047 j_2 := com_D (M := 4095) (K := 2047) ej_2 c_1 bk0 hf1 (by decide)
    refine jnL (wr := []) (rnS (rest := []) ⟨hx, hb, hml, hown, hg⟩ (k_X10_common_22 l V k1 j_2 b_3 (Or.inl c_1)) mt_X10_common q_8_124 ⟨Nat.le_of_ble_eq_true rfl, Nat.le_of_ble_eq_true rfl⟩ hK hP hD hS hA hE [] rfl rfl rfl hl.1 rfl (Nat.le_of_ble_eq_true rfl) dX10_common_14 ⟨Nat.le_of_ble_eq_true rfl, Nat.le_of_ble_eq_true rfl⟩) hP hD hS hA [] [] rfl rfl rfl (by decide) (fun r_4 w H locs hw hP hD hS => ?_)
    obtain ⟨g_5, rfl⟩ := hw
    have hP : va_P V.1 vwCl [] H := hP
    have hD : va_D A [] := hD
    exact fiL hx hb hr hlk hK hP hD hS dX10_common_17 (Nat.le_of_ble_eq_true rfl) (Nat.le_of_ble_eq_true rfl) (⟨g_5, rfl⟩)
  · replace c_1 : k1 = (0 : Int64) := (lg_cmp_eq _ _).mp c_1
    have b_6 : ivL 0 0 k1 := ivL_q c_1 (ivL_c (0 : Int64) (a := 0) (b := 0) (by decide))
    refine lv_lload_n hx hb dX10_common_6 rfl (lv_at hl 0 rfl) ?_
    refine lv_goto (tgt := 17) hx hb dX10_common_7 (by decide) ?_
    exact fiL hx hb hr hlk hK hP hD hS dX10_common_17 (Nat.le_of_ble_eq_true rfl) (Nat.le_of_ble_eq_true rfl) (⟨hf0, rfl⟩)
set_option maxHeartbeats 4000000 in
set_option maxRecDepth 100000 in
theorem k_X10_common_24 (l : Launch) (V : GV) (k0 : Int64) (k1 : Int64) (bk1 : ivL (-4095) 4095 k1) (hf0 : ¬ k0 = 0 ∨ ¬ k1 = 0) : Ct l V yX10_common (.code yX10_common cX10_common 4 (some .long)) 25 [.long k0, .long k1] [] 0 0 (QL V (fun (r : Int64) (w : va_W) => (¬ r = 0) ∧ w = [])) := by
  refine Ct.of (by decide) (Nat.le_of_ble_eq_true rfl) (fun p e s m below meth c A ls hx hb hr hml hown hlk hnm hg hP hK hD hE hA hS hl => ?_)
  have hl : lv_has ls 4 [(0, .long k0), (2, .long k1)] := hl
  refine lv_lload_n hx hb dX10_common_0 rfl (lv_at hl 1 rfl) ?_
  refine lv_lconst (v := 0) hx hb dX10_common_1 (by decide) ?_
  refine W.lcmp hx hb dX10_common_2 ?_
  refine lv_if_ne (tgt := 10) hx hb dX10_common_3 (by decide) (fun c_1 => ?_) (fun c_1 => ?_)
  · replace c_1 : ¬ k1 = (0 : Int64) := fun z => c_1 ((lg_cmp_eq _ _).mpr z)
    refine lv_lload_n hx hb dX10_common_10 rfl (lv_at hl 1 rfl) ?_
    refine lv_lload_n hx hb dX10_common_11 rfl (lv_at hl 0 rfl) ?_
    refine lv_lload_n hx hb dX10_common_12 rfl (lv_at hl 1 rfl) ?_
    refine lv_lrem hx hb dX10_common_13 c_1 ?_
    refine lv_topl (fun j_2 ej_2 => ?_)
    refine jnL (wr := []) (rnS (rest := []) ⟨hx, hb, hml, hown, hg⟩ (k_X10_common_23 l V k1 j_2 bk1 c_1 (com_C ej_2 c_1)) mt_X10_common q_8_124 ⟨Nat.le_of_ble_eq_true rfl, Nat.le_of_ble_eq_true rfl⟩ hK hP hD hS hA hE [] rfl rfl rfl hl.1 rfl (Nat.le_of_ble_eq_true rfl) dX10_common_14 ⟨Nat.le_of_ble_eq_true rfl, Nat.le_of_ble_eq_true rfl⟩) hP hD hS hA [] [] rfl rfl rfl (by decide) (fun r_3 w H locs hw hP hD hS => ?_)
    obtain ⟨g_4, rfl⟩ := hw
    have hP : va_P V.1 vwCl [] H := hP
    have hD : va_D A [] := hD
    exact fiL hx hb hr hlk hK hP hD hS dX10_common_17 (Nat.le_of_ble_eq_true rfl) (Nat.le_of_ble_eq_true rfl) (⟨g_4, rfl⟩)
  · replace c_1 : k1 = (0 : Int64) := (lg_cmp_eq _ _).mp c_1
    have b_5 : ivL 0 0 k1 := ivL_q c_1 (ivL_c (0 : Int64) (a := 0) (b := 0) (by decide))
    refine lv_lload_n hx hb dX10_common_6 rfl (lv_at hl 0 rfl) ?_
    refine lv_goto (tgt := 17) hx hb dX10_common_7 (by decide) ?_
    exact fiL hx hb hr hlk hK hP hD hS dX10_common_17 (Nat.le_of_ble_eq_true rfl) (Nat.le_of_ble_eq_true rfl) (⟨(hf0.elim id (fun q9 => absurd c_1 q9)), rfl⟩)
