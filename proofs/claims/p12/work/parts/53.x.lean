theorem dX10_toldFar_0 : decode cX10_toldFar 0 = .ok (.iload_n 0, 1) := by decide +kernel
theorem dX10_toldFar_1 : decode cX10_toldFar 1 = .ok (.ldc_w 361, 3) := by decide +kernel
theorem dX10_toldFar_4 : decode cX10_toldFar 4 = .ok (.if_icmp .ne 7, 3) := by decide +kernel
theorem dX10_toldFar_11 : decode cX10_toldFar 11 = .ok (.iload_n 0, 1) := by decide +kernel
theorem dX10_toldFar_12 : decode cX10_toldFar 12 = .ok (.ireturn, 1) := by decide +kernel
theorem dX10_toldFar_7 : decode cX10_toldFar 7 = .ok (.iconst (-1), 1) := by decide +kernel
theorem dX10_toldFar_8 : decode cX10_toldFar 8 = .ok (.goto 4, 3) := by decide +kernel
set_option maxHeartbeats 4000000 in
set_option maxRecDepth 100000 in
theorem k_X10_toldFar_0 (l : Launch) (V : GV) (a0 : Int32) : Ct l V yX10_toldFar (.code yX10_toldFar cX10_toldFar 1 (some .int)) 1 [.int a0] [] 0 0 (QI V (fun (r : Int32) (w : va_W) => w = [])) := by
  refine Ct.of (by decide) (Nat.le_of_ble_eq_true rfl) (fun p e s m below meth c A ls hx hb hr hml hown hlk hnm hg hP hK hD hE hA hS hl => ?_)
  have hl : lv_has ls 1 [(0, .int a0)] := hl
  refine lv_iload_n hx hb dX10_toldFar_0 rfl (lv_at hl 0 rfl) ?_
  refine lv_ldcw (v := 268435456) hx hb hown (hg _ q_7_202) dX10_toldFar_1 ?_
  refine lv_icmp_ne (tgt := 11) hx hb dX10_toldFar_4 (by decide) (fun c_1 => ?_) (fun c_1 => ?_)
  · refine lv_iload_n hx hb dX10_toldFar_11 rfl (lv_at hl 0 rfl) ?_
    exact fiI hx hb hr hlk hK hP hD hS dX10_toldFar_12 (Nat.le_of_ble_eq_true rfl) (Nat.le_of_ble_eq_true rfl) (rfl)
  · have b_2 : iv 268435456 268435456 a0 := iv_q c_1 (iv_c (268435456 : Int32) (a := 268435456) (b := 268435456) (by decide))
    refine lv_iconst (v := (-1)) hx hb dX10_toldFar_7 (by decide) ?_
    refine lv_goto (tgt := 12) hx hb dX10_toldFar_8 (by decide) ?_
    exact fiI hx hb hr hlk hK hP hD hS dX10_toldFar_12 (Nat.le_of_ble_eq_true rfl) (Nat.le_of_ble_eq_true rfl) (rfl)
theorem dX10_soonest_0 : decode cX10_soonest 0 = .ok (.aload_n 0, 1) := by decide +kernel
theorem dX10_soonest_1 : decode cX10_soonest 1 = .ok (.iconst 0, 1) := by decide +kernel
theorem dX10_soonest_2 : decode cX10_soonest 2 = .ok (.putfield 1, 3) := by decide +kernel
theorem dX10_soonest_5 : decode cX10_soonest 5 = .ok (.aload_n 0, 1) := by decide +kernel
theorem dX10_soonest_6 : decode cX10_soonest 6 = .ok (.iload_n 1, 1) := by decide +kernel
theorem dX10_soonest_7 : decode cX10_soonest 7 = .ok (.iload_n 2, 1) := by decide +kernel
theorem q_7_185 : Cond.code yX10_noHigh prog_12_method_88_code 3 (some FieldType.int) ∈ gw := gw_7 (i := 185) (rfl) rfl
theorem q_7_184 : Cond.instanceMethod yX10_noHigh ∈ gw := gw_7 (i := 184) (by decide +kernel) rfl
theorem q_s_103 : Cond.selects "BeaconDelayModel" yX10_noHigh yX10_noHigh ∈ gw := gw_s (i := 103) (by decide +kernel) rfl
theorem mt_X10_noHigh : MtV yX10_noHigh cX10_noHigh 3 (some .int) 2 := ⟨⟨q_7_185, q_1_9, by decide +kernel, by decide +kernel, by decide +kernel⟩, q_7_184, q_s_103⟩
theorem q_7_182 : Cond.methodLink "BeaconDelayModel" 373 yX10_noHigh ∈ gw := gw_7 (i := 182) (by decide +kernel) rfl
theorem dX10_soonest_8 : decode cX10_soonest 8 = .ok (.invokevirtual 373, 3) := by decide +kernel
theorem dX10_soonest_11 : decode cX10_soonest 11 = .ok (.istore_n 3, 1) := by decide +kernel
theorem dX10_soonest_12 : decode cX10_soonest 12 = .ok (.iload_n 3, 1) := by decide +kernel
theorem dX10_soonest_13 : decode cX10_soonest 13 = .ok (.ifCond .eq 7, 3) := by decide +kernel
theorem dX10_soonest_20 : decode cX10_soonest 20 = .ok (.aload_n 0, 1) := by decide +kernel
theorem dX10_soonest_21 : decode cX10_soonest 21 = .ok (.iload_n 1, 1) := by decide +kernel
theorem dX10_soonest_22 : decode cX10_soonest 22 = .ok (.iload_n 2, 1) := by decide +kernel
theorem q_7_193 : Cond.code yX10_laysFar prog_12_method_85_code 6 (some FieldType.int) ∈ gw := gw_7 (i := 193) (rfl) rfl
theorem q_7_192 : Cond.instanceMethod yX10_laysFar ∈ gw := gw_7 (i := 192) (by decide +kernel) rfl
theorem q_s_104 : Cond.selects "BeaconDelayModel" yX10_laysFar yX10_laysFar ∈ gw := gw_s (i := 104) (by decide +kernel) rfl
theorem mt_X10_laysFar : MtV yX10_laysFar cX10_laysFar 6 (some .int) 2 := ⟨⟨q_7_193, q_1_9, by decide +kernel, by decide +kernel, by decide +kernel⟩, q_7_192, q_s_104⟩
theorem q_7_190 : Cond.methodLink "BeaconDelayModel" 376 yX10_laysFar ∈ gw := gw_7 (i := 190) (by decide +kernel) rfl
theorem dX10_soonest_23 : decode cX10_soonest 23 = .ok (.invokevirtual 376, 3) := by decide +kernel
theorem q_7_209 : Cond.code yX10_toldFar prog_12_method_86_code 1 (some FieldType.int) ∈ gw := gw_7 (i := 209) (rfl) rfl
theorem q_7_208 : Cond.static yX10_toldFar ∈ gw := gw_7 (i := 208) (by decide +kernel) rfl
theorem mt_X10_toldFar : MtS yX10_toldFar cX10_toldFar 1 (some .int) 1 := ⟨⟨q_7_209, q_1_9, by decide +kernel, by decide +kernel, by decide +kernel⟩, q_7_208⟩
theorem q_7_207 : Cond.methodLink "BeaconDelayModel" 379 yX10_toldFar ∈ gw := gw_7 (i := 207) (by decide +kernel) rfl
theorem dX10_soonest_26 : decode cX10_soonest 26 = .ok (.invokestatic 379, 3) := by decide +kernel
theorem dX10_soonest_29 : decode cX10_soonest 29 = .ok (.ireturn, 1) := by decide +kernel
theorem dX10_soonest_16 : decode cX10_soonest 16 = .ok (.iload_n 3, 1) := by decide +kernel
theorem dX10_soonest_17 : decode cX10_soonest 17 = .ok (.goto 12, 3) := by decide +kernel
set_option maxHeartbeats 4000000 in
set_option maxRecDepth 100000 in
theorem k_X10_soonest_0 (l : Launch) (V : GV) (z : Nat → Nat) (a1 : Int32) (a2 : Int32) (pz0_0 : Int32) (pz0_5 : Int32) (pz0_6 : Int32) (pz0_7 : Int32) (pz0_8 : Int32) (pz0_9 : Int32) (pz0_10 : Int32) (pz0_11 : Int32) (pz0_12 : Int32) (pz0_13 : Int32) (pz0_14 : Int32) (pz0_18 : Int32) (pz0_19 : Int32) (pz0_22 : Int32) (pz0_23 : Int32) (pz0_29 : Int32) (fz1 : Nat → Int32) (fz15 : Nat → Int32) (fz16 : Nat → Int32) (fz24 : Nat → Int32) (fz25 : Nat → Int32) (fz26 : Nat → Int32) (fz28 : Nat → Int32) (bpz0_5 : iv 0 900 pz0_5) (bpz0_6 : iv 0 900 pz0_6) (bpz0_7 : iv 0 900 pz0_7) (bpz0_8 : iv 0 900 pz0_8) (bpz0_10 : iv 0 999 pz0_10) (bpz0_11 : iv 0 4 pz0_11) (bpz0_12 : iv 0 900 pz0_12) (bpz0_13 : iv 0 4 pz0_13) (bpz0_14 : iv (-1) 900 pz0_14) (bpz0_18 : iv 0 2 pz0_18) (bpz0_22 : iv 0 9999 pz0_22) (bpz0_29 : iv 0 10000 pz0_29) (tfz1 : ivT tA fz1) (tfz16 : ivT tW fz16) (tfz24 : ∀ j, iv 0 9999 (fz24 j)) (tfz25 : ∀ j, iv (-1) 9999 (fz25 j)) (tfz26 : ∀ j, iv 0 268435456 (fz26 j)) (hf0 : RW fz1) : Ct l V yX10_soonest (.code yX10_soonest cX10_soonest 4 (some .int)) 7 [.ref (z 0), .int a1, .int a2] [(z 0, .inr (10, mo z pz0_0 pz0_5 pz0_6 pz0_7 pz0_8 pz0_9 pz0_10 pz0_11 pz0_12 pz0_13 pz0_14 pz0_18 pz0_19 pz0_22 pz0_23 pz0_29)), (z 1, aI V 3075 fz1), (z 15, aI V 900 fz15), (z 16, aI V 6 fz16), (z 24, aI V 10000 fz24), (z 25, aI V 40000 fz25), (z 26, aI V 10000 fz26), (z 28, aZ V 10000 fz28)] 0 0 (QI V (fun (r : Int32) (w : va_W) => ∃ (v0 : Int32) (v1 : Int32) (g2 : Nat → Int32) (g3 : Nat → Int32) (g4 : Nat → Int32) (g5 : Nat → Int32) (g6 : Nat → Int32) (g7 : Nat → Int32), iv 0 10000 v1 ∧ (ivT tW g3) ∧ (∀ j, iv 0 9999 (g4 j)) ∧ (∀ j, iv (-1) 9999 (g5 j)) ∧ (∀ j, iv 0 268435456 (g6 j)) ∧ (RW fz1) ∧ w = [(z 0, .inr (10, mo z v0 pz0_5 pz0_6 pz0_7 pz0_8 pz0_9 pz0_10 pz0_11 pz0_12 pz0_13 pz0_14 pz0_18 pz0_19 pz0_22 pz0_23 v1)), (z 1, aI V 3075 fz1), (z 15, aI V 900 g2), (z 16, aI V 6 g3), (z 24, aI V 10000 g4), (z 25, aI V 40000 g5), (z 26, aI V 10000 g6), (z 28, aZ V 10000 g7)])) := by
  refine Ct.of (by decide) (Nat.le_of_ble_eq_true rfl) (fun p e s m below meth c A ls hx hb hr hml hown hlk hnm hg hP hK hD hE hA hS hl => ?_)
  have hl : lv_has ls 4 [(0, .ref (z 0)), (1, .int a1), (2, .int a2)] := hl
  refine lv_aload_n hx hb dX10_soonest_0 rfl (lv_at hl 0 rfl) ?_
  refine lv_iconst (v := 0) hx hb dX10_soonest_1 (by decide) ?_
  refine va_put (ci := 10) (v := .int 0) (ty := .int) (C := RX10) (T := TX10) (N := 40) hx hb hg inX10 tyX10 tyX10_ok nmX10 hown hK hP hD hS 0 rfl rfl 0 (by decide) (hg _ q_5_224) (fun _ h9 => h9) rfl (by decide +kernel) rfl rfl (Nat.le_of_ble_eq_true rfl) dX10_soonest_2 (fun H locs hP hD hS => ?_)
  have hP : va_P V.1 vwCl [(z 0, .inr (10, mo z 0 pz0_5 pz0_6 pz0_7 pz0_8 pz0_9 pz0_10 pz0_11 pz0_12 pz0_13 pz0_14 pz0_18 pz0_19 pz0_22 pz0_23 pz0_29)), (z 1, aI V 3075 fz1), (z 15, aI V 900 fz15), (z 16, aI V 6 fz16), (z 24, aI V 10000 fz24), (z 25, aI V 40000 fz25), (z 26, aI V 10000 fz26), (z 28, aZ V 10000 fz28)] H := hP
  have hD := cpD hP hD
  refine lv_aload_n hx hb dX10_soonest_5 rfl (lv_at hl 0 rfl) ?_
  refine lv_iload_n hx hb dX10_soonest_6 rfl (lv_at hl 1 rfl) ?_
  refine lv_iload_n hx hb dX10_soonest_7 rfl (lv_at hl 2 rfl) ?_
  refine jnI (wr := [(z 15, aI V 900 fz15), (z 16, aI V 6 fz16), (z 24, aI V 10000 fz24), (z 25, aI V 40000 fz25), (z 26, aI V 10000 fz26), (z 28, aZ V 10000 fz28)]) (rnV (rest := []) ⟨hx, hb, hml, hown, hg⟩ (k_X10_noHigh_0 l V z a1 a2 0 pz0_5 pz0_6 pz0_7 pz0_8 pz0_9 pz0_10 pz0_11 pz0_12 pz0_13 pz0_14 pz0_18 pz0_19 pz0_22 pz0_23 pz0_29 fz1 bpz0_5 bpz0_6 bpz0_7 bpz0_8 bpz0_10 bpz0_11 bpz0_12 bpz0_13 bpz0_14 bpz0_18 bpz0_22 bpz0_29 tfz1) mt_X10_noHigh q_7_182 ⟨Nat.le_of_ble_eq_true rfl, Nat.le_of_ble_eq_true rfl⟩ hK hP hD hS hA hE [0, 1] rfl rfl 0 rfl rfl rfl rfl hl.1 rfl (Nat.le_of_ble_eq_true rfl) dX10_soonest_8 ⟨Nat.le_of_ble_eq_true rfl, Nat.le_of_ble_eq_true rfl⟩) hP hD hS hA [0, 1] [2, 3, 4, 5, 6, 7] rfl rfl rfl (by decide) (fun r_1 w H locs hw hP hD hS => ?_)
  obtain ⟨br_1, g_2, g_3, rfl⟩ := hw
  have hP : va_P V.1 vwCl [(z 15, aI V 900 fz15), (z 16, aI V 6 fz16), (z 24, aI V 10000 fz24), (z 25, aI V 40000 fz25), (z 26, aI V 10000 fz26), (z 28, aZ V 10000 fz28), (z 0, .inr (10, mo z 0 pz0_5 pz0_6 pz0_7 pz0_8 pz0_9 pz0_10 pz0_11 pz0_12 pz0_13 pz0_14 pz0_18 pz0_19 pz0_22 pz0_23 pz0_29)), (z 1, aI V 3075 fz1)] H := hP
  have hD := cpD hP hD
  refine lv_istore_n (lv' := [(3, .int r_1), (0, .ref (z 0)), (1, .int a1), (2, .int a2)]) hx hb dX10_soonest_11 rfl hl (by decide) rfl (fun ls hl => ?_)
  refine lv_iload_n hx hb dX10_soonest_12 rfl (lv_at hl 0 rfl) ?_
  refine lv_if_eq (tgt := 20) hx hb dX10_soonest_13 (by decide) (fun c_4 => ?_) (fun c_4 => ?_)
  · have b_5 : iv 0 0 r_1 := iv_q c_4 (iv_c (0 : Int32) (a := 0) (b := 0) (by decide))
    have b_6 : iv 0 3 a1 := iv_cap (g_2 (iv_eqp b_5 (iv_c (0 : Int32) (by decide)))) (iv_top a1) (by decide)
    have b_7 : iv 0 4 a2 := iv_cap (g_3 (iv_eqp b_5 (iv_c (0 : Int32) (by decide)))) (iv_top a2) (by decide)
    refine lv_aload_n hx hb dX10_soonest_20 rfl (lv_at hl 1 rfl) ?_
    refine lv_iload_n hx hb dX10_soonest_21 rfl (lv_at hl 2 rfl) ?_
    refine lv_iload_n hx hb dX10_soonest_22 rfl (lv_at hl 3 rfl) ?_
    refine jnI (wr := []) (rnV (rest := []) ⟨hx, hb, hml, hown, hg⟩ (k_X10_laysFar_0 l V z a1 a2 fz15 fz16 fz24 fz25 fz26 fz28 0 pz0_5 pz0_6 pz0_7 pz0_8 pz0_9 pz0_10 pz0_11 pz0_12 pz0_13 pz0_14 pz0_18 pz0_19 pz0_22 pz0_23 pz0_29 fz1 b_6 tfz16 tfz24 tfz25 tfz26 bpz0_5 bpz0_6 bpz0_7 bpz0_8 bpz0_10 bpz0_11 bpz0_12 bpz0_13 bpz0_14 bpz0_18 bpz0_22 bpz0_29 tfz1 hf0) mt_X10_laysFar q_7_190 ⟨Nat.le_of_ble_eq_true rfl, Nat.le_of_ble_eq_true rfl⟩ hK hP hD hS hA hE [0, 1, 2, 3, 4, 5, 6, 7] rfl rfl 6 rfl rfl rfl rfl hl.1 rfl (Nat.le_of_ble_eq_true rfl) dX10_soonest_23 ⟨Nat.le_of_ble_eq_true rfl, Nat.le_of_ble_eq_true rfl⟩) hP hD hS hA [0, 1, 2, 3, 4, 5, 6, 7] [] rfl rfl rfl (by decide) (fun r_8 w H locs hw hP hD hS => ?_)
    obtain ⟨f_9, f_10, f_11, f_12, f_13, f_14, v_15, tf_10, tf_11, tf_12, tf_13, bv_15, br_8, g_16, g_17, g_18, g_19, g_20, rfl⟩ := hw
    have hP : va_P V.1 vwCl [(z 15, aI V 900 f_9), (z 16, aI V 6 f_10), (z 24, aI V 10000 f_11), (z 25, aI V 40000 f_12), (z 26, aI V 10000 f_13), (z 28, aZ V 10000 f_14), (z 0, .inr (10, mo z 0 pz0_5 pz0_6 pz0_7 pz0_8 pz0_9 pz0_10 pz0_11 pz0_12 pz0_13 pz0_14 pz0_18 pz0_19 pz0_22 pz0_23 v_15)), (z 1, aI V 3075 fz1)] H := hP
    have hD := cpD hP hD
    refine jnI (wr := [(z 15, aI V 900 f_9), (z 16, aI V 6 f_10), (z 24, aI V 10000 f_11), (z 25, aI V 40000 f_12), (z 26, aI V 10000 f_13), (z 28, aZ V 10000 f_14), (z 0, .inr (10, mo z 0 pz0_5 pz0_6 pz0_7 pz0_8 pz0_9 pz0_10 pz0_11 pz0_12 pz0_13 pz0_14 pz0_18 pz0_19 pz0_22 pz0_23 v_15)), (z 1, aI V 3075 fz1)]) (rnS (rest := []) ⟨hx, hb, hml, hown, hg⟩ (k_X10_toldFar_0 l V r_8) mt_X10_toldFar q_7_207 ⟨Nat.le_of_ble_eq_true rfl, Nat.le_of_ble_eq_true rfl⟩ hK hP hD hS hA hE [] rfl rfl rfl hl.1 rfl (Nat.le_of_ble_eq_true rfl) dX10_soonest_26 ⟨Nat.le_of_ble_eq_true rfl, Nat.le_of_ble_eq_true rfl⟩) hP hD hS hA [] [0, 1, 2, 3, 4, 5, 6, 7] rfl rfl rfl (by decide) (fun r_21 w H locs hw hP hD hS => ?_)
    subst hw
    have hP : va_P V.1 vwCl [(z 15, aI V 900 f_9), (z 16, aI V 6 f_10), (z 24, aI V 10000 f_11), (z 25, aI V 40000 f_12), (z 26, aI V 10000 f_13), (z 28, aZ V 10000 f_14), (z 0, .inr (10, mo z 0 pz0_5 pz0_6 pz0_7 pz0_8 pz0_9 pz0_10 pz0_11 pz0_12 pz0_13 pz0_14 pz0_18 pz0_19 pz0_22 pz0_23 v_15)), (z 1, aI V 3075 fz1)] H := hP
    have hD := cpD hP hD
    have hP := subP (ws' := [(z 0, .inr (10, mo z 0 pz0_5 pz0_6 pz0_7 pz0_8 pz0_9 pz0_10 pz0_11 pz0_12 pz0_13 pz0_14 pz0_18 pz0_19 pz0_22 pz0_23 v_15)), (z 1, aI V 3075 fz1), (z 15, aI V 900 f_9), (z 16, aI V 6 f_10), (z 24, aI V 10000 f_11), (z 25, aI V 40000 f_12), (z 26, aI V 10000 f_13), (z 28, aZ V 10000 f_14)]) hP [6, 7, 0, 1, 2, 3, 4, 5] rfl
    have hD := subD hP hD [6, 7, 0, 1, 2, 3, 4, 5] rfl rfl
    exact fiI hx hb hr hlk hK hP hD hS dX10_soonest_29 (Nat.le_of_ble_eq_true rfl) (Nat.le_of_ble_eq_true rfl) (⟨0, v_15, f_9, f_10, f_11, f_12, f_13, f_14, bv_15, tf_10, tf_11, tf_12, tf_13, g_16, rfl⟩)
  · have b_22 : iv (-3) (-1) r_1 := iv_n1 c_4 br_1 (iv_c (0 : Int32) (a := 0) (b := 0) (by decide)) (by decide)
    refine lv_iload_n hx hb dX10_soonest_16 rfl (lv_at hl 0 rfl) ?_
    refine lv_goto (tgt := 29) hx hb dX10_soonest_17 (by decide) ?_
    have hP := subP (ws' := [(z 0, .inr (10, mo z 0 pz0_5 pz0_6 pz0_7 pz0_8 pz0_9 pz0_10 pz0_11 pz0_12 pz0_13 pz0_14 pz0_18 pz0_19 pz0_22 pz0_23 pz0_29)), (z 1, aI V 3075 fz1), (z 15, aI V 900 fz15), (z 16, aI V 6 fz16), (z 24, aI V 10000 fz24), (z 25, aI V 40000 fz25), (z 26, aI V 10000 fz26), (z 28, aZ V 10000 fz28)]) hP [6, 7, 0, 1, 2, 3, 4, 5] rfl
    have hD := subD hP hD [6, 7, 0, 1, 2, 3, 4, 5] rfl rfl
    exact fiI hx hb hr hlk hK hP hD hS dX10_soonest_29 (Nat.le_of_ble_eq_true rfl) (Nat.le_of_ble_eq_true rfl) (⟨0, pz0_29, fz15, fz16, fz24, fz25, fz26, fz28, bpz0_29, tfz16, tfz24, tfz25, tfz26, hf0, rfl⟩)
theorem dX10_way_0 : decode cX10_way 0 = .ok (.aload_n 0, 1) := by decide +kernel
theorem dX10_way_1 : decode cX10_way 1 = .ok (.iconst 0, 1) := by decide +kernel
theorem dX10_way_2 : decode cX10_way 2 = .ok (.putfield 1, 3) := by decide +kernel
theorem dX10_way_5 : decode cX10_way 5 = .ok (.aload_n 0, 1) := by decide +kernel
theorem dX10_way_6 : decode cX10_way 6 = .ok (.iload_n 1, 1) := by decide +kernel
theorem dX10_way_7 : decode cX10_way 7 = .ok (.iload_n 2, 1) := by decide +kernel
theorem dX10_way_8 : decode cX10_way 8 = .ok (.invokevirtual 373, 3) := by decide +kernel
theorem dX10_way_11 : decode cX10_way 11 = .ok (.istore 4, 2) := by decide +kernel
theorem dX10_way_13 : decode cX10_way 13 = .ok (.iload 4, 2) := by decide +kernel
theorem dX10_way_15 : decode cX10_way 15 = .ok (.ifCond .eq 6, 3) := by decide +kernel
theorem dX10_way_21 : decode cX10_way 21 = .ok (.iload_n 3, 1) := by decide +kernel
theorem dX10_way_22 : decode cX10_way 22 = .ok (.ifCond .ge 6, 3) := by decide +kernel
theorem dX10_way_28 : decode cX10_way 28 = .ok (.aload_n 0, 1) := by decide +kernel
theorem dX10_way_29 : decode cX10_way 29 = .ok (.iload_n 1, 1) := by decide +kernel
theorem dX10_way_30 : decode cX10_way 30 = .ok (.iload_n 2, 1) := by decide +kernel
theorem dX10_way_31 : decode cX10_way 31 = .ok (.invokevirtual 376, 3) := by decide +kernel
theorem dX10_way_34 : decode cX10_way 34 = .ok (.pop, 1) := by decide +kernel
theorem dX10_way_35 : decode cX10_way 35 = .ok (.aload_n 0, 1) := by decide +kernel
theorem dX10_way_36 : decode cX10_way 36 = .ok (.invokevirtual 269, 3) := by decide +kernel
theorem dX10_way_39 : decode cX10_way 39 = .ok (.istore 5, 2) := by decide +kernel
theorem dX10_way_41 : decode cX10_way 41 = .ok (.iconst 0, 1) := by decide +kernel
theorem dX10_way_42 : decode cX10_way 42 = .ok (.istore 6, 2) := by decide +kernel
theorem dX10_way_44 : decode cX10_way 44 = .ok (.aload_n 0, 1) := by decide +kernel
theorem dX10_way_45 : decode cX10_way 45 = .ok (.getfield 52, 3) := by decide +kernel
theorem dX10_way_48 : decode cX10_way 48 = .ok (.iload 5, 2) := by decide +kernel
theorem dX10_way_50 : decode cX10_way 50 = .ok (.iaload, 1) := by decide +kernel
theorem dX10_way_51 : decode cX10_way 51 = .ok (.ifCond .le 72, 3) := by decide +kernel
theorem dX10_way_123 : decode cX10_way 123 = .ok (.iconst (-1), 1) := by decide +kernel
theorem dX10_way_124 : decode cX10_way 124 = .ok (.ireturn, 1) := by decide +kernel
theorem dX10_way_54 : decode cX10_way 54 = .ok (.aload_n 0, 1) := by decide +kernel
theorem dX10_way_55 : decode cX10_way 55 = .ok (.getfield 52, 3) := by decide +kernel
theorem dX10_way_58 : decode cX10_way 58 = .ok (.iload 5, 2) := by decide +kernel
theorem dX10_way_60 : decode cX10_way 60 = .ok (.iaload, 1) := by decide +kernel
theorem dX10_way_61 : decode cX10_way 61 = .ok (.ldc_w 361, 3) := by decide +kernel
theorem dX10_way_64 : decode cX10_way 64 = .ok (.if_icmp .ge 59, 3) := by decide +kernel
theorem dX10_way_67 : decode cX10_way 67 = .ok (.iconst 0, 1) := by decide +kernel
theorem dX10_way_68 : decode cX10_way 68 = .ok (.istore 7, 2) := by decide +kernel
theorem dX10_way_70 : decode cX10_way 70 = .ok (.aload_n 0, 1) := by decide +kernel
theorem dX10_way_71 : decode cX10_way 71 = .ok (.iload 5, 2) := by decide +kernel
theorem dX10_way_73 : decode cX10_way 73 = .ok (.iload 7, 2) := by decide +kernel
theorem dX10_way_75 : decode cX10_way 75 = .ok (.invokevirtual 365, 3) := by decide +kernel
theorem dX10_way_78 : decode cX10_way 78 = .ok (.aload_n 0, 1) := by decide +kernel
theorem dX10_way_79 : decode cX10_way 79 = .ok (.getfield 52, 3) := by decide +kernel
theorem dX10_way_82 : decode cX10_way 82 = .ok (.iload 5, 2) := by decide +kernel
theorem dX10_way_84 : decode cX10_way 84 = .ok (.iaload, 1) := by decide +kernel
theorem dX10_way_85 : decode cX10_way 85 = .ok (.if_icmp .eq 9, 3) := by decide +kernel
theorem dX10_way_94 : decode cX10_way 94 = .ok (.iload 6, 2) := by decide +kernel
theorem dX10_way_96 : decode cX10_way 96 = .ok (.iload_n 3, 1) := by decide +kernel
theorem dX10_way_97 : decode cX10_way 97 = .ok (.if_icmp .ne 6, 3) := by decide +kernel
theorem dX10_way_103 : decode cX10_way 103 = .ok (.aload_n 0, 1) := by decide +kernel
theorem dX10_way_104 : decode cX10_way 104 = .ok (.getfield 49, 3) := by decide +kernel
theorem dX10_way_107 : decode cX10_way 107 = .ok (.iconst 4, 1) := by decide +kernel
theorem dX10_way_108 : decode cX10_way 108 = .ok (.iload 5, 2) := by decide +kernel
theorem dX10_way_110 : decode cX10_way 110 = .ok (.imul, 1) := by decide +kernel
theorem dX10_way_111 : decode cX10_way 111 = .ok (.iload 7, 2) := by decide +kernel
theorem dX10_way_113 : decode cX10_way 113 = .ok (.iadd, 1) := by decide +kernel
theorem dX10_way_114 : decode cX10_way 114 = .ok (.iaload, 1) := by decide +kernel
theorem dX10_way_115 : decode cX10_way 115 = .ok (.istore 5, 2) := by decide +kernel
theorem dX10_way_117 : decode cX10_way 117 = .ok (.iinc 6 1, 3) := by decide +kernel
theorem dX10_way_120 : decode cX10_way 120 = .ok (.goto (-76), 3) := by decide +kernel
theorem dX10_way_100 : decode cX10_way 100 = .ok (.iload 7, 2) := by decide +kernel
theorem dX10_way_102 : decode cX10_way 102 = .ok (.ireturn, 1) := by decide +kernel
theorem dX10_way_88 : decode cX10_way 88 = .ok (.iinc 7 1, 3) := by decide +kernel
theorem dX10_way_91 : decode cX10_way 91 = .ok (.goto (-21), 3) := by decide +kernel
theorem dX10_way_25 : decode cX10_way 25 = .ok (.bipush (-3), 2) := by decide +kernel
theorem dX10_way_27 : decode cX10_way 27 = .ok (.ireturn, 1) := by decide +kernel
theorem dX10_way_18 : decode cX10_way 18 = .ok (.iload 4, 2) := by decide +kernel
theorem dX10_way_20 : decode cX10_way 20 = .ok (.ireturn, 1) := by decide +kernel
set_option maxHeartbeats 4000000 in
set_option maxRecDepth 100000 in
theorem k_X10_way_0 (l : Launch) (V : GV) (z : Nat → Nat) (a1 : Int32) (a2 : Int32) (a3 : Int32) (pz0_0 : Int32) (pz0_5 : Int32) (pz0_6 : Int32) (pz0_7 : Int32) (pz0_8 : Int32) (pz0_9 : Int32) (pz0_10 : Int32) (pz0_11 : Int32) (pz0_12 : Int32) (pz0_13 : Int32) (pz0_14 : Int32) (pz0_18 : Int32) (pz0_19 : Int32) (pz0_22 : Int32) (pz0_23 : Int32) (pz0_29 : Int32) (fz1 : Nat → Int32) (fz15 : Nat → Int32) (fz16 : Nat → Int32) (fz24 : Nat → Int32) (fz25 : Nat → Int32) (fz26 : Nat → Int32) (fz28 : Nat → Int32) (bpz0_5 : iv 0 900 pz0_5) (bpz0_6 : iv 0 900 pz0_6) (bpz0_7 : iv 0 900 pz0_7) (bpz0_8 : iv 0 900 pz0_8) (bpz0_10 : iv 0 999 pz0_10) (bpz0_11 : iv 0 4 pz0_11) (bpz0_12 : iv 0 900 pz0_12) (bpz0_13 : iv 0 4 pz0_13) (bpz0_14 : iv (-1) 900 pz0_14) (bpz0_18 : iv 0 2 pz0_18) (bpz0_22 : iv 0 9999 pz0_22) (bpz0_29 : iv 0 10000 pz0_29) (tfz1 : ivT tA fz1) (tfz16 : ivT tW fz16) (tfz24 : ∀ j, iv 0 9999 (fz24 j)) (tfz25 : ∀ j, iv (-1) 9999 (fz25 j)) (tfz26 : ∀ j, iv 0 268435456 (fz26 j)) (hf0 : RW fz1) : Ct l V yX10_way (.code yX10_way cX10_way 8 (some .int)) 7 [.ref (z 0), .int a1, .int a2, .int a3] [(z 0, .inr (10, mo z pz0_0 pz0_5 pz0_6 pz0_7 pz0_8 pz0_9 pz0_10 pz0_11 pz0_12 pz0_13 pz0_14 pz0_18 pz0_19 pz0_22 pz0_23 pz0_29)), (z 1, aI V 3075 fz1), (z 15, aI V 900 fz15), (z 16, aI V 6 fz16), (z 24, aI V 10000 fz24), (z 25, aI V 40000 fz25), (z 26, aI V 10000 fz26), (z 28, aZ V 10000 fz28)] 0 0 (QI V (fun (r : Int32) (w : va_W) => ∃ (v0 : Int32) (v1 : Int32) (g2 : Nat → Int32) (g3 : Nat → Int32) (g4 : Nat → Int32) (g5 : Nat → Int32) (g6 : Nat → Int32) (g7 : Nat → Int32), iv 0 10000 v1 ∧ (ivT tW g3) ∧ (∀ j, iv 0 9999 (g4 j)) ∧ (∀ j, iv (-1) 9999 (g5 j)) ∧ (∀ j, iv 0 268435456 (g6 j)) ∧ iv (-3) 3 r ∧ (RW fz1) ∧ w = [(z 0, .inr (10, mo z v0 pz0_5 pz0_6 pz0_7 pz0_8 pz0_9 pz0_10 pz0_11 pz0_12 pz0_13 pz0_14 pz0_18 pz0_19 pz0_22 pz0_23 v1)), (z 1, aI V 3075 fz1), (z 15, aI V 900 g2), (z 16, aI V 6 g3), (z 24, aI V 10000 g4), (z 25, aI V 40000 g5), (z 26, aI V 10000 g6), (z 28, aZ V 10000 g7)])) := by
  refine Ct.of (by decide) (Nat.le_of_ble_eq_true rfl) (fun p e s m below meth c A ls hx hb hr hml hown hlk hnm hg hP hK hD hE hA hS hl => ?_)
  have hl : lv_has ls 8 [(0, .ref (z 0)), (1, .int a1), (2, .int a2), (3, .int a3)] := hl
  refine lv_aload_n hx hb dX10_way_0 rfl (lv_at hl 0 rfl) ?_
  refine lv_iconst (v := 0) hx hb dX10_way_1 (by decide) ?_
  refine va_put (ci := 10) (v := .int 0) (ty := .int) (C := RX10) (T := TX10) (N := 40) hx hb hg inX10 tyX10 tyX10_ok nmX10 hown hK hP hD hS 0 rfl rfl 0 (by decide) (hg _ q_5_224) (fun _ h9 => h9) rfl (by decide +kernel) rfl rfl (Nat.le_of_ble_eq_true rfl) dX10_way_2 (fun H locs hP hD hS => ?_)
  have hP : va_P V.1 vwCl [(z 0, .inr (10, mo z 0 pz0_5 pz0_6 pz0_7 pz0_8 pz0_9 pz0_10 pz0_11 pz0_12 pz0_13 pz0_14 pz0_18 pz0_19 pz0_22 pz0_23 pz0_29)), (z 1, aI V 3075 fz1), (z 15, aI V 900 fz15), (z 16, aI V 6 fz16), (z 24, aI V 10000 fz24), (z 25, aI V 40000 fz25), (z 26, aI V 10000 fz26), (z 28, aZ V 10000 fz28)] H := hP
  have hD := cpD hP hD
  refine lv_aload_n hx hb dX10_way_5 rfl (lv_at hl 0 rfl) ?_
  refine lv_iload_n hx hb dX10_way_6 rfl (lv_at hl 1 rfl) ?_
  refine lv_iload_n hx hb dX10_way_7 rfl (lv_at hl 2 rfl) ?_
  refine jnI (wr := [(z 15, aI V 900 fz15), (z 16, aI V 6 fz16), (z 24, aI V 10000 fz24), (z 25, aI V 40000 fz25), (z 26, aI V 10000 fz26), (z 28, aZ V 10000 fz28)]) (rnV (rest := []) ⟨hx, hb, hml, hown, hg⟩ (k_X10_noHigh_0 l V z a1 a2 0 pz0_5 pz0_6 pz0_7 pz0_8 pz0_9 pz0_10 pz0_11 pz0_12 pz0_13 pz0_14 pz0_18 pz0_19 pz0_22 pz0_23 pz0_29 fz1 bpz0_5 bpz0_6 bpz0_7 bpz0_8 bpz0_10 bpz0_11 bpz0_12 bpz0_13 bpz0_14 bpz0_18 bpz0_22 bpz0_29 tfz1) mt_X10_noHigh q_7_182 ⟨Nat.le_of_ble_eq_true rfl, Nat.le_of_ble_eq_true rfl⟩ hK hP hD hS hA hE [0, 1] rfl rfl 0 rfl rfl rfl rfl hl.1 rfl (Nat.le_of_ble_eq_true rfl) dX10_way_8 ⟨Nat.le_of_ble_eq_true rfl, Nat.le_of_ble_eq_true rfl⟩) hP hD hS hA [0, 1] [2, 3, 4, 5, 6, 7] rfl rfl rfl (by decide) (fun r_1 w H locs hw hP hD hS => ?_)
  obtain ⟨br_1, g_2, g_3, rfl⟩ := hw
  have hP : va_P V.1 vwCl [(z 15, aI V 900 fz15), (z 16, aI V 6 fz16), (z 24, aI V 10000 fz24), (z 25, aI V 40000 fz25), (z 26, aI V 10000 fz26), (z 28, aZ V 10000 fz28), (z 0, .inr (10, mo z 0 pz0_5 pz0_6 pz0_7 pz0_8 pz0_9 pz0_10 pz0_11 pz0_12 pz0_13 pz0_14 pz0_18 pz0_19 pz0_22 pz0_23 pz0_29)), (z 1, aI V 3075 fz1)] H := hP
  have hD := cpD hP hD
  refine lv_istore (lv' := [(4, .int r_1), (0, .ref (z 0)), (1, .int a1), (2, .int a2), (3, .int a3)]) hx hb dX10_way_11 hl (by decide) rfl (fun ls hl => ?_)
  refine lv_iload hx hb dX10_way_13 (lv_at hl 0 rfl) ?_
  refine lv_if_eq (tgt := 21) hx hb dX10_way_15 (by decide) (fun c_4 => ?_) (fun c_4 => ?_)
  · have b_5 : iv 0 0 r_1 := iv_q c_4 (iv_c (0 : Int32) (a := 0) (b := 0) (by decide))
    have b_6 : iv 0 3 a1 := iv_cap (g_2 (iv_eqp b_5 (iv_c (0 : Int32) (by decide)))) (iv_top a1) (by decide)
    have b_7 : iv 0 4 a2 := iv_cap (g_3 (iv_eqp b_5 (iv_c (0 : Int32) (by decide)))) (iv_top a2) (by decide)
    refine lv_iload_n hx hb dX10_way_21 rfl (lv_at hl 4 rfl) ?_
    refine lv_if_ge (tgt := 28) hx hb dX10_way_22 (by decide) (fun c_8 => ?_) (fun c_8 => ?_)
    · have b_9 : iv 0 2147483647 a3 := iv_e2 c_8 (iv_c (0 : Int32) (a := 0) (b := 0) (by decide)) (iv_top a3) (by decide)
      refine lv_aload_n hx hb dX10_way_28 rfl (lv_at hl 1 rfl) ?_
      refine lv_iload_n hx hb dX10_way_29 rfl (lv_at hl 2 rfl) ?_
      refine lv_iload_n hx hb dX10_way_30 rfl (lv_at hl 3 rfl) ?_
      refine jnI (wr := []) (rnV (rest := []) ⟨hx, hb, hml, hown, hg⟩ (k_X10_laysFar_0 l V z a1 a2 fz15 fz16 fz24 fz25 fz26 fz28 0 pz0_5 pz0_6 pz0_7 pz0_8 pz0_9 pz0_10 pz0_11 pz0_12 pz0_13 pz0_14 pz0_18 pz0_19 pz0_22 pz0_23 pz0_29 fz1 b_6 tfz16 tfz24 tfz25 tfz26 bpz0_5 bpz0_6 bpz0_7 bpz0_8 bpz0_10 bpz0_11 bpz0_12 bpz0_13 bpz0_14 bpz0_18 bpz0_22 bpz0_29 tfz1 hf0) mt_X10_laysFar q_7_190 ⟨Nat.le_of_ble_eq_true rfl, Nat.le_of_ble_eq_true rfl⟩ hK hP hD hS hA hE [0, 1, 2, 3, 4, 5, 6, 7] rfl rfl 6 rfl rfl rfl rfl hl.1 rfl (Nat.le_of_ble_eq_true rfl) dX10_way_31 ⟨Nat.le_of_ble_eq_true rfl, Nat.le_of_ble_eq_true rfl⟩) hP hD hS hA [0, 1, 2, 3, 4, 5, 6, 7] [] rfl rfl rfl (by decide) (fun r_10 w H locs hw hP hD hS => ?_)
      obtain ⟨f_11, f_12, f_13, f_14, f_15, f_16, v_17, tf_12, tf_13, tf_14, tf_15, bv_17, br_10, g_18, g_19, g_20, g_21, g_22, rfl⟩ := hw
      have hP : va_P V.1 vwCl [(z 15, aI V 900 f_11), (z 16, aI V 6 f_12), (z 24, aI V 10000 f_13), (z 25, aI V 40000 f_14), (z 26, aI V 10000 f_15), (z 28, aZ V 10000 f_16), (z 0, .inr (10, mo z 0 pz0_5 pz0_6 pz0_7 pz0_8 pz0_9 pz0_10 pz0_11 pz0_12 pz0_13 pz0_14 pz0_18 pz0_19 pz0_22 pz0_23 v_17)), (z 1, aI V 3075 fz1)] H := hP
      have hD := cpD hP hD
      refine lv_pop hx hb dX10_way_34 rfl ?_
      refine lv_aload_n hx hb dX10_way_35 rfl (lv_at hl 1 rfl) ?_
      refine jnI (wr := [(z 15, aI V 900 f_11), (z 16, aI V 6 f_12), (z 24, aI V 10000 f_13), (z 25, aI V 40000 f_14), (z 26, aI V 10000 f_15), (z 28, aZ V 10000 f_16)]) (rnV (rest := []) ⟨hx, hb, hml, hown, hg⟩ (k_X10_standNow_0 l V z 0 pz0_5 pz0_6 pz0_7 pz0_8 pz0_9 pz0_10 pz0_11 pz0_12 pz0_13 pz0_14 pz0_18 pz0_19 pz0_22 pz0_23 v_17 fz1 bpz0_5 bpz0_6 bpz0_7 bpz0_8 bpz0_10 bpz0_11 bpz0_12 bpz0_13 bpz0_14 bpz0_18 bpz0_22 bv_17 tfz1) mt_X10_standNow q_7_11 ⟨Nat.le_of_ble_eq_true rfl, Nat.le_of_ble_eq_true rfl⟩ hK hP hD hS hA hE [6, 7] rfl rfl 6 rfl rfl rfl rfl hl.1 rfl (Nat.le_of_ble_eq_true rfl) dX10_way_36 ⟨Nat.le_of_ble_eq_true rfl, Nat.le_of_ble_eq_true rfl⟩) hP hD hS hA [6, 7] [0, 1, 2, 3, 4, 5] rfl rfl rfl (by decide) (fun r_23 w H locs hw hP hD hS => ?_)
      obtain ⟨br_23, er_23, et_24, rfl⟩ := hw
      have hP : va_P V.1 vwCl [(z 15, aI V 900 f_11), (z 16, aI V 6 f_12), (z 24, aI V 10000 f_13), (z 25, aI V 40000 f_14), (z 26, aI V 10000 f_15), (z 28, aZ V 10000 f_16), (z 0, .inr (10, mo z 0 pz0_5 pz0_6 pz0_7 pz0_8 pz0_9 pz0_10 pz0_11 pz0_12 pz0_13 pz0_14 pz0_18 pz0_19 pz0_22 pz0_23 v_17)), (z 1, aI V 3075 fz1)] H := hP
      have hD := cpD hP hD
      refine lv_istore (lv' := [(5, .int r_23), (4, .int r_1), (0, .ref (z 0)), (1, .int a1), (2, .int a2), (3, .int a3)]) hx hb dX10_way_39 hl (by decide) rfl (fun ls hl => ?_)
      refine lv_iconst (v := 0) hx hb dX10_way_41 (by decide) ?_
      refine lv_istore (lv' := [(6, .int 0), (5, .int r_23), (4, .int r_1), (0, .ref (z 0)), (1, .int a1), (2, .int a2), (3, .int a3)]) hx hb dX10_way_42 hl (by decide) rfl (fun ls hl => ?_)
      refine loopF (X := fun (n_27 : Nat) (H : Heap) (locs : List Loc) (ls : Array Slot) => ∃ (u_25 : Int32) (u_26 : Int32), (iv 0 9999 u_26) ∧ (inS v_17 f_13 (u_26 : Int32).toNatClampNeg) ∧ (RW fz1) ∧ n_27 = (f_15 (u_26 : Int32).toNatClampNeg).toNatClampNeg ∧ va_P V.1 vwCl [(z 15, aI V 900 f_11), (z 16, aI V 6 f_12), (z 24, aI V 10000 f_13), (z 25, aI V 40000 f_14), (z 26, aI V 10000 f_15), (z 28, aZ V 10000 f_16), (z 0, .inr (10, mo z 0 pz0_5 pz0_6 pz0_7 pz0_8 pz0_9 pz0_10 pz0_11 pz0_12 pz0_13 pz0_14 pz0_18 pz0_19 pz0_22 pz0_23 v_17)), (z 1, aI V 3075 fz1)] H ∧ va_D A [(z 15, aI V 900 f_11), (z 16, aI V 6 f_12), (z 24, aI V 10000 f_13), (z 25, aI V 40000 f_14), (z 26, aI V 10000 f_15), (z 28, aZ V 10000 f_16), (z 0, .inr (10, mo z 0 pz0_5 pz0_6 pz0_7 pz0_8 pz0_9 pz0_10 pz0_11 pz0_12 pz0_13 pz0_14 pz0_18 pz0_19 pz0_22 pz0_23 v_17)), (z 1, aI V 3075 fz1)] ∧ va_S A s.heap H locs ∧ lv_has ls 8 [(6, .int u_25), (5, .int u_26), (4, .int r_1), (0, .ref (z 0)), (1, .int a1), (2, .int a2), (3, .int a3)]) (g := fun ls => F0 m 44 ls []) (fun n_27 H locs ls hX ihn_27 => ?_) _ ⟨0, r_23, br_23, (by rw [er_23]; exact g_20), g_18, rfl, hP, hD, hS, lv_sub hl [0, 1, 2, 3, 4, 5, 6] rfl⟩
      obtain ⟨u_25, u_26, bu_26, inn_27_0, inn_27_1, en_27, hP, hD, hS, hl⟩ := hX
      refine lv_aload_n hx hb dX10_way_44 rfl (lv_at hl 3 rfl) ?_
      refine va_get (ci := 10) (v := .ref (z 26)) (C := RX10) (T := TX10) (N := 40) hx hb hg inX10 hown hK hP 6 rfl rfl 26 (by decide) (hg _ q_6_10) (fun _ h9 => h9) rfl dX10_way_45 ?_
      refine lv_iload hx hb dX10_way_48 (lv_at hl 1 rfl) ?_
      refine va_iald hx hb hK hP 4 0 rfl rfl (iv_in bu_26 (by decide)) dX10_way_50 ?_
      refine lv_topi (fun x_28 ex_28 => ?_)
      have bx_28 : iv 0 268435456 x_28 := by rw [ex_28]; exact tf_15 _
      refine lv_if_le (tgt := 123) hx hb dX10_way_51 (by decide) (fun c_29 => ?_) (fun c_29 => ?_)
      · have b_30 : iv 0 0 x_28 := iv_e1 c_29 bx_28 (iv_c (0 : Int32) (a := 0) (b := 0) (by decide)) (by decide)
        refine lv_iconst (v := (-1)) hx hb dX10_way_123 (by decide) ?_
        have hP := subP (ws' := [(z 0, .inr (10, mo z 0 pz0_5 pz0_6 pz0_7 pz0_8 pz0_9 pz0_10 pz0_11 pz0_12 pz0_13 pz0_14 pz0_18 pz0_19 pz0_22 pz0_23 v_17)), (z 1, aI V 3075 fz1), (z 15, aI V 900 f_11), (z 16, aI V 6 f_12), (z 24, aI V 10000 f_13), (z 25, aI V 40000 f_14), (z 26, aI V 10000 f_15), (z 28, aZ V 10000 f_16)]) hP [6, 7, 0, 1, 2, 3, 4, 5] rfl
        have hD := subD hP hD [6, 7, 0, 1, 2, 3, 4, 5] rfl rfl
        exact fiI hx hb hr hlk hK hP hD hS dX10_way_124 (Nat.le_of_ble_eq_true rfl) (Nat.le_of_ble_eq_true rfl) (⟨0, v_17, f_11, f_12, f_13, f_14, f_15, f_16, bv_17, tf_12, tf_13, tf_14, tf_15, (iv_c ((-1) : Int32) (by decide)), inn_27_1, rfl⟩)
      · have b_31 : iv 1 268435456 x_28 := iv_l2 (Int32.not_le.mp c_29) (iv_c (0 : Int32) (a := 0) (b := 0) (by decide)) bx_28 (by decide)
        refine lv_aload_n hx hb dX10_way_54 rfl (lv_at hl 3 rfl) ?_
        refine va_get (ci := 10) (v := .ref (z 26)) (C := RX10) (T := TX10) (N := 40) hx hb hg inX10 hown hK hP 6 rfl rfl 26 (by decide) (hg _ q_6_10) (fun _ h9 => h9) rfl dX10_way_55 ?_
        refine lv_iload hx hb dX10_way_58 (lv_at hl 1 rfl) ?_
        refine va_iald hx hb hK hP 4 0 rfl rfl (iv_in bu_26 (by decide)) dX10_way_60 ?_
        refine tpi (y := x_28) ex_28.symm ?_
        refine lv_ldcw (v := 268435456) hx hb hown (hg _ q_7_202) dX10_way_61 ?_
        refine lv_icmp_ge (tgt := 123) hx hb dX10_way_64 (by decide) (fun c_32 => ?_) (fun c_32 => ?_)
        · have b_33 : iv 268435456 268435456 x_28 := iv_e2 c_32 (iv_c (268435456 : Int32) (a := 268435456) (b := 268435456) (by decide)) b_31 (by decide)
          refine lv_iconst (v := (-1)) hx hb dX10_way_123 (by decide) ?_
          have hP := subP (ws' := [(z 0, .inr (10, mo z 0 pz0_5 pz0_6 pz0_7 pz0_8 pz0_9 pz0_10 pz0_11 pz0_12 pz0_13 pz0_14 pz0_18 pz0_19 pz0_22 pz0_23 v_17)), (z 1, aI V 3075 fz1), (z 15, aI V 900 f_11), (z 16, aI V 6 f_12), (z 24, aI V 10000 f_13), (z 25, aI V 40000 f_14), (z 26, aI V 10000 f_15), (z 28, aZ V 10000 f_16)]) hP [6, 7, 0, 1, 2, 3, 4, 5] rfl
          have hD := subD hP hD [6, 7, 0, 1, 2, 3, 4, 5] rfl rfl
          exact fiI hx hb hr hlk hK hP hD hS dX10_way_124 (Nat.le_of_ble_eq_true rfl) (Nat.le_of_ble_eq_true rfl) (⟨0, v_17, f_11, f_12, f_13, f_14, f_15, f_16, bv_17, tf_12, tf_13, tf_14, tf_15, (iv_c ((-1) : Int32) (by decide)), inn_27_1, rfl⟩)
        · have b_34 : iv 1 268435455 x_28 := iv_l1 (Int32.not_le.mp c_32) b_31 (iv_c (268435456 : Int32) (a := 268435456) (b := 268435456) (by decide)) (by decide)
          refine lv_iconst (v := 0) hx hb dX10_way_67 (by decide) ?_
          refine lv_istore (lv' := [(7, .int 0), (6, .int u_25), (5, .int u_26), (4, .int r_1), (0, .ref (z 0)), (1, .int a1), (2, .int a2), (3, .int a3)]) hx hb dX10_way_68 hl (by decide) rfl (fun ls hl => ?_)
          refine loopF (X := fun (n_36 : Nat) (H : Heap) (locs : List Loc) (ls : Array Slot) => ∃ (u_35 : Int32), (iv 0 3 u_35) ∧ (WD u_35 x_28 f_14 f_15 (u_26 : Int32).toNatClampNeg) ∧ (RW fz1) ∧ n_36 = (2147483647 - (u_35 : Int32).toInt).toNat ∧ va_P V.1 vwCl [(z 15, aI V 900 f_11), (z 16, aI V 6 f_12), (z 24, aI V 10000 f_13), (z 25, aI V 40000 f_14), (z 26, aI V 10000 f_15), (z 28, aZ V 10000 f_16), (z 0, .inr (10, mo z 0 pz0_5 pz0_6 pz0_7 pz0_8 pz0_9 pz0_10 pz0_11 pz0_12 pz0_13 pz0_14 pz0_18 pz0_19 pz0_22 pz0_23 v_17)), (z 1, aI V 3075 fz1)] H ∧ va_D A [(z 15, aI V 900 f_11), (z 16, aI V 6 f_12), (z 24, aI V 10000 f_13), (z 25, aI V 40000 f_14), (z 26, aI V 10000 f_15), (z 28, aZ V 10000 f_16), (z 0, .inr (10, mo z 0 pz0_5 pz0_6 pz0_7 pz0_8 pz0_9 pz0_10 pz0_11 pz0_12 pz0_13 pz0_14 pz0_18 pz0_19 pz0_22 pz0_23 v_17)), (z 1, aI V 3075 fz1)] ∧ va_S A s.heap H locs ∧ lv_has ls 8 [(7, .int u_35), (6, .int u_25), (5, .int u_26), (4, .int r_1), (0, .ref (z 0)), (1, .int a1), (2, .int a2), (3, .int a3)]) (g := fun ls => F0 m 70 ls []) (fun n_36 H locs ls hX ihn_36 => ?_) _ ⟨0, (iv_c (0 : Int32) (by decide)), (by obtain ⟨j9, h9, e9⟩ := way_ex g_21 g_22 tf_15 inn_27_0 ex_28 (Int32.not_le.mp c_29) (Int32.not_le.mp c_32); exact ⟨j9, by have z9 : (0 : Int32).toInt = 0 := (by decide); omega, h9, e9⟩), inn_27_1, rfl, hP, hD, hS, lv_sub hl [0, 1, 2, 3, 4, 5, 6, 7] rfl⟩
          obtain ⟨u_35, bu_35, inn_36_0, inn_36_1, en_36, hP, hD, hS, hl⟩ := hX
          refine lv_aload_n hx hb dX10_way_70 rfl (lv_at hl 4 rfl) ?_
          refine lv_iload hx hb dX10_way_71 (lv_at hl 2 rfl) ?_
          refine lv_iload hx hb dX10_way_73 (lv_at hl 0 rfl) ?_
          refine jnI (wr := [(z 15, aI V 900 f_11), (z 16, aI V 6 f_12), (z 24, aI V 10000 f_13), (z 28, aZ V 10000 f_16), (z 1, aI V 3075 fz1)]) (rnV (rest := []) ⟨hx, hb, hml, hown, hg⟩ (k_X10_farBy_0 l V z u_26 u_35 f_15 f_14 0 pz0_5 pz0_6 pz0_7 pz0_8 pz0_9 pz0_10 pz0_11 pz0_12 pz0_13 pz0_14 pz0_18 pz0_19 pz0_22 pz0_23 v_17 bu_26 bu_35 tf_15 tf_14 bpz0_5 bpz0_6 bpz0_7 bpz0_8 bpz0_10 bpz0_11 bpz0_12 bpz0_13 bpz0_14 bpz0_18 bpz0_22 bv_17) mt_X10_farBy q_7_203 ⟨Nat.le_of_ble_eq_true rfl, Nat.le_of_ble_eq_true rfl⟩ hK hP hD hS hA hE [4, 3, 6] rfl rfl 6 rfl rfl rfl rfl hl.1 rfl (Nat.le_of_ble_eq_true rfl) dX10_way_75 ⟨Nat.le_of_ble_eq_true rfl, Nat.le_of_ble_eq_true rfl⟩) hP hD hS hA [4, 3, 6] [0, 1, 2, 5, 7] rfl rfl rfl (by decide) (fun r_37 w H locs hw hP hD hS => ?_)
          obtain ⟨br_37, er_37, rfl⟩ := hw
          have hP : va_P V.1 vwCl [(z 15, aI V 900 f_11), (z 16, aI V 6 f_12), (z 24, aI V 10000 f_13), (z 28, aZ V 10000 f_16), (z 1, aI V 3075 fz1), (z 26, aI V 10000 f_15), (z 25, aI V 40000 f_14), (z 0, .inr (10, mo z 0 pz0_5 pz0_6 pz0_7 pz0_8 pz0_9 pz0_10 pz0_11 pz0_12 pz0_13 pz0_14 pz0_18 pz0_19 pz0_22 pz0_23 v_17))] H := hP
          have hD := cpD hP hD
          refine lv_aload_n hx hb dX10_way_78 rfl (lv_at hl 4 rfl) ?_
          refine va_get (ci := 10) (v := .ref (z 26)) (C := RX10) (T := TX10) (N := 40) hx hb hg inX10 hown hK hP 7 rfl rfl 26 (by decide) (hg _ q_6_10) (fun _ h9 => h9) rfl dX10_way_79 ?_
          refine lv_iload hx hb dX10_way_82 (lv_at hl 2 rfl) ?_
          refine va_iald hx hb hK hP 5 0 rfl rfl (iv_in bu_26 (by decide)) dX10_way_84 ?_
          refine tpi (y := x_28) ex_28.symm ?_
          refine lv_icmp_eq (tgt := 94) hx hb dX10_way_85 (by decide) (fun c_38 => ?_) (fun c_38 => ?_)
          · have b_39 : iv 1 268435455 r_37 := iv_q c_38 b_34
            refine lv_iload hx hb dX10_way_94 (lv_at hl 1 rfl) ?_
            refine lv_iload_n hx hb dX10_way_96 rfl (lv_at hl 7 rfl) ?_
            refine lv_icmp_ne (tgt := 103) hx hb dX10_way_97 (by decide) (fun c_40 => ?_) (fun c_40 => ?_)
            · refine lv_aload_n hx hb dX10_way_103 rfl (lv_at hl 4 rfl) ?_
              refine va_get (ci := 10) (v := .ref (z 25)) (C := RX10) (T := TX10) (N := 40) hx hb hg inX10 hown hK hP 7 rfl rfl 25 (by decide) (hg _ q_6_9) (fun _ h9 => h9) rfl dX10_way_104 ?_
              refine lv_iconst (v := 4) hx hb dX10_way_107 (by decide) ?_
              refine lv_iload hx hb dX10_way_108 (lv_at hl 2 rfl) ?_
              refine lv_imul hx hb dX10_way_110 ?_
              refine lv_topi (fun x_41 ex_41 => ?_)
              have bx_41 : iv 0 39996 x_41 := by rw [ex_41]; exact iv_cmul (iv_c (4 : Int32) (a := 4) (b := 4) (by decide)) bu_26 (by decide)
              refine lv_iload hx hb dX10_way_111 (lv_at hl 0 rfl) ?_
              refine lv_iadd hx hb dX10_way_113 ?_
              refine lv_topi (fun x_42 ex_42 => ?_)
              have bx_42 : iv 0 39999 x_42 := by rw [ex_42]; exact iv_add bx_41 bu_35 (by decide)
              refine va_iald hx hb hK hP 6 0 rfl rfl (iv_in bx_42 (by decide)) dX10_way_114 ?_
              refine lv_topi (fun x_43 ex_43 => ?_)
              have bx_43 : iv (-1) 9999 x_43 := by rw [ex_43]; exact tf_14 _
              have b_44 : iv 0 9999 x_43 := iv_n0 (way_to g_19 inn_27_0 tf_15 (by rw [c_38]; exact (Int32.not_le.mp c_32)) er_37 bu_26 bu_35 (by decide) ex_41 ex_42 ex_43).1 bx_43 (iv_c (-1 : Int32) (a := -1) (b := -1) (by decide)) (by decide)
              refine lv_istore (lv' := [(5, .int x_43), (7, .int u_35), (6, .int u_25), (4, .int r_1), (0, .ref (z 0)), (1, .int a1), (2, .int a2), (3, .int a3)]) hx hb dX10_way_115 hl (by decide) rfl (fun ls hl => ?_)
              obtain ⟨x_45, ex_45⟩ : ∃ z9 : Int32, z9 = u_25 + 1 := ⟨_, rfl⟩
              refine lv_iinc (v := x_45) (lv' := [(6, .int x_45), (5, .int x_43), (7, .int u_35), (4, .int r_1), (0, .ref (z 0)), (1, .int a1), (2, .int a2), (3, .int a3)]) hx hb dX10_way_117 hl (k := 2) rfl (by rw [ex_45]; rfl) (by decide) rfl (fun ls hl => ?_)
              refine lv_goto (tgt := 44) hx hb dX10_way_120 (by decide) ?_
              have hP := subP (ws' := [(z 15, aI V 900 f_11), (z 16, aI V 6 f_12), (z 24, aI V 10000 f_13), (z 25, aI V 40000 f_14), (z 26, aI V 10000 f_15), (z 28, aZ V 10000 f_16), (z 0, .inr (10, mo z 0 pz0_5 pz0_6 pz0_7 pz0_8 pz0_9 pz0_10 pz0_11 pz0_12 pz0_13 pz0_14 pz0_18 pz0_19 pz0_22 pz0_23 v_17)), (z 1, aI V 3075 fz1)]) hP [0, 1, 2, 6, 5, 3, 7, 4] rfl
              have hD := subD hP hD [0, 1, 2, 6, 5, 3, 7, 4] rfl rfl
              exact ihn_27 _ _ _ _ (by rw [en_27]; have q9 := (way_to g_19 inn_27_0 tf_15 (by rw [c_38]; exact (Int32.not_le.mp c_32)) er_37 bu_26 bu_35 (by decide) ex_41 ex_42 ex_43).2.2; have q8 := tf_15 (x_43 : Int32).toNatClampNeg; rw [c_38] at q9; have q7 := clampNat (x := f_15 (x_43 : Int32).toNatClampNeg) q8.1; have q6 := clampNat (x := x_28) (by have q5 := b_34; unfold iv at q5; omega); rw [← ex_28]; omega) ⟨x_45, x_43, b_44, (way_to g_19 inn_27_0 tf_15 (by rw [c_38]; exact (Int32.not_le.mp c_32)) er_37 bu_26 bu_35 (by decide) ex_41 ex_42 ex_43).2.1, inn_36_1, rfl, hP, hD, hS, lv_sub hl [0, 1, 3, 4, 5, 6, 7] rfl⟩
            · have b_46 : iv 0 2147483647 u_25 := iv_q c_40 b_9
              refine lv_iload hx hb dX10_way_100 (lv_at hl 0 rfl) ?_
              have hP := subP (ws' := [(z 0, .inr (10, mo z 0 pz0_5 pz0_6 pz0_7 pz0_8 pz0_9 pz0_10 pz0_11 pz0_12 pz0_13 pz0_14 pz0_18 pz0_19 pz0_22 pz0_23 v_17)), (z 1, aI V 3075 fz1), (z 15, aI V 900 f_11), (z 16, aI V 6 f_12), (z 24, aI V 10000 f_13), (z 25, aI V 40000 f_14), (z 26, aI V 10000 f_15), (z 28, aZ V 10000 f_16)]) hP [7, 4, 0, 1, 2, 6, 5, 3] rfl
              have hD := subD hP hD [7, 4, 0, 1, 2, 6, 5, 3] rfl rfl
              exact fiI hx hb hr hlk hK hP hD hS dX10_way_102 (Nat.le_of_ble_eq_true rfl) (Nat.le_of_ble_eq_true rfl) (⟨0, v_17, f_11, f_12, f_13, f_14, f_15, f_16, bv_17, tf_12, tf_13, tf_14, tf_15, (iv_w bu_35 (by decide)), inn_36_1, rfl⟩)
          · have b_47 : iv 0 2 u_35 := WD_b inn_36_0 er_37 c_38 bu_35 (by decide)
            obtain ⟨x_48, ex_48⟩ : ∃ z9 : Int32, z9 = u_35 + 1 := ⟨_, rfl⟩
            have bx_48 : iv 1 3 x_48 := by rw [ex_48]; exact iv_add b_47 (iv_c (1 : Int32) (a := 1) (b := 1) (by decide)) (by decide)
            refine lv_iinc (v := x_48) (lv' := [(7, .int x_48), (6, .int u_25), (5, .int u_26), (4, .int r_1), (0, .ref (z 0)), (1, .int a1), (2, .int a2), (3, .int a3)]) hx hb dX10_way_88 hl (k := 0) rfl (by rw [ex_48]; rfl) (by decide) rfl (fun ls hl => ?_)
            refine lv_goto (tgt := 70) hx hb dX10_way_91 (by decide) ?_
            have hP := subP (ws' := [(z 15, aI V 900 f_11), (z 16, aI V 6 f_12), (z 24, aI V 10000 f_13), (z 25, aI V 40000 f_14), (z 26, aI V 10000 f_15), (z 28, aZ V 10000 f_16), (z 0, .inr (10, mo z 0 pz0_5 pz0_6 pz0_7 pz0_8 pz0_9 pz0_10 pz0_11 pz0_12 pz0_13 pz0_14 pz0_18 pz0_19 pz0_22 pz0_23 v_17)), (z 1, aI V 3075 fz1)]) hP [0, 1, 2, 6, 5, 3, 7, 4] rfl
            have hD := subD hP hD [0, 1, 2, 6, 5, 3, 7, 4] rfl rfl
            exact ihn_36 _ _ _ _ (by rw [en_36, ex_48]; exact mu_up b_47 (by decide)) ⟨x_48, (iv_w bx_48 (by decide)), (WD_s inn_36_0 er_37 c_38 b_47 (by decide) ex_48), inn_36_1, rfl, hP, hD, hS, lv_sub hl [0, 1, 2, 3, 4, 5, 6, 7] rfl⟩
    · have b_49 : iv (-2147483648) (-1) a3 := iv_l1 (Int32.not_le.mp c_8) (iv_top a3) (iv_c (0 : Int32) (a := 0) (b := 0) (by decide)) (by decide)
      refine lv_bipush (v := (-3)) hx hb dX10_way_25 (by decide) ?_
      have hP := subP (ws' := [(z 0, .inr (10, mo z 0 pz0_5 pz0_6 pz0_7 pz0_8 pz0_9 pz0_10 pz0_11 pz0_12 pz0_13 pz0_14 pz0_18 pz0_19 pz0_22 pz0_23 pz0_29)), (z 1, aI V 3075 fz1), (z 15, aI V 900 fz15), (z 16, aI V 6 fz16), (z 24, aI V 10000 fz24), (z 25, aI V 40000 fz25), (z 26, aI V 10000 fz26), (z 28, aZ V 10000 fz28)]) hP [6, 7, 0, 1, 2, 3, 4, 5] rfl
      have hD := subD hP hD [6, 7, 0, 1, 2, 3, 4, 5] rfl rfl
      exact fiI hx hb hr hlk hK hP hD hS dX10_way_27 (Nat.le_of_ble_eq_true rfl) (Nat.le_of_ble_eq_true rfl) (⟨0, pz0_29, fz15, fz16, fz24, fz25, fz26, fz28, bpz0_29, tfz16, tfz24, tfz25, tfz26, (iv_c ((-3) : Int32) (by decide)), hf0, rfl⟩)
  · have b_50 : iv (-3) (-1) r_1 := iv_n1 c_4 br_1 (iv_c (0 : Int32) (a := 0) (b := 0) (by decide)) (by decide)
    refine lv_iload hx hb dX10_way_18 (lv_at hl 0 rfl) ?_
    have hP := subP (ws' := [(z 0, .inr (10, mo z 0 pz0_5 pz0_6 pz0_7 pz0_8 pz0_9 pz0_10 pz0_11 pz0_12 pz0_13 pz0_14 pz0_18 pz0_19 pz0_22 pz0_23 pz0_29)), (z 1, aI V 3075 fz1), (z 15, aI V 900 fz15), (z 16, aI V 6 fz16), (z 24, aI V 10000 fz24), (z 25, aI V 40000 fz25), (z 26, aI V 10000 fz26), (z 28, aZ V 10000 fz28)]) hP [6, 7, 0, 1, 2, 3, 4, 5] rfl
    have hD := subD hP hD [6, 7, 0, 1, 2, 3, 4, 5] rfl rfl
    exact fiI hx hb hr hlk hK hP hD hS dX10_way_20 (Nat.le_of_ble_eq_true rfl) (Nat.le_of_ble_eq_true rfl) (⟨0, pz0_29, fz15, fz16, fz24, fz25, fz26, fz28, bpz0_29, tfz16, tfz24, tfz25, tfz26, (iv_w b_50 (by decide)), hf0, rfl⟩)
theorem dX10_beginsMany_0 : decode cX10_beginsMany 0 = .ok (.iconst 0, 1) := by decide +kernel
theorem dX10_beginsMany_1 : decode cX10_beginsMany 1 = .ok (.istore_n 1, 1) := by decide +kernel
theorem dX10_beginsMany_2 : decode cX10_beginsMany 2 = .ok (.iload_n 1, 1) := by decide +kernel
theorem dX10_beginsMany_3 : decode cX10_beginsMany 3 = .ok (.sipush 10000, 3) := by decide +kernel
theorem dX10_beginsMany_6 : decode cX10_beginsMany 6 = .ok (.if_icmp .ge 35, 3) := by decide +kernel
theorem dX10_beginsMany_41 : decode cX10_beginsMany 41 = .ok (.return_, 1) := by decide +kernel
theorem dX10_beginsMany_9 : decode cX10_beginsMany 9 = .ok (.aload_n 0, 1) := by decide +kernel
theorem q_6_14 : Cond.fieldLink "BeaconDelayModel" 61 "BeaconDelayModel" "many" "[J" ∈ gw := gw_6 (i := 14) (by decide +kernel) rfl
theorem dX10_beginsMany_10 : decode cX10_beginsMany 10 = .ok (.getfield 61, 3) := by decide +kernel
theorem dX10_beginsMany_13 : decode cX10_beginsMany 13 = .ok (.iload_n 1, 1) := by decide +kernel
theorem dX10_beginsMany_14 : decode cX10_beginsMany 14 = .ok (.iload_n 1, 1) := by decide +kernel
theorem dX10_beginsMany_15 : decode cX10_beginsMany 15 = .ok (.aload_n 0, 1) := by decide +kernel
theorem dX10_beginsMany_16 : decode cX10_beginsMany 16 = .ok (.invokevirtual 269, 3) := by decide +kernel
theorem dX10_beginsMany_19 : decode cX10_beginsMany 19 = .ok (.if_icmp .ne 7, 3) := by decide +kernel
theorem dX10_beginsMany_26 : decode cX10_beginsMany 26 = .ok (.lconst 0, 1) := by decide +kernel
theorem dX10_beginsMany_27 : decode cX10_beginsMany 27 = .ok (.lastore, 1) := by decide +kernel
theorem dX10_beginsMany_28 : decode cX10_beginsMany 28 = .ok (.aload_n 0, 1) := by decide +kernel
theorem q_6_15 : Cond.fieldLink "BeaconDelayModel" 65 "BeaconDelayModel" "manyThen" "[J" ∈ gw := gw_6 (i := 15) (by decide +kernel) rfl
theorem dX10_beginsMany_29 : decode cX10_beginsMany 29 = .ok (.getfield 65, 3) := by decide +kernel
theorem dX10_beginsMany_32 : decode cX10_beginsMany 32 = .ok (.iload_n 1, 1) := by decide +kernel
theorem dX10_beginsMany_33 : decode cX10_beginsMany 33 = .ok (.lconst 0, 1) := by decide +kernel
theorem dX10_beginsMany_34 : decode cX10_beginsMany 34 = .ok (.lastore, 1) := by decide +kernel
theorem dX10_beginsMany_35 : decode cX10_beginsMany 35 = .ok (.iinc 1 1, 3) := by decide +kernel
theorem dX10_beginsMany_38 : decode cX10_beginsMany 38 = .ok (.goto (-36), 3) := by decide +kernel
theorem dX10_beginsMany_22 : decode cX10_beginsMany 22 = .ok (.lconst 1, 1) := by decide +kernel
theorem dX10_beginsMany_23 : decode cX10_beginsMany 23 = .ok (.goto 4, 3) := by decide +kernel
set_option maxHeartbeats 4000000 in
set_option maxRecDepth 100000 in
theorem k_X10_beginsMany_0 (l : Launch) (V : GV) (z : Nat → Nat) (fz30 : Nat → Int64) (fz31 : Nat → Int64) (pz0_0 : Int32) (pz0_5 : Int32) (pz0_6 : Int32) (pz0_7 : Int32) (pz0_8 : Int32) (pz0_9 : Int32) (pz0_10 : Int32) (pz0_11 : Int32) (pz0_12 : Int32) (pz0_13 : Int32) (pz0_14 : Int32) (pz0_18 : Int32) (pz0_19 : Int32) (pz0_22 : Int32) (pz0_23 : Int32) (pz0_29 : Int32) (fz1 : Nat → Int32) (bpz0_5 : iv 0 900 pz0_5) (bpz0_6 : iv 0 900 pz0_6) (bpz0_7 : iv 0 900 pz0_7) (bpz0_8 : iv 0 900 pz0_8) (bpz0_10 : iv 0 999 pz0_10) (bpz0_11 : iv 0 4 pz0_11) (bpz0_12 : iv 0 900 pz0_12) (bpz0_13 : iv 0 4 pz0_13) (bpz0_14 : iv (-1) 900 pz0_14) (bpz0_18 : iv 0 2 pz0_18) (bpz0_22 : iv 0 9999 pz0_22) (bpz0_29 : iv 0 10000 pz0_29) (tfz1 : ivT tA fz1) : Ct l V yX10_beginsMany (.code yX10_beginsMany cX10_beginsMany 2 none) 3 [.ref (z 0)] [(z 30, aJ V 10000 fz30), (z 31, aJ V 10000 fz31), (z 0, .inr (10, mo z pz0_0 pz0_5 pz0_6 pz0_7 pz0_8 pz0_9 pz0_10 pz0_11 pz0_12 pz0_13 pz0_14 pz0_18 pz0_19 pz0_22 pz0_23 pz0_29)), (z 1, aI V 3075 fz1)] 0 0 (QV V (fun (w : va_W) => ∃ (g0 : Nat → Int64) (g1 : Nat → Int64), w = [(z 30, aJ V 10000 g0), (z 31, aJ V 10000 g1), (z 0, .inr (10, mo z pz0_0 pz0_5 pz0_6 pz0_7 pz0_8 pz0_9 pz0_10 pz0_11 pz0_12 pz0_13 pz0_14 pz0_18 pz0_19 pz0_22 pz0_23 pz0_29)), (z 1, aI V 3075 fz1)])) := by
  refine Ct.of (by decide) (Nat.le_of_ble_eq_true rfl) (fun p e s m below meth c A ls hx hb hr hml hown hlk hnm hg hP hK hD hE hA hS hl => ?_)
  have hl : lv_has ls 2 [(0, .ref (z 0))] := hl
  refine lv_iconst (v := 0) hx hb dX10_beginsMany_0 (by decide) ?_
  refine lv_istore_n (lv' := [(1, .int 0), (0, .ref (z 0))]) hx hb dX10_beginsMany_1 rfl hl (by decide) rfl (fun ls hl => ?_)
  refine loopF (X := fun (n_4 : Nat) (H : Heap) (locs : List Loc) (ls : Array Slot) => ∃ (u_1 : Int32) (f_2 : Nat → Int64) (f_3 : Nat → Int64), (iv 0 2147483647 u_1) ∧ n_4 = (2147483647 - (u_1 : Int32).toInt).toNat ∧ va_P V.1 vwCl [(z 30, aJ V 10000 f_2), (z 31, aJ V 10000 f_3), (z 0, .inr (10, mo z pz0_0 pz0_5 pz0_6 pz0_7 pz0_8 pz0_9 pz0_10 pz0_11 pz0_12 pz0_13 pz0_14 pz0_18 pz0_19 pz0_22 pz0_23 pz0_29)), (z 1, aI V 3075 fz1)] H ∧ va_D A [(z 30, aJ V 10000 f_2), (z 31, aJ V 10000 f_3), (z 0, .inr (10, mo z pz0_0 pz0_5 pz0_6 pz0_7 pz0_8 pz0_9 pz0_10 pz0_11 pz0_12 pz0_13 pz0_14 pz0_18 pz0_19 pz0_22 pz0_23 pz0_29)), (z 1, aI V 3075 fz1)] ∧ va_S A s.heap H locs ∧ lv_has ls 2 [(1, .int u_1), (0, .ref (z 0))]) (g := fun ls => F0 m 2 ls []) (fun n_4 H locs ls hX ihn_4 => ?_) _ ⟨0, fz30, fz31, (iv_c (0 : Int32) (by decide)), rfl, hP, hD, hS, lv_sub hl [0, 1] rfl⟩
  obtain ⟨u_1, f_2, f_3, bu_1, en_4, hP, hD, hS, hl⟩ := hX
  refine lv_iload_n hx hb dX10_beginsMany_2 rfl (lv_at hl 0 rfl) ?_
  refine lv_sipush (v := 10000) hx hb dX10_beginsMany_3 (by decide) ?_
  refine lv_icmp_ge (tgt := 41) hx hb dX10_beginsMany_6 (by decide) (fun c_5 => ?_) (fun c_5 => ?_)
  · have b_6 : iv 10000 2147483647 u_1 := iv_e2 c_5 (iv_c (10000 : Int32) (a := 10000) (b := 10000) (by decide)) bu_1 (by decide)
    exact fiV hx hb hr hlk hK hP hD hS dX10_beginsMany_41 (Nat.le_of_ble_eq_true rfl) (Nat.le_of_ble_eq_true rfl) (⟨f_2, f_3, rfl⟩)
  · have b_7 : iv 0 9999 u_1 := iv_l1 (Int32.not_le.mp c_5) bu_1 (iv_c (10000 : Int32) (a := 10000) (b := 10000) (by decide)) (by decide)
    refine lv_aload_n hx hb dX10_beginsMany_9 rfl (lv_at hl 1 rfl) ?_
    refine va_get (ci := 10) (v := .ref (z 30)) (C := RX10) (T := TX10) (N := 40) hx hb hg inX10 hown hK hP 2 rfl rfl 30 (by decide) (hg _ q_6_14) (fun _ h9 => h9) rfl dX10_beginsMany_10 ?_
    refine lv_iload_n hx hb dX10_beginsMany_13 rfl (lv_at hl 0 rfl) ?_
    refine lv_iload_n hx hb dX10_beginsMany_14 rfl (lv_at hl 0 rfl) ?_
    refine lv_aload_n hx hb dX10_beginsMany_15 rfl (lv_at hl 1 rfl) ?_
    refine jnI (wr := [(z 30, aJ V 10000 f_2), (z 31, aJ V 10000 f_3)]) (rnV (rest := [.int u_1, .int u_1, .ref (z 30)]) ⟨hx, hb, hml, hown, hg⟩ (k_X10_standNow_0 l V z pz0_0 pz0_5 pz0_6 pz0_7 pz0_8 pz0_9 pz0_10 pz0_11 pz0_12 pz0_13 pz0_14 pz0_18 pz0_19 pz0_22 pz0_23 pz0_29 fz1 bpz0_5 bpz0_6 bpz0_7 bpz0_8 bpz0_10 bpz0_11 bpz0_12 bpz0_13 bpz0_14 bpz0_18 bpz0_22 bpz0_29 tfz1) mt_X10_standNow q_7_11 ⟨Nat.le_of_ble_eq_true rfl, Nat.le_of_ble_eq_true rfl⟩ hK hP hD hS hA hE [2, 3] rfl rfl 2 rfl rfl rfl rfl hl.1 rfl (Nat.le_of_ble_eq_true rfl) dX10_beginsMany_16 ⟨Nat.le_of_ble_eq_true rfl, Nat.le_of_ble_eq_true rfl⟩) hP hD hS hA [2, 3] [0, 1] rfl rfl rfl (by decide) (fun r_8 w H locs hw hP hD hS => ?_)
    obtain ⟨br_8, er_8, et_9, rfl⟩ := hw
    have hP : va_P V.1 vwCl [(z 30, aJ V 10000 f_2), (z 31, aJ V 10000 f_3), (z 0, .inr (10, mo z pz0_0 pz0_5 pz0_6 pz0_7 pz0_8 pz0_9 pz0_10 pz0_11 pz0_12 pz0_13 pz0_14 pz0_18 pz0_19 pz0_22 pz0_23 pz0_29)), (z 1, aI V 3075 fz1)] H := hP
    have hD := cpD hP hD
    refine lv_icmp_ne (tgt := 26) hx hb dX10_beginsMany_19 (by decide) (fun c_10 => ?_) (fun c_10 => ?_)
    · refine lv_lconst (v := 0) hx hb dX10_beginsMany_26 (by decide) ?_
      refine va_last hx hb hK hP hD hS 0 2 rfl rfl (iv_in b_7 (by decide)) dX10_beginsMany_27 (fun H locs hP hD hS => ?_)
      obtain ⟨f_11, hP, hD⟩ : ∃ f_11 : Nat → Int64, va_P V.1 vwCl [(z 30, aJ V 10000 f_11), (z 31, aJ V 10000 f_3), (z 0, .inr (10, mo z pz0_0 pz0_5 pz0_6 pz0_7 pz0_8 pz0_9 pz0_10 pz0_11 pz0_12 pz0_13 pz0_14 pz0_18 pz0_19 pz0_22 pz0_23 pz0_29)), (z 1, aI V 3075 fz1)] H ∧ va_D A [(z 30, aJ V 10000 f_11), (z 31, aJ V 10000 f_3), (z 0, .inr (10, mo z pz0_0 pz0_5 pz0_6 pz0_7 pz0_8 pz0_9 pz0_10 pz0_11 pz0_12 pz0_13 pz0_14 pz0_18 pz0_19 pz0_22 pz0_23 pz0_29)), (z 1, aI V 3075 fz1)] := ⟨_, hP, hD⟩
      refine lv_aload_n hx hb dX10_beginsMany_28 rfl (lv_at hl 1 rfl) ?_
      refine va_get (ci := 10) (v := .ref (z 31)) (C := RX10) (T := TX10) (N := 40) hx hb hg inX10 hown hK hP 2 rfl rfl 31 (by decide) (hg _ q_6_15) (fun _ h9 => h9) rfl dX10_beginsMany_29 ?_
      refine lv_iload_n hx hb dX10_beginsMany_32 rfl (lv_at hl 0 rfl) ?_
      refine lv_lconst (v := 0) hx hb dX10_beginsMany_33 (by decide) ?_
      refine va_last hx hb hK hP hD hS 1 2 rfl rfl (iv_in b_7 (by decide)) dX10_beginsMany_34 (fun H locs hP hD hS => ?_)
      obtain ⟨f_12, hP, hD⟩ : ∃ f_12 : Nat → Int64, va_P V.1 vwCl [(z 30, aJ V 10000 f_11), (z 31, aJ V 10000 f_12), (z 0, .inr (10, mo z pz0_0 pz0_5 pz0_6 pz0_7 pz0_8 pz0_9 pz0_10 pz0_11 pz0_12 pz0_13 pz0_14 pz0_18 pz0_19 pz0_22 pz0_23 pz0_29)), (z 1, aI V 3075 fz1)] H ∧ va_D A [(z 30, aJ V 10000 f_11), (z 31, aJ V 10000 f_12), (z 0, .inr (10, mo z pz0_0 pz0_5 pz0_6 pz0_7 pz0_8 pz0_9 pz0_10 pz0_11 pz0_12 pz0_13 pz0_14 pz0_18 pz0_19 pz0_22 pz0_23 pz0_29)), (z 1, aI V 3075 fz1)] := ⟨_, hP, hD⟩
      obtain ⟨x_13, ex_13⟩ : ∃ z9 : Int32, z9 = u_1 + 1 := ⟨_, rfl⟩
      have bx_13 : iv 1 10000 x_13 := by rw [ex_13]; exact iv_add b_7 (iv_c (1 : Int32) (a := 1) (b := 1) (by decide)) (by decide)
      refine lv_iinc (v := x_13) (lv' := [(1, .int x_13), (0, .ref (z 0))]) hx hb dX10_beginsMany_35 hl (k := 0) rfl (by rw [ex_13]; rfl) (by decide) rfl (fun ls hl => ?_)
      refine lv_goto (tgt := 2) hx hb dX10_beginsMany_38 (by decide) ?_
      exact ihn_4 _ _ _ _ (by rw [en_4, ex_13]; exact mu_up b_7 (by decide)) ⟨x_13, f_11, f_12, (iv_w bx_13 (by decide)), rfl, hP, hD, hS, lv_sub hl [0, 1] rfl⟩
    · refine lv_lconst (v := 1) hx hb dX10_beginsMany_22 (by decide) ?_
      refine lv_goto (tgt := 27) hx hb dX10_beginsMany_23 (by decide) ?_
      refine va_last hx hb hK hP hD hS 0 2 rfl rfl (iv_in b_7 (by decide)) dX10_beginsMany_27 (fun H locs hP hD hS => ?_)
      obtain ⟨f_14, hP, hD⟩ : ∃ f_14 : Nat → Int64, va_P V.1 vwCl [(z 30, aJ V 10000 f_14), (z 31, aJ V 10000 f_3), (z 0, .inr (10, mo z pz0_0 pz0_5 pz0_6 pz0_7 pz0_8 pz0_9 pz0_10 pz0_11 pz0_12 pz0_13 pz0_14 pz0_18 pz0_19 pz0_22 pz0_23 pz0_29)), (z 1, aI V 3075 fz1)] H ∧ va_D A [(z 30, aJ V 10000 f_14), (z 31, aJ V 10000 f_3), (z 0, .inr (10, mo z pz0_0 pz0_5 pz0_6 pz0_7 pz0_8 pz0_9 pz0_10 pz0_11 pz0_12 pz0_13 pz0_14 pz0_18 pz0_19 pz0_22 pz0_23 pz0_29)), (z 1, aI V 3075 fz1)] := ⟨_, hP, hD⟩
      refine lv_aload_n hx hb dX10_beginsMany_28 rfl (lv_at hl 1 rfl) ?_
      refine va_get (ci := 10) (v := .ref (z 31)) (C := RX10) (T := TX10) (N := 40) hx hb hg inX10 hown hK hP 2 rfl rfl 31 (by decide) (hg _ q_6_15) (fun _ h9 => h9) rfl dX10_beginsMany_29 ?_
      refine lv_iload_n hx hb dX10_beginsMany_32 rfl (lv_at hl 0 rfl) ?_
      refine lv_lconst (v := 0) hx hb dX10_beginsMany_33 (by decide) ?_
      refine va_last hx hb hK hP hD hS 1 2 rfl rfl (iv_in b_7 (by decide)) dX10_beginsMany_34 (fun H locs hP hD hS => ?_)
      obtain ⟨f_15, hP, hD⟩ : ∃ f_15 : Nat → Int64, va_P V.1 vwCl [(z 30, aJ V 10000 f_14), (z 31, aJ V 10000 f_15), (z 0, .inr (10, mo z pz0_0 pz0_5 pz0_6 pz0_7 pz0_8 pz0_9 pz0_10 pz0_11 pz0_12 pz0_13 pz0_14 pz0_18 pz0_19 pz0_22 pz0_23 pz0_29)), (z 1, aI V 3075 fz1)] H ∧ va_D A [(z 30, aJ V 10000 f_14), (z 31, aJ V 10000 f_15), (z 0, .inr (10, mo z pz0_0 pz0_5 pz0_6 pz0_7 pz0_8 pz0_9 pz0_10 pz0_11 pz0_12 pz0_13 pz0_14 pz0_18 pz0_19 pz0_22 pz0_23 pz0_29)), (z 1, aI V 3075 fz1)] := ⟨_, hP, hD⟩
      obtain ⟨x_16, ex_16⟩ : ∃ z9 : Int32, z9 = u_1 + 1 := ⟨_, rfl⟩
      have bx_16 : iv 1 10000 x_16 := by rw [ex_16]; exact iv_add b_7 (iv_c (1 : Int32) (a := 1) (b := 1) (by decide)) (by decide)
      refine lv_iinc (v := x_16) (lv' := [(1, .int x_16), (0, .ref (z 0))]) hx hb dX10_beginsMany_35 hl (k := 0) rfl (by rw [ex_16]; rfl) (by decide) rfl (fun ls hl => ?_)
      refine lv_goto (tgt := 2) hx hb dX10_beginsMany_38 (by decide) ?_
      exact ihn_4 _ _ _ _ (by rw [en_4, ex_16]; exact mu_up b_7 (by decide)) ⟨x_16, f_14, f_15, (iv_w bx_16 (by decide)), rfl, hP, hD, hS, lv_sub hl [0, 1] rfl⟩
theorem dX10_isThen_0 : decode cX10_isThen 0 = .ok (.iconst 0, 1) := by decide +kernel
theorem dX10_isThen_1 : decode cX10_isThen 1 = .ok (.istore_n 1, 1) := by decide +kernel
theorem dX10_isThen_2 : decode cX10_isThen 2 = .ok (.iload_n 1, 1) := by decide +kernel
theorem dX10_isThen_3 : decode cX10_isThen 3 = .ok (.sipush 10000, 3) := by decide +kernel
theorem dX10_isThen_6 : decode cX10_isThen 6 = .ok (.if_icmp .ge 28, 3) := by decide +kernel
theorem dX10_isThen_34 : decode cX10_isThen 34 = .ok (.return_, 1) := by decide +kernel
theorem dX10_isThen_9 : decode cX10_isThen 9 = .ok (.aload_n 0, 1) := by decide +kernel
theorem dX10_isThen_10 : decode cX10_isThen 10 = .ok (.getfield 61, 3) := by decide +kernel
theorem dX10_isThen_13 : decode cX10_isThen 13 = .ok (.iload_n 1, 1) := by decide +kernel
theorem dX10_isThen_14 : decode cX10_isThen 14 = .ok (.aload_n 0, 1) := by decide +kernel
theorem dX10_isThen_15 : decode cX10_isThen 15 = .ok (.getfield 65, 3) := by decide +kernel
theorem dX10_isThen_18 : decode cX10_isThen 18 = .ok (.iload_n 1, 1) := by decide +kernel
theorem dX10_isThen_19 : decode cX10_isThen 19 = .ok (.laload, 1) := by decide +kernel
theorem dX10_isThen_20 : decode cX10_isThen 20 = .ok (.lastore, 1) := by decide +kernel
theorem dX10_isThen_21 : decode cX10_isThen 21 = .ok (.aload_n 0, 1) := by decide +kernel
theorem dX10_isThen_22 : decode cX10_isThen 22 = .ok (.getfield 65, 3) := by decide +kernel
theorem dX10_isThen_25 : decode cX10_isThen 25 = .ok (.iload_n 1, 1) := by decide +kernel
theorem dX10_isThen_26 : decode cX10_isThen 26 = .ok (.lconst 0, 1) := by decide +kernel
theorem dX10_isThen_27 : decode cX10_isThen 27 = .ok (.lastore, 1) := by decide +kernel
theorem dX10_isThen_28 : decode cX10_isThen 28 = .ok (.iinc 1 1, 3) := by decide +kernel
theorem dX10_isThen_31 : decode cX10_isThen 31 = .ok (.goto (-29), 3) := by decide +kernel
set_option maxHeartbeats 4000000 in
set_option maxRecDepth 100000 in
theorem k_X10_isThen_0 (l : Launch) (V : GV) (z : Nat → Nat) (fz30 : Nat → Int64) (fz31 : Nat → Int64) (pz0_0 : Int32) (pz0_5 : Int32) (pz0_6 : Int32) (pz0_7 : Int32) (pz0_8 : Int32) (pz0_9 : Int32) (pz0_10 : Int32) (pz0_11 : Int32) (pz0_12 : Int32) (pz0_13 : Int32) (pz0_14 : Int32) (pz0_18 : Int32) (pz0_19 : Int32) (pz0_22 : Int32) (pz0_23 : Int32) (pz0_29 : Int32) (bpz0_5 : iv 0 900 pz0_5) (bpz0_6 : iv 0 900 pz0_6) (bpz0_7 : iv 0 900 pz0_7) (bpz0_8 : iv 0 900 pz0_8) (bpz0_10 : iv 0 999 pz0_10) (bpz0_11 : iv 0 4 pz0_11) (bpz0_12 : iv 0 900 pz0_12) (bpz0_13 : iv 0 4 pz0_13) (bpz0_14 : iv (-1) 900 pz0_14) (bpz0_18 : iv 0 2 pz0_18) (bpz0_22 : iv 0 9999 pz0_22) (bpz0_29 : iv 0 10000 pz0_29) : Ct l V yX10_isThen (.code yX10_isThen cX10_isThen 2 none) 1 [.ref (z 0)] [(z 30, aJ V 10000 fz30), (z 31, aJ V 10000 fz31), (z 0, .inr (10, mo z pz0_0 pz0_5 pz0_6 pz0_7 pz0_8 pz0_9 pz0_10 pz0_11 pz0_12 pz0_13 pz0_14 pz0_18 pz0_19 pz0_22 pz0_23 pz0_29))] 0 0 (QV V (fun (w : va_W) => ∃ (g0 : Nat → Int64) (g1 : Nat → Int64), w = [(z 30, aJ V 10000 g0), (z 31, aJ V 10000 g1), (z 0, .inr (10, mo z pz0_0 pz0_5 pz0_6 pz0_7 pz0_8 pz0_9 pz0_10 pz0_11 pz0_12 pz0_13 pz0_14 pz0_18 pz0_19 pz0_22 pz0_23 pz0_29))])) := by
  refine Ct.of (by decide) (Nat.le_of_ble_eq_true rfl) (fun p e s m below meth c A ls hx hb hr hml hown hlk hnm hg hP hK hD hE hA hS hl => ?_)
  have hl : lv_has ls 2 [(0, .ref (z 0))] := hl
  refine lv_iconst (v := 0) hx hb dX10_isThen_0 (by decide) ?_
  refine lv_istore_n (lv' := [(1, .int 0), (0, .ref (z 0))]) hx hb dX10_isThen_1 rfl hl (by decide) rfl (fun ls hl => ?_)
  refine loopF (X := fun (n_4 : Nat) (H : Heap) (locs : List Loc) (ls : Array Slot) => ∃ (u_1 : Int32) (f_2 : Nat → Int64) (f_3 : Nat → Int64), (iv 0 2147483647 u_1) ∧ n_4 = (2147483647 - (u_1 : Int32).toInt).toNat ∧ va_P V.1 vwCl [(z 30, aJ V 10000 f_2), (z 31, aJ V 10000 f_3), (z 0, .inr (10, mo z pz0_0 pz0_5 pz0_6 pz0_7 pz0_8 pz0_9 pz0_10 pz0_11 pz0_12 pz0_13 pz0_14 pz0_18 pz0_19 pz0_22 pz0_23 pz0_29))] H ∧ va_D A [(z 30, aJ V 10000 f_2), (z 31, aJ V 10000 f_3), (z 0, .inr (10, mo z pz0_0 pz0_5 pz0_6 pz0_7 pz0_8 pz0_9 pz0_10 pz0_11 pz0_12 pz0_13 pz0_14 pz0_18 pz0_19 pz0_22 pz0_23 pz0_29))] ∧ va_S A s.heap H locs ∧ lv_has ls 2 [(1, .int u_1), (0, .ref (z 0))]) (g := fun ls => F0 m 2 ls []) (fun n_4 H locs ls hX ihn_4 => ?_) _ ⟨0, fz30, fz31, (iv_c (0 : Int32) (by decide)), rfl, hP, hD, hS, lv_sub hl [0, 1] rfl⟩
  obtain ⟨u_1, f_2, f_3, bu_1, en_4, hP, hD, hS, hl⟩ := hX
  refine lv_iload_n hx hb dX10_isThen_2 rfl (lv_at hl 0 rfl) ?_
  refine lv_sipush (v := 10000) hx hb dX10_isThen_3 (by decide) ?_
  refine lv_icmp_ge (tgt := 34) hx hb dX10_isThen_6 (by decide) (fun c_5 => ?_) (fun c_5 => ?_)
  · have b_6 : iv 10000 2147483647 u_1 := iv_e2 c_5 (iv_c (10000 : Int32) (a := 10000) (b := 10000) (by decide)) bu_1 (by decide)
    exact fiV hx hb hr hlk hK hP hD hS dX10_isThen_34 (Nat.le_of_ble_eq_true rfl) (Nat.le_of_ble_eq_true rfl) (⟨f_2, f_3, rfl⟩)
  · have b_7 : iv 0 9999 u_1 := iv_l1 (Int32.not_le.mp c_5) bu_1 (iv_c (10000 : Int32) (a := 10000) (b := 10000) (by decide)) (by decide)
    refine lv_aload_n hx hb dX10_isThen_9 rfl (lv_at hl 1 rfl) ?_
    refine va_get (ci := 10) (v := .ref (z 30)) (C := RX10) (T := TX10) (N := 40) hx hb hg inX10 hown hK hP 2 rfl rfl 30 (by decide) (hg _ q_6_14) (fun _ h9 => h9) rfl dX10_isThen_10 ?_
    refine lv_iload_n hx hb dX10_isThen_13 rfl (lv_at hl 0 rfl) ?_
    refine lv_aload_n hx hb dX10_isThen_14 rfl (lv_at hl 1 rfl) ?_
    refine va_get (ci := 10) (v := .ref (z 31)) (C := RX10) (T := TX10) (N := 40) hx hb hg inX10 hown hK hP 2 rfl rfl 31 (by decide) (hg _ q_6_15) (fun _ h9 => h9) rfl dX10_isThen_15 ?_
    refine lv_iload_n hx hb dX10_isThen_18 rfl (lv_at hl 0 rfl) ?_
    refine va_lald hx hb hK hP 1 2 rfl rfl (iv_in b_7 (by decide)) dX10_isThen_19 ?_
    refine lv_topl (fun j_8 ej_8 => ?_)
    refine va_last hx hb hK hP hD hS 0 2 rfl rfl (iv_in b_7 (by decide)) dX10_isThen_20 (fun H locs hP hD hS => ?_)
    obtain ⟨f_9, hP, hD⟩ : ∃ f_9 : Nat → Int64, va_P V.1 vwCl [(z 30, aJ V 10000 f_9), (z 31, aJ V 10000 f_3), (z 0, .inr (10, mo z pz0_0 pz0_5 pz0_6 pz0_7 pz0_8 pz0_9 pz0_10 pz0_11 pz0_12 pz0_13 pz0_14 pz0_18 pz0_19 pz0_22 pz0_23 pz0_29))] H ∧ va_D A [(z 30, aJ V 10000 f_9), (z 31, aJ V 10000 f_3), (z 0, .inr (10, mo z pz0_0 pz0_5 pz0_6 pz0_7 pz0_8 pz0_9 pz0_10 pz0_11 pz0_12 pz0_13 pz0_14 pz0_18 pz0_19 pz0_22 pz0_23 pz0_29))] := ⟨_, hP, hD⟩
    refine lv_aload_n hx hb dX10_isThen_21 rfl (lv_at hl 1 rfl) ?_
    refine va_get (ci := 10) (v := .ref (z 31)) (C := RX10) (T := TX10) (N := 40) hx hb hg inX10 hown hK hP 2 rfl rfl 31 (by decide) (hg _ q_6_15) (fun _ h9 => h9) rfl dX10_isThen_22 ?_
    refine lv_iload_n hx hb dX10_isThen_25 rfl (lv_at hl 0 rfl) ?_
    refine lv_lconst (v := 0) hx hb dX10_isThen_26 (by decide) ?_
    refine va_last hx hb hK hP hD hS 1 2 rfl rfl (iv_in b_7 (by decide)) dX10_isThen_27 (fun H locs hP hD hS => ?_)
    obtain ⟨f_10, hP, hD⟩ : ∃ f_10 : Nat → Int64, va_P V.1 vwCl [(z 30, aJ V 10000 f_9), (z 31, aJ V 10000 f_10), (z 0, .inr (10, mo z pz0_0 pz0_5 pz0_6 pz0_7 pz0_8 pz0_9 pz0_10 pz0_11 pz0_12 pz0_13 pz0_14 pz0_18 pz0_19 pz0_22 pz0_23 pz0_29))] H ∧ va_D A [(z 30, aJ V 10000 f_9), (z 31, aJ V 10000 f_10), (z 0, .inr (10, mo z pz0_0 pz0_5 pz0_6 pz0_7 pz0_8 pz0_9 pz0_10 pz0_11 pz0_12 pz0_13 pz0_14 pz0_18 pz0_19 pz0_22 pz0_23 pz0_29))] := ⟨_, hP, hD⟩
    obtain ⟨x_11, ex_11⟩ : ∃ z9 : Int32, z9 = u_1 + 1 := ⟨_, rfl⟩
    have bx_11 : iv 1 10000 x_11 := by rw [ex_11]; exact iv_add b_7 (iv_c (1 : Int32) (a := 1) (b := 1) (by decide)) (by decide)
    refine lv_iinc (v := x_11) (lv' := [(1, .int x_11), (0, .ref (z 0))]) hx hb dX10_isThen_28 hl (k := 0) rfl (by rw [ex_11]; rfl) (by decide) rfl (fun ls hl => ?_)
    refine lv_goto (tgt := 2) hx hb dX10_isThen_31 (by decide) ?_
    exact ihn_4 _ _ _ _ (by rw [en_4, ex_11]; exact mu_up b_7 (by decide)) ⟨x_11, f_9, f_10, (iv_w bx_11 (by decide)), rfl, hP, hD, hS, lv_sub hl [0, 1] rfl⟩
theorem dX10_goesMany_0 : decode cX10_goesMany 0 = .ok (.iconst 0, 1) := by decide +kernel
theorem dX10_goesMany_1 : decode cX10_goesMany 1 = .ok (.istore 5, 2) := by decide +kernel
theorem dX10_goesMany_3 : decode cX10_goesMany 3 = .ok (.iload 5, 2) := by decide +kernel
theorem dX10_goesMany_5 : decode cX10_goesMany 5 = .ok (.aload_n 0, 1) := by decide +kernel
theorem dX10_goesMany_6 : decode cX10_goesMany 6 = .ok (.getfield 355, 3) := by decide +kernel
theorem dX10_goesMany_9 : decode cX10_goesMany 9 = .ok (.if_icmp .ge 99, 3) := by decide +kernel
theorem dX10_goesMany_108 : decode cX10_goesMany 108 = .ok (.aload_n 0, 1) := by decide +kernel
theorem q_7_231 : Cond.code yX10_isThen prog_12_method_92_code 2 none ∈ gw := gw_7 (i := 231) (rfl) rfl
theorem q_7_230 : Cond.instanceMethod yX10_isThen ∈ gw := gw_7 (i := 230) (by decide +kernel) rfl
theorem q_s_110 : Cond.selects "BeaconDelayModel" yX10_isThen yX10_isThen ∈ gw := gw_s (i := 110) (by decide +kernel) rfl
theorem mt_X10_isThen : MtV yX10_isThen cX10_isThen 2 none 0 := ⟨⟨q_7_231, q_1_9, by decide +kernel, by decide +kernel, by decide +kernel⟩, q_7_230, q_s_110⟩
theorem q_7_228 : Cond.methodLink "BeaconDelayModel" 382 yX10_isThen ∈ gw := gw_7 (i := 228) (by decide +kernel) rfl
theorem dX10_goesMany_109 : decode cX10_goesMany 109 = .ok (.invokevirtual 382, 3) := by decide +kernel
theorem dX10_goesMany_112 : decode cX10_goesMany 112 = .ok (.return_, 1) := by decide +kernel
theorem dX10_goesMany_12 : decode cX10_goesMany 12 = .ok (.aload_n 0, 1) := by decide +kernel
theorem dX10_goesMany_13 : decode cX10_goesMany 13 = .ok (.getfield 45, 3) := by decide +kernel
theorem dX10_goesMany_16 : decode cX10_goesMany 16 = .ok (.iload 5, 2) := by decide +kernel
theorem dX10_goesMany_18 : decode cX10_goesMany 18 = .ok (.iaload, 1) := by decide +kernel
theorem dX10_goesMany_19 : decode cX10_goesMany 19 = .ok (.istore 6, 2) := by decide +kernel
theorem dX10_goesMany_21 : decode cX10_goesMany 21 = .ok (.iconst 0, 1) := by decide +kernel
theorem dX10_goesMany_22 : decode cX10_goesMany 22 = .ok (.istore 7, 2) := by decide +kernel
theorem dX10_goesMany_24 : decode cX10_goesMany 24 = .ok (.iload 7, 2) := by decide +kernel
theorem dX10_goesMany_26 : decode cX10_goesMany 26 = .ok (.iconst 4, 1) := by decide +kernel
theorem dX10_goesMany_27 : decode cX10_goesMany 27 = .ok (.if_icmp .ge 75, 3) := by decide +kernel
theorem dX10_goesMany_102 : decode cX10_goesMany 102 = .ok (.iinc 5 1, 3) := by decide +kernel
theorem dX10_goesMany_105 : decode cX10_goesMany 105 = .ok (.goto (-102), 3) := by decide +kernel
theorem dX10_goesMany_30 : decode cX10_goesMany 30 = .ok (.aload_n 0, 1) := by decide +kernel
theorem dX10_goesMany_31 : decode cX10_goesMany 31 = .ok (.getfield 61, 3) := by decide +kernel
theorem dX10_goesMany_34 : decode cX10_goesMany 34 = .ok (.iload 6, 2) := by decide +kernel
theorem dX10_goesMany_36 : decode cX10_goesMany 36 = .ok (.laload, 1) := by decide +kernel
theorem dX10_goesMany_37 : decode cX10_goesMany 37 = .ok (.lconst 0, 1) := by decide +kernel
theorem dX10_goesMany_38 : decode cX10_goesMany 38 = .ok (.lcmp, 1) := by decide +kernel
theorem dX10_goesMany_39 : decode cX10_goesMany 39 = .ok (.ifCond .le 63, 3) := by decide +kernel
theorem dX10_goesMany_42 : decode cX10_goesMany 42 = .ok (.aload_n 0, 1) := by decide +kernel
theorem dX10_goesMany_43 : decode cX10_goesMany 43 = .ok (.getfield 49, 3) := by decide +kernel
theorem dX10_goesMany_46 : decode cX10_goesMany 46 = .ok (.iconst 4, 1) := by decide +kernel
theorem dX10_goesMany_47 : decode cX10_goesMany 47 = .ok (.iload 6, 2) := by decide +kernel
theorem dX10_goesMany_49 : decode cX10_goesMany 49 = .ok (.imul, 1) := by decide +kernel
theorem dX10_goesMany_50 : decode cX10_goesMany 50 = .ok (.iload 7, 2) := by decide +kernel
theorem dX10_goesMany_52 : decode cX10_goesMany 52 = .ok (.iadd, 1) := by decide +kernel
theorem dX10_goesMany_53 : decode cX10_goesMany 53 = .ok (.iaload, 1) := by decide +kernel
theorem dX10_goesMany_54 : decode cX10_goesMany 54 = .ok (.iconst (-1), 1) := by decide +kernel
theorem dX10_goesMany_55 : decode cX10_goesMany 55 = .ok (.if_icmp .eq 41, 3) := by decide +kernel
theorem dX10_goesMany_96 : decode cX10_goesMany 96 = .ok (.iinc 7 1, 3) := by decide +kernel
theorem dX10_goesMany_99 : decode cX10_goesMany 99 = .ok (.goto (-75), 3) := by decide +kernel
theorem dX10_goesMany_58 : decode cX10_goesMany 58 = .ok (.aload_n 0, 1) := by decide +kernel
theorem dX10_goesMany_59 : decode cX10_goesMany 59 = .ok (.getfield 65, 3) := by decide +kernel
theorem dX10_goesMany_62 : decode cX10_goesMany 62 = .ok (.aload_n 0, 1) := by decide +kernel
theorem dX10_goesMany_63 : decode cX10_goesMany 63 = .ok (.getfield 49, 3) := by decide +kernel
theorem dX10_goesMany_66 : decode cX10_goesMany 66 = .ok (.iconst 4, 1) := by decide +kernel
theorem dX10_goesMany_67 : decode cX10_goesMany 67 = .ok (.iload 6, 2) := by decide +kernel
theorem dX10_goesMany_69 : decode cX10_goesMany 69 = .ok (.imul, 1) := by decide +kernel
theorem dX10_goesMany_70 : decode cX10_goesMany 70 = .ok (.iload 7, 2) := by decide +kernel
theorem dX10_goesMany_72 : decode cX10_goesMany 72 = .ok (.iadd, 1) := by decide +kernel
theorem dX10_goesMany_73 : decode cX10_goesMany 73 = .ok (.iaload, 1) := by decide +kernel
theorem dX10_goesMany_74 : decode cX10_goesMany 74 = .ok (.dup2, 1) := by decide +kernel
theorem dX10_goesMany_75 : decode cX10_goesMany 75 = .ok (.laload, 1) := by decide +kernel
theorem dX10_goesMany_76 : decode cX10_goesMany 76 = .ok (.aload_n 0, 1) := by decide +kernel
theorem dX10_goesMany_77 : decode cX10_goesMany 77 = .ok (.getfield 61, 3) := by decide +kernel
theorem dX10_goesMany_80 : decode cX10_goesMany 80 = .ok (.iload 6, 2) := by decide +kernel
theorem dX10_goesMany_82 : decode cX10_goesMany 82 = .ok (.laload, 1) := by decide +kernel
theorem dX10_goesMany_83 : decode cX10_goesMany 83 = .ok (.iload 7, 2) := by decide +kernel
theorem dX10_goesMany_85 : decode cX10_goesMany 85 = .ok (.ifCond .ne 7, 3) := by decide +kernel
theorem dX10_goesMany_92 : decode cX10_goesMany 92 = .ok (.lload_n 3, 1) := by decide +kernel
theorem dX10_goesMany_93 : decode cX10_goesMany 93 = .ok (.lmul, 1) := by decide +kernel
theorem dX10_goesMany_94 : decode cX10_goesMany 94 = .ok (.ladd, 1) := by decide +kernel
theorem dX10_goesMany_95 : decode cX10_goesMany 95 = .ok (.lastore, 1) := by decide +kernel
theorem dX10_goesMany_88 : decode cX10_goesMany 88 = .ok (.lload_n 1, 1) := by decide +kernel
theorem dX10_goesMany_89 : decode cX10_goesMany 89 = .ok (.goto 4, 3) := by decide +kernel
set_option maxHeartbeats 4000000 in
set_option maxRecDepth 100000 in
theorem k_X10_goesMany_0 (l : Launch) (V : GV) (z : Nat → Nat) (k1 : Int64) (k2 : Int64) (fz24 : Nat → Int32) (fz25 : Nat → Int32) (fz30 : Nat → Int64) (fz31 : Nat → Int64) (pz0_0 : Int32) (pz0_5 : Int32) (pz0_6 : Int32) (pz0_7 : Int32) (pz0_8 : Int32) (pz0_9 : Int32) (pz0_10 : Int32) (pz0_11 : Int32) (pz0_12 : Int32) (pz0_13 : Int32) (pz0_14 : Int32) (pz0_18 : Int32) (pz0_19 : Int32) (pz0_22 : Int32) (pz0_23 : Int32) (pz0_29 : Int32) (tfz24 : ∀ j, iv 0 9999 (fz24 j)) (tfz25 : ∀ j, iv (-1) 9999 (fz25 j)) (bpz0_5 : iv 0 900 pz0_5) (bpz0_6 : iv 0 900 pz0_6) (bpz0_7 : iv 0 900 pz0_7) (bpz0_8 : iv 0 900 pz0_8) (bpz0_10 : iv 0 999 pz0_10) (bpz0_11 : iv 0 4 pz0_11) (bpz0_12 : iv 0 900 pz0_12) (bpz0_13 : iv 0 4 pz0_13) (bpz0_14 : iv (-1) 900 pz0_14) (bpz0_18 : iv 0 2 pz0_18) (bpz0_22 : iv 0 9999 pz0_22) (bpz0_29 : iv 0 10000 pz0_29) : Ct l V yX10_goesMany (.code yX10_goesMany cX10_goesMany 8 none) 2 [.ref (z 0), .long k1, .long k2] [(z 24, aI V 10000 fz24), (z 25, aI V 40000 fz25), (z 30, aJ V 10000 fz30), (z 31, aJ V 10000 fz31), (z 0, .inr (10, mo z pz0_0 pz0_5 pz0_6 pz0_7 pz0_8 pz0_9 pz0_10 pz0_11 pz0_12 pz0_13 pz0_14 pz0_18 pz0_19 pz0_22 pz0_23 pz0_29))] 0 0 (QV V (fun (w : va_W) => ∃ (g0 : Nat → Int64) (g1 : Nat → Int64), w = [(z 24, aI V 10000 fz24), (z 25, aI V 40000 fz25), (z 30, aJ V 10000 g0), (z 31, aJ V 10000 g1), (z 0, .inr (10, mo z pz0_0 pz0_5 pz0_6 pz0_7 pz0_8 pz0_9 pz0_10 pz0_11 pz0_12 pz0_13 pz0_14 pz0_18 pz0_19 pz0_22 pz0_23 pz0_29))])) := by
  refine Ct.of (by decide) (Nat.le_of_ble_eq_true rfl) (fun p e s m below meth c A ls hx hb hr hml hown hlk hnm hg hP hK hD hE hA hS hl => ?_)
  have hl : lv_has ls 8 [(0, .ref (z 0)), (1, .long k1), (3, .long k2)] := hl
  refine lv_iconst (v := 0) hx hb dX10_goesMany_0 (by decide) ?_
  refine lv_istore (lv' := [(5, .int 0), (0, .ref (z 0)), (1, .long k1), (3, .long k2)]) hx hb dX10_goesMany_1 hl (by decide) rfl (fun ls hl => ?_)
  refine loopF (X := fun (n_3 : Nat) (H : Heap) (locs : List Loc) (ls : Array Slot) => ∃ (u_1 : Int32) (f_2 : Nat → Int64), (iv 0 2147483647 u_1) ∧ n_3 = (2147483647 - (u_1 : Int32).toInt).toNat ∧ va_P V.1 vwCl [(z 24, aI V 10000 fz24), (z 25, aI V 40000 fz25), (z 30, aJ V 10000 fz30), (z 31, aJ V 10000 f_2), (z 0, .inr (10, mo z pz0_0 pz0_5 pz0_6 pz0_7 pz0_8 pz0_9 pz0_10 pz0_11 pz0_12 pz0_13 pz0_14 pz0_18 pz0_19 pz0_22 pz0_23 pz0_29))] H ∧ va_D A [(z 24, aI V 10000 fz24), (z 25, aI V 40000 fz25), (z 30, aJ V 10000 fz30), (z 31, aJ V 10000 f_2), (z 0, .inr (10, mo z pz0_0 pz0_5 pz0_6 pz0_7 pz0_8 pz0_9 pz0_10 pz0_11 pz0_12 pz0_13 pz0_14 pz0_18 pz0_19 pz0_22 pz0_23 pz0_29))] ∧ va_S A s.heap H locs ∧ lv_has ls 8 [(5, .int u_1), (0, .ref (z 0)), (1, .long k1), (3, .long k2)]) (g := fun ls => F0 m 3 ls []) (fun n_3 H locs ls hX ihn_3 => ?_) _ ⟨0, fz31, (iv_c (0 : Int32) (by decide)), rfl, hP, hD, hS, lv_sub hl [0, 1, 2, 3] rfl⟩
  obtain ⟨u_1, f_2, bu_1, en_3, hP, hD, hS, hl⟩ := hX
  refine lv_iload hx hb dX10_goesMany_3 (lv_at hl 0 rfl) ?_
  refine lv_aload_n hx hb dX10_goesMany_5 rfl (lv_at hl 1 rfl) ?_
  refine va_get (ci := 10) (v := .int pz0_29) (C := RX10) (T := TX10) (N := 40) hx hb hg inX10 hown hK hP 4 rfl rfl 29 (by decide) (hg _ q_6_13) (fun _ h9 => h9) rfl dX10_goesMany_6 ?_
  refine lv_icmp_ge (tgt := 108) hx hb dX10_goesMany_9 (by decide) (fun c_4 => ?_) (fun c_4 => ?_)
  · refine lv_aload_n hx hb dX10_goesMany_108 rfl (lv_at hl 1 rfl) ?_
    refine jnV (wr := [(z 24, aI V 10000 fz24), (z 25, aI V 40000 fz25)]) (rnV (rest := []) ⟨hx, hb, hml, hown, hg⟩ (k_X10_isThen_0 l V z fz30 f_2 pz0_0 pz0_5 pz0_6 pz0_7 pz0_8 pz0_9 pz0_10 pz0_11 pz0_12 pz0_13 pz0_14 pz0_18 pz0_19 pz0_22 pz0_23 pz0_29 bpz0_5 bpz0_6 bpz0_7 bpz0_8 bpz0_10 bpz0_11 bpz0_12 bpz0_13 bpz0_14 bpz0_18 bpz0_22 bpz0_29) mt_X10_isThen q_7_228 ⟨Nat.le_of_ble_eq_true rfl, Nat.le_of_ble_eq_true rfl⟩ hK hP hD hS hA hE [2, 3, 4] rfl rfl 4 rfl rfl rfl rfl hl.1 rfl (Nat.le_of_ble_eq_true rfl) dX10_goesMany_109 ⟨Nat.le_of_ble_eq_true rfl, Nat.le_of_ble_eq_true rfl⟩) hP hD hS hA [2, 3, 4] [0, 1] rfl rfl rfl (by decide) (fun  w H locs hw hP hD hS => ?_)
    obtain ⟨f_5, f_6, rfl⟩ := hw
    have hP : va_P V.1 vwCl [(z 24, aI V 10000 fz24), (z 25, aI V 40000 fz25), (z 30, aJ V 10000 f_5), (z 31, aJ V 10000 f_6), (z 0, .inr (10, mo z pz0_0 pz0_5 pz0_6 pz0_7 pz0_8 pz0_9 pz0_10 pz0_11 pz0_12 pz0_13 pz0_14 pz0_18 pz0_19 pz0_22 pz0_23 pz0_29))] H := hP
    have hD := cpD hP hD
    exact fiV hx hb hr hlk hK hP hD hS dX10_goesMany_112 (Nat.le_of_ble_eq_true rfl) (Nat.le_of_ble_eq_true rfl) (⟨f_5, f_6, rfl⟩)
  · have b_7 : iv 0 9999 u_1 := iv_l1 (Int32.not_le.mp c_4) bu_1 bpz0_29 (by decide)
    have b_8 : iv 1 10000 pz0_29 := iv_l2 (Int32.not_le.mp c_4) bu_1 bpz0_29 (by decide)
    refine lv_aload_n hx hb dX10_goesMany_12 rfl (lv_at hl 1 rfl) ?_
    refine va_get (ci := 10) (v := .ref (z 24)) (C := RX10) (T := TX10) (N := 40) hx hb hg inX10 hown hK hP 4 rfl rfl 24 (by decide) (hg _ q_6_8) (fun _ h9 => h9) rfl dX10_goesMany_13 ?_
    refine lv_iload hx hb dX10_goesMany_16 (lv_at hl 0 rfl) ?_
    refine va_iald hx hb hK hP 0 0 rfl rfl (iv_in b_7 (by decide)) dX10_goesMany_18 ?_
    refine lv_topi (fun x_9 ex_9 => ?_)
    have bx_9 : iv 0 9999 x_9 := by rw [ex_9]; exact tfz24 _
    refine lv_istore (lv' := [(6, .int x_9), (5, .int u_1), (0, .ref (z 0)), (1, .long k1), (3, .long k2)]) hx hb dX10_goesMany_19 hl (by decide) rfl (fun ls hl => ?_)
    refine lv_iconst (v := 0) hx hb dX10_goesMany_21 (by decide) ?_
    refine lv_istore (lv' := [(7, .int 0), (6, .int x_9), (5, .int u_1), (0, .ref (z 0)), (1, .long k1), (3, .long k2)]) hx hb dX10_goesMany_22 hl (by decide) rfl (fun ls hl => ?_)
    refine loopF (X := fun (n_12 : Nat) (H : Heap) (locs : List Loc) (ls : Array Slot) => ∃ (u_10 : Int32) (f_11 : Nat → Int64), (iv 0 2147483647 u_10) ∧ n_12 = (2147483647 - (u_10 : Int32).toInt).toNat ∧ va_P V.1 vwCl [(z 24, aI V 10000 fz24), (z 25, aI V 40000 fz25), (z 30, aJ V 10000 fz30), (z 31, aJ V 10000 f_11), (z 0, .inr (10, mo z pz0_0 pz0_5 pz0_6 pz0_7 pz0_8 pz0_9 pz0_10 pz0_11 pz0_12 pz0_13 pz0_14 pz0_18 pz0_19 pz0_22 pz0_23 pz0_29))] H ∧ va_D A [(z 24, aI V 10000 fz24), (z 25, aI V 40000 fz25), (z 30, aJ V 10000 fz30), (z 31, aJ V 10000 f_11), (z 0, .inr (10, mo z pz0_0 pz0_5 pz0_6 pz0_7 pz0_8 pz0_9 pz0_10 pz0_11 pz0_12 pz0_13 pz0_14 pz0_18 pz0_19 pz0_22 pz0_23 pz0_29))] ∧ va_S A s.heap H locs ∧ lv_has ls 8 [(7, .int u_10), (6, .int x_9), (5, .int u_1), (0, .ref (z 0)), (1, .long k1), (3, .long k2)]) (g := fun ls => F0 m 24 ls []) (fun n_12 H locs ls hX ihn_12 => ?_) _ ⟨0, f_2, (iv_c (0 : Int32) (by decide)), rfl, hP, hD, hS, lv_sub hl [0, 1, 2, 3, 4, 5] rfl⟩
    obtain ⟨u_10, f_11, bu_10, en_12, hP, hD, hS, hl⟩ := hX
    refine lv_iload hx hb dX10_goesMany_24 (lv_at hl 0 rfl) ?_
    refine lv_iconst (v := 4) hx hb dX10_goesMany_26 (by decide) ?_
    refine lv_icmp_ge (tgt := 102) hx hb dX10_goesMany_27 (by decide) (fun c_13 => ?_) (fun c_13 => ?_)
    · have b_14 : iv 4 2147483647 u_10 := iv_e2 c_13 (iv_c (4 : Int32) (a := 4) (b := 4) (by decide)) bu_10 (by decide)
      obtain ⟨x_15, ex_15⟩ : ∃ z9 : Int32, z9 = u_1 + 1 := ⟨_, rfl⟩
      have bx_15 : iv 1 10000 x_15 := by rw [ex_15]; exact iv_add b_7 (iv_c (1 : Int32) (a := 1) (b := 1) (by decide)) (by decide)
      refine lv_iinc (v := x_15) (lv' := [(5, .int x_15), (7, .int u_10), (6, .int x_9), (0, .ref (z 0)), (1, .long k1), (3, .long k2)]) hx hb dX10_goesMany_102 hl (k := 2) rfl (by rw [ex_15]; rfl) (by decide) rfl (fun ls hl => ?_)
      refine lv_goto (tgt := 3) hx hb dX10_goesMany_105 (by decide) ?_
      exact ihn_3 _ _ _ _ (by rw [en_3, ex_15]; exact mu_up b_7 (by decide)) ⟨x_15, f_11, (iv_w bx_15 (by decide)), rfl, hP, hD, hS, lv_sub hl [0, 3, 4, 5] rfl⟩
    · have b_16 : iv 0 3 u_10 := iv_l1 (Int32.not_le.mp c_13) bu_10 (iv_c (4 : Int32) (a := 4) (b := 4) (by decide)) (by decide)
      refine lv_aload_n hx hb dX10_goesMany_30 rfl (lv_at hl 3 rfl) ?_
      refine va_get (ci := 10) (v := .ref (z 30)) (C := RX10) (T := TX10) (N := 40) hx hb hg inX10 hown hK hP 4 rfl rfl 30 (by decide) (hg _ q_6_14) (fun _ h9 => h9) rfl dX10_goesMany_31 ?_
      refine lv_iload hx hb dX10_goesMany_34 (lv_at hl 1 rfl) ?_
      refine va_lald hx hb hK hP 2 2 rfl rfl (iv_in bx_9 (by decide)) dX10_goesMany_36 ?_
      refine lv_topl (fun j_17 ej_17 => ?_)
      refine lv_lconst (v := 0) hx hb dX10_goesMany_37 (by decide) ?_
      refine W.lcmp hx hb dX10_goesMany_38 ?_
      refine lv_if_le (tgt := 102) hx hb dX10_goesMany_39 (by decide) (fun c_18 => ?_) (fun c_18 => ?_)
      · replace c_18 : j_17 ≤ (0 : Int64) := (lg_cmp_le _ _).mp c_18
        have b_19 : ivL (-9223372036854775808) 0 j_17 := ivL_e1 c_18 (ivL_top j_17) (ivL_c (0 : Int64) (a := 0) (b := 0) (by decide)) (by decide)
        obtain ⟨x_20, ex_20⟩ : ∃ z9 : Int32, z9 = u_1 + 1 := ⟨_, rfl⟩
        have bx_20 : iv 1 10000 x_20 := by rw [ex_20]; exact iv_add b_7 (iv_c (1 : Int32) (a := 1) (b := 1) (by decide)) (by decide)
        refine lv_iinc (v := x_20) (lv' := [(5, .int x_20), (7, .int u_10), (6, .int x_9), (0, .ref (z 0)), (1, .long k1), (3, .long k2)]) hx hb dX10_goesMany_102 hl (k := 2) rfl (by rw [ex_20]; rfl) (by decide) rfl (fun ls hl => ?_)
        refine lv_goto (tgt := 3) hx hb dX10_goesMany_105 (by decide) ?_
        exact ihn_3 _ _ _ _ (by rw [en_3, ex_20]; exact mu_up b_7 (by decide)) ⟨x_20, f_11, (iv_w bx_20 (by decide)), rfl, hP, hD, hS, lv_sub hl [0, 3, 4, 5] rfl⟩
      · replace c_18 : ¬ j_17 ≤ (0 : Int64) := fun z => c_18 ((lg_cmp_le _ _).mpr z)
        have b_21 : ivL 1 9223372036854775807 j_17 := ivL_l2 (Int64.not_le.mp c_18) (ivL_c (0 : Int64) (a := 0) (b := 0) (by decide)) (ivL_top j_17) (by decide)
        refine lv_aload_n hx hb dX10_goesMany_42 rfl (lv_at hl 3 rfl) ?_
        refine va_get (ci := 10) (v := .ref (z 25)) (C := RX10) (T := TX10) (N := 40) hx hb hg inX10 hown hK hP 4 rfl rfl 25 (by decide) (hg _ q_6_9) (fun _ h9 => h9) rfl dX10_goesMany_43 ?_
        refine lv_iconst (v := 4) hx hb dX10_goesMany_46 (by decide) ?_
        refine lv_iload hx hb dX10_goesMany_47 (lv_at hl 1 rfl) ?_
        refine lv_imul hx hb dX10_goesMany_49 ?_
        refine lv_topi (fun x_22 ex_22 => ?_)
        have bx_22 : iv 0 39996 x_22 := by rw [ex_22]; exact iv_cmul (iv_c (4 : Int32) (a := 4) (b := 4) (by decide)) bx_9 (by decide)
        refine lv_iload hx hb dX10_goesMany_50 (lv_at hl 0 rfl) ?_
        refine lv_iadd hx hb dX10_goesMany_52 ?_
        refine lv_topi (fun x_23 ex_23 => ?_)
        have bx_23 : iv 0 39999 x_23 := by rw [ex_23]; exact iv_add bx_22 b_16 (by decide)
        refine va_iald hx hb hK hP 1 0 rfl rfl (iv_in bx_23 (by decide)) dX10_goesMany_53 ?_
        refine lv_topi (fun x_24 ex_24 => ?_)
        have bx_24 : iv (-1) 9999 x_24 := by rw [ex_24]; exact tfz25 _
        refine lv_iconst (v := (-1)) hx hb dX10_goesMany_54 (by decide) ?_
        refine lv_icmp_eq (tgt := 96) hx hb dX10_goesMany_55 (by decide) (fun c_25 => ?_) (fun c_25 => ?_)
        · have b_26 : iv (-1) (-1) x_24 := iv_q c_25 (iv_c ((-1) : Int32) (a := (-1)) (b := (-1)) (by decide))
          obtain ⟨x_27, ex_27⟩ : ∃ z9 : Int32, z9 = u_10 + 1 := ⟨_, rfl⟩
          have bx_27 : iv 1 4 x_27 := by rw [ex_27]; exact iv_add b_16 (iv_c (1 : Int32) (a := 1) (b := 1) (by decide)) (by decide)
          refine lv_iinc (v := x_27) (lv' := [(7, .int x_27), (6, .int x_9), (5, .int u_1), (0, .ref (z 0)), (1, .long k1), (3, .long k2)]) hx hb dX10_goesMany_96 hl (k := 0) rfl (by rw [ex_27]; rfl) (by decide) rfl (fun ls hl => ?_)
          refine lv_goto (tgt := 24) hx hb dX10_goesMany_99 (by decide) ?_
          exact ihn_12 _ _ _ _ (by rw [en_12, ex_27]; exact mu_up b_16 (by decide)) ⟨x_27, f_11, (iv_w bx_27 (by decide)), rfl, hP, hD, hS, lv_sub hl [0, 1, 2, 3, 4, 5] rfl⟩
        · have b_28 : iv 0 9999 x_24 := iv_n0 c_25 bx_24 (iv_c ((-1) : Int32) (a := (-1)) (b := (-1)) (by decide)) (by decide)
          refine lv_aload_n hx hb dX10_goesMany_58 rfl (lv_at hl 3 rfl) ?_
          refine va_get (ci := 10) (v := .ref (z 31)) (C := RX10) (T := TX10) (N := 40) hx hb hg inX10 hown hK hP 4 rfl rfl 31 (by decide) (hg _ q_6_15) (fun _ h9 => h9) rfl dX10_goesMany_59 ?_
          refine lv_aload_n hx hb dX10_goesMany_62 rfl (lv_at hl 3 rfl) ?_
          refine va_get (ci := 10) (v := .ref (z 25)) (C := RX10) (T := TX10) (N := 40) hx hb hg inX10 hown hK hP 4 rfl rfl 25 (by decide) (hg _ q_6_9) (fun _ h9 => h9) rfl dX10_goesMany_63 ?_
          refine lv_iconst (v := 4) hx hb dX10_goesMany_66 (by decide) ?_
          refine lv_iload hx hb dX10_goesMany_67 (lv_at hl 1 rfl) ?_
          refine lv_imul hx hb dX10_goesMany_69 ?_
          refine tpi (y := x_22) ex_22.symm ?_
          refine lv_iload hx hb dX10_goesMany_70 (lv_at hl 0 rfl) ?_
          refine lv_iadd hx hb dX10_goesMany_72 ?_
          refine tpi (y := x_23) ex_23.symm ?_
          refine va_iald hx hb hK hP 1 0 rfl rfl (iv_in bx_23 (by decide)) dX10_goesMany_73 ?_
          refine tpi (y := x_24) ex_24.symm ?_
          refine lv_dup2_11 hx hb dX10_goesMany_74 rfl rfl ?_
          refine va_lald hx hb hK hP 3 2 rfl rfl (iv_in b_28 (by decide)) dX10_goesMany_75 ?_
          refine lv_topl (fun j_29 ej_29 => ?_)
          refine lv_aload_n hx hb dX10_goesMany_76 rfl (lv_at hl 3 rfl) ?_
          refine va_get (ci := 10) (v := .ref (z 30)) (C := RX10) (T := TX10) (N := 40) hx hb hg inX10 hown hK hP 4 rfl rfl 30 (by decide) (hg _ q_6_14) (fun _ h9 => h9) rfl dX10_goesMany_77 ?_
          refine lv_iload hx hb dX10_goesMany_80 (lv_at hl 1 rfl) ?_
          refine va_lald hx hb hK hP 2 2 rfl rfl (iv_in bx_9 (by decide)) dX10_goesMany_82 ?_
          refine lv_topl (fun j_30 ej_30 => ?_)
          refine lv_iload hx hb dX10_goesMany_83 (lv_at hl 0 rfl) ?_
          refine lv_if_ne (tgt := 92) hx hb dX10_goesMany_85 (by decide) (fun c_31 => ?_) (fun c_31 => ?_)
          · have b_32 : iv 1 3 u_10 := iv_n0 c_31 b_16 (iv_c (0 : Int32) (a := 0) (b := 0) (by decide)) (by decide)
            refine lv_lload_n hx hb dX10_goesMany_92 rfl (lv_at hl 5 rfl) ?_
            refine lv_lmul hx hb dX10_goesMany_93 ?_
            refine lv_topl (fun j_33 ej_33 => ?_)
            refine lv_ladd hx hb dX10_goesMany_94 ?_
            refine lv_topl (fun j_34 ej_34 => ?_)
            refine va_last hx hb hK hP hD hS 3 2 rfl rfl (iv_in b_28 (by decide)) dX10_goesMany_95 (fun H locs hP hD hS => ?_)
            obtain ⟨f_35, hP, hD⟩ : ∃ f_35 : Nat → Int64, va_P V.1 vwCl [(z 24, aI V 10000 fz24), (z 25, aI V 40000 fz25), (z 30, aJ V 10000 fz30), (z 31, aJ V 10000 f_35), (z 0, .inr (10, mo z pz0_0 pz0_5 pz0_6 pz0_7 pz0_8 pz0_9 pz0_10 pz0_11 pz0_12 pz0_13 pz0_14 pz0_18 pz0_19 pz0_22 pz0_23 pz0_29))] H ∧ va_D A [(z 24, aI V 10000 fz24), (z 25, aI V 40000 fz25), (z 30, aJ V 10000 fz30), (z 31, aJ V 10000 f_35), (z 0, .inr (10, mo z pz0_0 pz0_5 pz0_6 pz0_7 pz0_8 pz0_9 pz0_10 pz0_11 pz0_12 pz0_13 pz0_14 pz0_18 pz0_19 pz0_22 pz0_23 pz0_29))] := ⟨_, hP, hD⟩
            obtain ⟨x_36, ex_36⟩ : ∃ z9 : Int32, z9 = u_10 + 1 := ⟨_, rfl⟩
            have bx_36 : iv 2 4 x_36 := by rw [ex_36]; exact iv_add b_32 (iv_c (1 : Int32) (a := 1) (b := 1) (by decide)) (by decide)
            refine lv_iinc (v := x_36) (lv' := [(7, .int x_36), (6, .int x_9), (5, .int u_1), (0, .ref (z 0)), (1, .long k1), (3, .long k2)]) hx hb dX10_goesMany_96 hl (k := 0) rfl (by rw [ex_36]; rfl) (by decide) rfl (fun ls hl => ?_)
            refine lv_goto (tgt := 24) hx hb dX10_goesMany_99 (by decide) ?_
            exact ihn_12 _ _ _ _ (by rw [en_12, ex_36]; exact mu_up b_32 (by decide)) ⟨x_36, f_35, (iv_w bx_36 (by decide)), rfl, hP, hD, hS, lv_sub hl [0, 1, 2, 3, 4, 5] rfl⟩
          · have b_37 : iv 0 0 u_10 := iv_q c_31 (iv_c (0 : Int32) (a := 0) (b := 0) (by decide))
            refine lv_lload_n hx hb dX10_goesMany_88 rfl (lv_at hl 4 rfl) ?_
            refine lv_goto (tgt := 93) hx hb dX10_goesMany_89 (by decide) ?_
            refine lv_lmul hx hb dX10_goesMany_93 ?_
            refine lv_topl (fun j_38 ej_38 => ?_)
            refine lv_ladd hx hb dX10_goesMany_94 ?_
            refine lv_topl (fun j_39 ej_39 => ?_)
            refine va_last hx hb hK hP hD hS 3 2 rfl rfl (iv_in b_28 (by decide)) dX10_goesMany_95 (fun H locs hP hD hS => ?_)
            obtain ⟨f_40, hP, hD⟩ : ∃ f_40 : Nat → Int64, va_P V.1 vwCl [(z 24, aI V 10000 fz24), (z 25, aI V 40000 fz25), (z 30, aJ V 10000 fz30), (z 31, aJ V 10000 f_40), (z 0, .inr (10, mo z pz0_0 pz0_5 pz0_6 pz0_7 pz0_8 pz0_9 pz0_10 pz0_11 pz0_12 pz0_13 pz0_14 pz0_18 pz0_19 pz0_22 pz0_23 pz0_29))] H ∧ va_D A [(z 24, aI V 10000 fz24), (z 25, aI V 40000 fz25), (z 30, aJ V 10000 fz30), (z 31, aJ V 10000 f_40), (z 0, .inr (10, mo z pz0_0 pz0_5 pz0_6 pz0_7 pz0_8 pz0_9 pz0_10 pz0_11 pz0_12 pz0_13 pz0_14 pz0_18 pz0_19 pz0_22 pz0_23 pz0_29))] := ⟨_, hP, hD⟩
            obtain ⟨x_41, ex_41⟩ : ∃ z9 : Int32, z9 = u_10 + 1 := ⟨_, rfl⟩
            have bx_41 : iv 1 1 x_41 := by rw [ex_41]; exact iv_add b_37 (iv_c (1 : Int32) (a := 1) (b := 1) (by decide)) (by decide)
            refine lv_iinc (v := x_41) (lv' := [(7, .int x_41), (6, .int x_9), (5, .int u_1), (0, .ref (z 0)), (1, .long k1), (3, .long k2)]) hx hb dX10_goesMany_96 hl (k := 0) rfl (by rw [ex_41]; rfl) (by decide) rfl (fun ls hl => ?_)
            refine lv_goto (tgt := 24) hx hb dX10_goesMany_99 (by decide) ?_
            exact ihn_12 _ _ _ _ (by rw [en_12, ex_41]; exact mu_up b_37 (by decide)) ⟨x_41, f_40, (iv_w bx_41 (by decide)), rfl, hP, hD, hS, lv_sub hl [0, 1, 2, 3, 4, 5] rfl⟩
theorem dX10_rows_0 : decode cX10_rows 0 = .ok (.aload_n 0, 1) := by decide +kernel
theorem dX10_rows_1 : decode cX10_rows 1 = .ok (.iconst 0, 1) := by decide +kernel
theorem dX10_rows_2 : decode cX10_rows 2 = .ok (.putfield 1, 3) := by decide +kernel
theorem dX10_rows_5 : decode cX10_rows 5 = .ok (.aload_n 0, 1) := by decide +kernel
theorem dX10_rows_6 : decode cX10_rows 6 = .ok (.iload_n 1, 1) := by decide +kernel
theorem dX10_rows_7 : decode cX10_rows 7 = .ok (.iload_n 2, 1) := by decide +kernel
theorem dX10_rows_8 : decode cX10_rows 8 = .ok (.invokevirtual 373, 3) := by decide +kernel
theorem dX10_rows_11 : decode cX10_rows 11 = .ok (.istore 4, 2) := by decide +kernel
theorem dX10_rows_13 : decode cX10_rows 13 = .ok (.iload 4, 2) := by decide +kernel
theorem dX10_rows_15 : decode cX10_rows 15 = .ok (.ifCond .eq 7, 3) := by decide +kernel
theorem dX10_rows_22 : decode cX10_rows 22 = .ok (.iload_n 3, 1) := by decide +kernel
theorem dX10_rows_23 : decode cX10_rows 23 = .ok (.i2l, 1) := by decide +kernel
theorem dX10_rows_24 : decode cX10_rows 24 = .ok (.lconst 0, 1) := by decide +kernel
theorem q_7_218 : Cond.constantLong "BeaconDelayModel" 385 (12 : Int64) ∈ gw := gw_7 (i := 218) (by decide +kernel) rfl
theorem dX10_rows_25 : decode cX10_rows 25 = .ok (.ldc2_w 385, 3) := by decide +kernel
theorem dX10_rows_28 : decode cX10_rows 28 = .ok (.invokestatic 159, 3) := by decide +kernel
theorem dX10_rows_31 : decode cX10_rows 31 = .ok (.ifCond .ne 7, 3) := by decide +kernel
theorem dX10_rows_38 : decode cX10_rows 38 = .ok (.aload_n 0, 1) := by decide +kernel
theorem dX10_rows_39 : decode cX10_rows 39 = .ok (.invokevirtual 362, 3) := by decide +kernel
theorem dX10_rows_42 : decode cX10_rows 42 = .ok (.aload_n 0, 1) := by decide +kernel
theorem q_7_223 : Cond.code yX10_beginsMany prog_12_method_91_code 2 none ∈ gw := gw_7 (i := 223) (rfl) rfl
theorem q_7_222 : Cond.instanceMethod yX10_beginsMany ∈ gw := gw_7 (i := 222) (by decide +kernel) rfl
theorem q_s_108 : Cond.selects "BeaconDelayModel" yX10_beginsMany yX10_beginsMany ∈ gw := gw_s (i := 108) (by decide +kernel) rfl
theorem mt_X10_beginsMany : MtV yX10_beginsMany cX10_beginsMany 2 none 0 := ⟨⟨q_7_223, q_1_9, by decide +kernel, by decide +kernel, by decide +kernel⟩, q_7_222, q_s_108⟩
theorem q_7_220 : Cond.methodLink "BeaconDelayModel" 389 yX10_beginsMany ∈ gw := gw_7 (i := 220) (by decide +kernel) rfl
theorem dX10_rows_43 : decode cX10_rows 43 = .ok (.invokevirtual 389, 3) := by decide +kernel
theorem dX10_rows_46 : decode cX10_rows 46 = .ok (.iconst 0, 1) := by decide +kernel
theorem dX10_rows_47 : decode cX10_rows 47 = .ok (.istore 5, 2) := by decide +kernel
theorem dX10_rows_49 : decode cX10_rows 49 = .ok (.iload 5, 2) := by decide +kernel
theorem dX10_rows_51 : decode cX10_rows 51 = .ok (.iload_n 3, 1) := by decide +kernel
theorem dX10_rows_52 : decode cX10_rows 52 = .ok (.if_icmp .ge 15, 3) := by decide +kernel
theorem dX10_rows_67 : decode cX10_rows 67 = .ok (.lconst 0, 1) := by decide +kernel
theorem dX10_rows_68 : decode cX10_rows 68 = .ok (.lstore 5, 2) := by decide +kernel
theorem dX10_rows_70 : decode cX10_rows 70 = .ok (.iconst 0, 1) := by decide +kernel
theorem dX10_rows_71 : decode cX10_rows 71 = .ok (.istore 7, 2) := by decide +kernel
theorem dX10_rows_73 : decode cX10_rows 73 = .ok (.iload 7, 2) := by decide +kernel
theorem dX10_rows_75 : decode cX10_rows 75 = .ok (.aload_n 0, 1) := by decide +kernel
theorem dX10_rows_76 : decode cX10_rows 76 = .ok (.getfield 355, 3) := by decide +kernel
theorem dX10_rows_79 : decode cX10_rows 79 = .ok (.if_icmp .ge 45, 3) := by decide +kernel
theorem dX10_rows_124 : decode cX10_rows 124 = .ok (.lload 5, 2) := by decide +kernel
theorem dX10_rows_126 : decode cX10_rows 126 = .ok (.lreturn, 1) := by decide +kernel
theorem dX10_rows_82 : decode cX10_rows 82 = .ok (.lload 5, 2) := by decide +kernel
theorem dX10_rows_84 : decode cX10_rows 84 = .ok (.aload_n 0, 1) := by decide +kernel
theorem dX10_rows_85 : decode cX10_rows 85 = .ok (.getfield 45, 3) := by decide +kernel
theorem dX10_rows_88 : decode cX10_rows 88 = .ok (.iload 7, 2) := by decide +kernel
theorem dX10_rows_90 : decode cX10_rows 90 = .ok (.iaload, 1) := by decide +kernel
theorem dX10_rows_91 : decode cX10_rows 91 = .ok (.iload_n 1, 1) := by decide +kernel
theorem dX10_rows_92 : decode cX10_rows 92 = .ok (.invokestatic 231, 3) := by decide +kernel
theorem dX10_rows_95 : decode cX10_rows 95 = .ok (.iload_n 2, 1) := by decide +kernel
theorem dX10_rows_96 : decode cX10_rows 96 = .ok (.if_icmp .ne 18, 3) := by decide +kernel
theorem dX10_rows_114 : decode cX10_rows 114 = .ok (.lconst 0, 1) := by decide +kernel
theorem dX10_rows_115 : decode cX10_rows 115 = .ok (.ladd, 1) := by decide +kernel
theorem dX10_rows_116 : decode cX10_rows 116 = .ok (.lstore 5, 2) := by decide +kernel
theorem dX10_rows_118 : decode cX10_rows 118 = .ok (.iinc 7 1, 3) := by decide +kernel
theorem dX10_rows_121 : decode cX10_rows 121 = .ok (.goto (-48), 3) := by decide +kernel
theorem dX10_rows_99 : decode cX10_rows 99 = .ok (.aload_n 0, 1) := by decide +kernel
theorem dX10_rows_100 : decode cX10_rows 100 = .ok (.getfield 61, 3) := by decide +kernel
theorem dX10_rows_103 : decode cX10_rows 103 = .ok (.aload_n 0, 1) := by decide +kernel
theorem dX10_rows_104 : decode cX10_rows 104 = .ok (.getfield 45, 3) := by decide +kernel
theorem dX10_rows_107 : decode cX10_rows 107 = .ok (.iload 7, 2) := by decide +kernel
theorem dX10_rows_109 : decode cX10_rows 109 = .ok (.iaload, 1) := by decide +kernel
theorem dX10_rows_110 : decode cX10_rows 110 = .ok (.laload, 1) := by decide +kernel
theorem dX10_rows_111 : decode cX10_rows 111 = .ok (.goto 4, 3) := by decide +kernel
theorem dX10_rows_55 : decode cX10_rows 55 = .ok (.aload_n 0, 1) := by decide +kernel
theorem dX10_rows_56 : decode cX10_rows 56 = .ok (.lconst 1, 1) := by decide +kernel
theorem dX10_rows_57 : decode cX10_rows 57 = .ok (.lconst 1, 1) := by decide +kernel
theorem q_7_227 : Cond.code yX10_goesMany prog_12_method_93_code 8 none ∈ gw := gw_7 (i := 227) (rfl) rfl
theorem q_7_226 : Cond.instanceMethod yX10_goesMany ∈ gw := gw_7 (i := 226) (by decide +kernel) rfl
theorem q_s_109 : Cond.selects "BeaconDelayModel" yX10_goesMany yX10_goesMany ∈ gw := gw_s (i := 109) (by decide +kernel) rfl
theorem mt_X10_goesMany : MtV yX10_goesMany cX10_goesMany 8 none 2 := ⟨⟨q_7_227, q_1_9, by decide +kernel, by decide +kernel, by decide +kernel⟩, q_7_226, q_s_109⟩
theorem q_7_224 : Cond.methodLink "BeaconDelayModel" 392 yX10_goesMany ∈ gw := gw_7 (i := 224) (by decide +kernel) rfl
theorem dX10_rows_58 : decode cX10_rows 58 = .ok (.invokevirtual 392, 3) := by decide +kernel
theorem dX10_rows_61 : decode cX10_rows 61 = .ok (.iinc 5 1, 3) := by decide +kernel
theorem dX10_rows_64 : decode cX10_rows 64 = .ok (.goto (-15), 3) := by decide +kernel
theorem q_7_219 : Cond.constantLong "BeaconDelayModel" 387 (-3 : Int64) ∈ gw := gw_7 (i := 219) (by decide +kernel) rfl
theorem dX10_rows_34 : decode cX10_rows 34 = .ok (.ldc2_w 387, 3) := by decide +kernel
theorem dX10_rows_37 : decode cX10_rows 37 = .ok (.lreturn, 1) := by decide +kernel
theorem dX10_rows_18 : decode cX10_rows 18 = .ok (.iload 4, 2) := by decide +kernel
theorem dX10_rows_20 : decode cX10_rows 20 = .ok (.i2l, 1) := by decide +kernel
theorem dX10_rows_21 : decode cX10_rows 21 = .ok (.lreturn, 1) := by decide +kernel
set_option maxHeartbeats 4000000 in
set_option maxRecDepth 100000 in
theorem k_X10_rows_0 (l : Launch) (V : GV) (z : Nat → Nat) (a1 : Int32) (a2 : Int32) (a3 : Int32) (pz0_0 : Int32) (pz0_5 : Int32) (pz0_6 : Int32) (pz0_7 : Int32) (pz0_8 : Int32) (pz0_9 : Int32) (pz0_10 : Int32) (pz0_11 : Int32) (pz0_12 : Int32) (pz0_13 : Int32) (pz0_14 : Int32) (pz0_18 : Int32) (pz0_19 : Int32) (pz0_22 : Int32) (pz0_23 : Int32) (pz0_29 : Int32) (fz1 : Nat → Int32) (fz15 : Nat → Int32) (fz16 : Nat → Int32) (fz24 : Nat → Int32) (fz25 : Nat → Int32) (fz28 : Nat → Int32) (fz30 : Nat → Int64) (fz31 : Nat → Int64) (bpz0_5 : iv 0 900 pz0_5) (bpz0_6 : iv 0 900 pz0_6) (bpz0_7 : iv 0 900 pz0_7) (bpz0_8 : iv 0 900 pz0_8) (bpz0_10 : iv 0 999 pz0_10) (bpz0_11 : iv 0 4 pz0_11) (bpz0_12 : iv 0 900 pz0_12) (bpz0_13 : iv 0 4 pz0_13) (bpz0_14 : iv (-1) 900 pz0_14) (bpz0_18 : iv 0 2 pz0_18) (bpz0_22 : iv 0 9999 pz0_22) (bpz0_29 : iv 0 10000 pz0_29) (tfz1 : ivT tA fz1) (tfz16 : ivT tW fz16) (tfz24 : ∀ j, iv 0 9999 (fz24 j)) (tfz25 : ∀ j, iv (-1) 9999 (fz25 j)) (hf0 : RW fz1) : Ct l V yX10_rows (.code yX10_rows cX10_rows 8 (some .long)) 6 [.ref (z 0), .int a1, .int a2, .int a3] [(z 0, .inr (10, mo z pz0_0 pz0_5 pz0_6 pz0_7 pz0_8 pz0_9 pz0_10 pz0_11 pz0_12 pz0_13 pz0_14 pz0_18 pz0_19 pz0_22 pz0_23 pz0_29)), (z 1, aI V 3075 fz1), (z 15, aI V 900 fz15), (z 16, aI V 6 fz16), (z 24, aI V 10000 fz24), (z 25, aI V 40000 fz25), (z 28, aZ V 10000 fz28), (z 30, aJ V 10000 fz30), (z 31, aJ V 10000 fz31)] 0 0 (QL V (fun (r : Int64) (w : va_W) => ∃ (v0 : Int32) (v1 : Int32) (g2 : Nat → Int32) (g3 : Nat → Int32) (g4 : Nat → Int32) (g5 : Nat → Int32) (g6 : Nat → Int32) (g7 : Nat → Int64) (g8 : Nat → Int64), iv 0 10000 v1 ∧ (ivT tW g3) ∧ (∀ j, iv 0 9999 (g4 j)) ∧ (∀ j, iv (-1) 9999 (g5 j)) ∧ (RW fz1) ∧ w = [(z 0, .inr (10, mo z v0 pz0_5 pz0_6 pz0_7 pz0_8 pz0_9 pz0_10 pz0_11 pz0_12 pz0_13 pz0_14 pz0_18 pz0_19 pz0_22 pz0_23 v1)), (z 1, aI V 3075 fz1), (z 15, aI V 900 g2), (z 16, aI V 6 g3), (z 24, aI V 10000 g4), (z 25, aI V 40000 g5), (z 28, aZ V 10000 g6), (z 30, aJ V 10000 g7), (z 31, aJ V 10000 g8)])) := by
  refine Ct.of (by decide) (Nat.le_of_ble_eq_true rfl) (fun p e s m below meth c A ls hx hb hr hml hown hlk hnm hg hP hK hD hE hA hS hl => ?_)
  have hl : lv_has ls 8 [(0, .ref (z 0)), (1, .int a1), (2, .int a2), (3, .int a3)] := hl
  refine lv_aload_n hx hb dX10_rows_0 rfl (lv_at hl 0 rfl) ?_
  refine lv_iconst (v := 0) hx hb dX10_rows_1 (by decide) ?_
  refine va_put (ci := 10) (v := .int 0) (ty := .int) (C := RX10) (T := TX10) (N := 40) hx hb hg inX10 tyX10 tyX10_ok nmX10 hown hK hP hD hS 0 rfl rfl 0 (by decide) (hg _ q_5_224) (fun _ h9 => h9) rfl (by decide +kernel) rfl rfl (Nat.le_of_ble_eq_true rfl) dX10_rows_2 (fun H locs hP hD hS => ?_)
  have hP : va_P V.1 vwCl [(z 0, .inr (10, mo z 0 pz0_5 pz0_6 pz0_7 pz0_8 pz0_9 pz0_10 pz0_11 pz0_12 pz0_13 pz0_14 pz0_18 pz0_19 pz0_22 pz0_23 pz0_29)), (z 1, aI V 3075 fz1), (z 15, aI V 900 fz15), (z 16, aI V 6 fz16), (z 24, aI V 10000 fz24), (z 25, aI V 40000 fz25), (z 28, aZ V 10000 fz28), (z 30, aJ V 10000 fz30), (z 31, aJ V 10000 fz31)] H := hP
  have hD := cpD hP hD
  refine lv_aload_n hx hb dX10_rows_5 rfl (lv_at hl 0 rfl) ?_
  refine lv_iload_n hx hb dX10_rows_6 rfl (lv_at hl 1 rfl) ?_
  refine lv_iload_n hx hb dX10_rows_7 rfl (lv_at hl 2 rfl) ?_
  refine jnI (wr := [(z 15, aI V 900 fz15), (z 16, aI V 6 fz16), (z 24, aI V 10000 fz24), (z 25, aI V 40000 fz25), (z 28, aZ V 10000 fz28), (z 30, aJ V 10000 fz30), (z 31, aJ V 10000 fz31)]) (rnV (rest := []) ⟨hx, hb, hml, hown, hg⟩ (k_X10_noHigh_0 l V z a1 a2 0 pz0_5 pz0_6 pz0_7 pz0_8 pz0_9 pz0_10 pz0_11 pz0_12 pz0_13 pz0_14 pz0_18 pz0_19 pz0_22 pz0_23 pz0_29 fz1 bpz0_5 bpz0_6 bpz0_7 bpz0_8 bpz0_10 bpz0_11 bpz0_12 bpz0_13 bpz0_14 bpz0_18 bpz0_22 bpz0_29 tfz1) mt_X10_noHigh q_7_182 ⟨Nat.le_of_ble_eq_true rfl, Nat.le_of_ble_eq_true rfl⟩ hK hP hD hS hA hE [0, 1] rfl rfl 0 rfl rfl rfl rfl hl.1 rfl (Nat.le_of_ble_eq_true rfl) dX10_rows_8 ⟨Nat.le_of_ble_eq_true rfl, Nat.le_of_ble_eq_true rfl⟩) hP hD hS hA [0, 1] [2, 3, 4, 5, 6, 7, 8] rfl rfl rfl (by decide) (fun r_1 w H locs hw hP hD hS => ?_)
  obtain ⟨br_1, g_2, g_3, rfl⟩ := hw
  have hP : va_P V.1 vwCl [(z 15, aI V 900 fz15), (z 16, aI V 6 fz16), (z 24, aI V 10000 fz24), (z 25, aI V 40000 fz25), (z 28, aZ V 10000 fz28), (z 30, aJ V 10000 fz30), (z 31, aJ V 10000 fz31), (z 0, .inr (10, mo z 0 pz0_5 pz0_6 pz0_7 pz0_8 pz0_9 pz0_10 pz0_11 pz0_12 pz0_13 pz0_14 pz0_18 pz0_19 pz0_22 pz0_23 pz0_29)), (z 1, aI V 3075 fz1)] H := hP
  have hD := cpD hP hD
  refine lv_istore (lv' := [(4, .int r_1), (0, .ref (z 0)), (1, .int a1), (2, .int a2), (3, .int a3)]) hx hb dX10_rows_11 hl (by decide) rfl (fun ls hl => ?_)
  refine lv_iload hx hb dX10_rows_13 (lv_at hl 0 rfl) ?_
  refine lv_if_eq (tgt := 22) hx hb dX10_rows_15 (by decide) (fun c_4 => ?_) (fun c_4 => ?_)
  · have b_5 : iv 0 0 r_1 := iv_q c_4 (iv_c (0 : Int32) (a := 0) (b := 0) (by decide))
    have b_6 : iv 0 3 a1 := iv_cap (g_2 (iv_eqp b_5 (iv_c (0 : Int32) (by decide)))) (iv_top a1) (by decide)
    have b_7 : iv 0 4 a2 := iv_cap (g_3 (iv_eqp b_5 (iv_c (0 : Int32) (by decide)))) (iv_top a2) (by decide)
    refine lv_iload_n hx hb dX10_rows_22 rfl (lv_at hl 4 rfl) ?_
    refine lv_i2l hx hb dX10_rows_23 rfl ?_
    refine lv_topl (fun j_8 ej_8 => ?_)
    refine lv_lconst (v := 0) hx hb dX10_rows_24 (by decide) ?_
    refine lv_ldc2 (v := 12) hx hb hown (hg _ q_7_218) dX10_rows_25 ?_
    refine jnI (wr := [(z 15, aI V 900 fz15), (z 16, aI V 6 fz16), (z 24, aI V 10000 fz24), (z 25, aI V 40000 fz25), (z 28, aZ V 10000 fz28), (z 30, aJ V 10000 fz30), (z 31, aJ V 10000 fz31), (z 0, .inr (10, mo z 0 pz0_5 pz0_6 pz0_7 pz0_8 pz0_9 pz0_10 pz0_11 pz0_12 pz0_13 pz0_14 pz0_18 pz0_19 pz0_22 pz0_23 pz0_29)), (z 1, aI V 3075 fz1)]) (rnS (rest := []) ⟨hx, hb, hml, hown, hg⟩ (k_X10_within_0 l V j_8 0 12) mt_X10_within q_6_114 ⟨Nat.le_of_ble_eq_true rfl, Nat.le_of_ble_eq_true rfl⟩ hK hP hD hS hA hE [] rfl rfl rfl hl.1 rfl (Nat.le_of_ble_eq_true rfl) dX10_rows_28 ⟨Nat.le_of_ble_eq_true rfl, Nat.le_of_ble_eq_true rfl⟩) hP hD hS hA [] [0, 1, 2, 3, 4, 5, 6, 7, 8] rfl rfl rfl (by decide) (fun r_9 w H locs hw hP hD hS => ?_)
    obtain ⟨br_9, g_10, g_11, g_12, et_13, rfl⟩ := hw
    have hP : va_P V.1 vwCl [(z 15, aI V 900 fz15), (z 16, aI V 6 fz16), (z 24, aI V 10000 fz24), (z 25, aI V 40000 fz25), (z 28, aZ V 10000 fz28), (z 30, aJ V 10000 fz30), (z 31, aJ V 10000 fz31), (z 0, .inr (10, mo z 0 pz0_5 pz0_6 pz0_7 pz0_8 pz0_9 pz0_10 pz0_11 pz0_12 pz0_13 pz0_14 pz0_18 pz0_19 pz0_22 pz0_23 pz0_29)), (z 1, aI V 3075 fz1)] H := hP
    have hD := cpD hP hD
    refine lv_if_ne (tgt := 38) hx hb dX10_rows_31 (by decide) (fun c_14 => ?_) (fun c_14 => ?_)
    · have b_15 : iv 1 1 r_9 := iv_n0 c_14 br_9 (iv_c (0 : Int32) (a := 0) (b := 0) (by decide)) (by decide)
      have c_16 : (0 : Int64) ≤ j_8 := (g_11 (iv_eqp b_15 (iv_c (1 : Int32) (by decide))))
      have b_17 : ivL 0 9223372036854775807 j_8 := ivL_e2 c_16 (ivL_c (0 : Int64) (a := 0) (b := 0) (by decide)) (ivL_top j_8) (by decide)
      have b_18 : iv 0 2147483647 a3 := iv_cap (ivL_i ej_8 b_17) (iv_top a3) (by decide)
      have c_19 : j_8 ≤ 12 := (g_12 (iv_eqp b_15 (iv_c (1 : Int32) (by decide))))
      have b_20 : ivL 0 12 j_8 := ivL_e1 c_19 b_17 (ivL_c (12 : Int64) (a := 12) (b := 12) (by decide)) (by decide)
      have b_21 : iv 0 12 a3 := iv_cap (ivL_i ej_8 b_20) b_18 (by decide)
      refine lv_aload_n hx hb dX10_rows_38 rfl (lv_at hl 1 rfl) ?_
      refine jnV (wr := [(z 30, aJ V 10000 fz30), (z 31, aJ V 10000 fz31)]) (rnV (rest := []) ⟨hx, hb, hml, hown, hg⟩ (k_X10_laysStands_0 l V z fz15 fz16 fz24 fz25 fz28 0 pz0_5 pz0_6 pz0_7 pz0_8 pz0_9 pz0_10 pz0_11 pz0_12 pz0_13 pz0_14 pz0_18 pz0_19 pz0_22 pz0_23 pz0_29 fz1 tfz16 tfz24 tfz25 bpz0_5 bpz0_6 bpz0_7 bpz0_8 bpz0_10 bpz0_11 bpz0_12 bpz0_13 bpz0_14 bpz0_18 bpz0_22 bpz0_29 tfz1 hf0) mt_X10_laysStands q_7_194 ⟨Nat.le_of_ble_eq_true rfl, Nat.le_of_ble_eq_true rfl⟩ hK hP hD hS hA hE [0, 1, 2, 3, 4, 7, 8] rfl rfl 7 rfl rfl rfl rfl hl.1 rfl (Nat.le_of_ble_eq_true rfl) dX10_rows_39 ⟨Nat.le_of_ble_eq_true rfl, Nat.le_of_ble_eq_true rfl⟩) hP hD hS hA [0, 1, 2, 3, 4, 7, 8] [5, 6] rfl rfl rfl (by decide) (fun  w H locs hw hP hD hS => ?_)
      obtain ⟨f_22, f_23, f_24, f_25, f_26, v_27, tf_23, tf_24, tf_25, bv_27, g_28, g_29, g_30, rfl⟩ := hw
      have hP : va_P V.1 vwCl [(z 30, aJ V 10000 fz30), (z 31, aJ V 10000 fz31), (z 15, aI V 900 f_22), (z 16, aI V 6 f_23), (z 24, aI V 10000 f_24), (z 25, aI V 40000 f_25), (z 28, aZ V 10000 f_26), (z 0, .inr (10, mo z 0 pz0_5 pz0_6 pz0_7 pz0_8 pz0_9 pz0_10 pz0_11 pz0_12 pz0_13 pz0_14 pz0_18 pz0_19 pz0_22 pz0_23 v_27)), (z 1, aI V 3075 fz1)] H := hP
      have hD := cpD hP hD
      refine lv_aload_n hx hb dX10_rows_42 rfl (lv_at hl 1 rfl) ?_
      refine jnV (wr := [(z 15, aI V 900 f_22), (z 16, aI V 6 f_23), (z 24, aI V 10000 f_24), (z 25, aI V 40000 f_25), (z 28, aZ V 10000 f_26)]) (rnV (rest := []) ⟨hx, hb, hml, hown, hg⟩ (k_X10_beginsMany_0 l V z fz30 fz31 0 pz0_5 pz0_6 pz0_7 pz0_8 pz0_9 pz0_10 pz0_11 pz0_12 pz0_13 pz0_14 pz0_18 pz0_19 pz0_22 pz0_23 v_27 fz1 bpz0_5 bpz0_6 bpz0_7 bpz0_8 bpz0_10 bpz0_11 bpz0_12 bpz0_13 bpz0_14 bpz0_18 bpz0_22 bv_27 tfz1) mt_X10_beginsMany q_7_220 ⟨Nat.le_of_ble_eq_true rfl, Nat.le_of_ble_eq_true rfl⟩ hK hP hD hS hA hE [0, 1, 7, 8] rfl rfl 7 rfl rfl rfl rfl hl.1 rfl (Nat.le_of_ble_eq_true rfl) dX10_rows_43 ⟨Nat.le_of_ble_eq_true rfl, Nat.le_of_ble_eq_true rfl⟩) hP hD hS hA [0, 1, 7, 8] [2, 3, 4, 5, 6] rfl rfl rfl (by decide) (fun  w H locs hw hP hD hS => ?_)
      obtain ⟨f_31, f_32, rfl⟩ := hw
      have hP : va_P V.1 vwCl [(z 15, aI V 900 f_22), (z 16, aI V 6 f_23), (z 24, aI V 10000 f_24), (z 25, aI V 40000 f_25), (z 28, aZ V 10000 f_26), (z 30, aJ V 10000 f_31), (z 31, aJ V 10000 f_32), (z 0, .inr (10, mo z 0 pz0_5 pz0_6 pz0_7 pz0_8 pz0_9 pz0_10 pz0_11 pz0_12 pz0_13 pz0_14 pz0_18 pz0_19 pz0_22 pz0_23 v_27)), (z 1, aI V 3075 fz1)] H := hP
      have hD := cpD hP hD
      refine lv_iconst (v := 0) hx hb dX10_rows_46 (by decide) ?_
      refine lv_istore (lv' := [(5, .int 0), (4, .int r_1), (0, .ref (z 0)), (1, .int a1), (2, .int a2), (3, .int a3)]) hx hb dX10_rows_47 hl (by decide) rfl (fun ls hl => ?_)
      refine loopF (X := fun (n_36 : Nat) (H : Heap) (locs : List Loc) (ls : Array Slot) => ∃ (u_33 : Int32) (f_34 : Nat → Int64) (f_35 : Nat → Int64), (iv 0 2147483647 u_33) ∧ (RW fz1) ∧ n_36 = (2147483647 - (u_33 : Int32).toInt).toNat ∧ va_P V.1 vwCl [(z 15, aI V 900 f_22), (z 16, aI V 6 f_23), (z 24, aI V 10000 f_24), (z 25, aI V 40000 f_25), (z 28, aZ V 10000 f_26), (z 30, aJ V 10000 f_34), (z 31, aJ V 10000 f_35), (z 0, .inr (10, mo z 0 pz0_5 pz0_6 pz0_7 pz0_8 pz0_9 pz0_10 pz0_11 pz0_12 pz0_13 pz0_14 pz0_18 pz0_19 pz0_22 pz0_23 v_27)), (z 1, aI V 3075 fz1)] H ∧ va_D A [(z 15, aI V 900 f_22), (z 16, aI V 6 f_23), (z 24, aI V 10000 f_24), (z 25, aI V 40000 f_25), (z 28, aZ V 10000 f_26), (z 30, aJ V 10000 f_34), (z 31, aJ V 10000 f_35), (z 0, .inr (10, mo z 0 pz0_5 pz0_6 pz0_7 pz0_8 pz0_9 pz0_10 pz0_11 pz0_12 pz0_13 pz0_14 pz0_18 pz0_19 pz0_22 pz0_23 v_27)), (z 1, aI V 3075 fz1)] ∧ va_S A s.heap H locs ∧ lv_has ls 8 [(5, .int u_33), (4, .int r_1), (0, .ref (z 0)), (1, .int a1), (2, .int a2), (3, .int a3)]) (g := fun ls => F0 m 49 ls []) (fun n_36 H locs ls hX ihn_36 => ?_) _ ⟨0, f_31, f_32, (iv_c (0 : Int32) (by decide)), g_28, rfl, hP, hD, hS, lv_sub hl [0, 1, 2, 3, 4, 5] rfl⟩
      obtain ⟨u_33, f_34, f_35, bu_33, inn_36_0, en_36, hP, hD, hS, hl⟩ := hX
      refine lv_iload hx hb dX10_rows_49 (lv_at hl 0 rfl) ?_
      refine lv_iload_n hx hb dX10_rows_51 rfl (lv_at hl 5 rfl) ?_
      refine lv_icmp_ge (tgt := 67) hx hb dX10_rows_52 (by decide) (fun c_37 => ?_) (fun c_37 => ?_)
      · refine lv_lconst (v := 0) hx hb dX10_rows_67 (by decide) ?_
        refine lv_lstore (lv' := [(5, .long 0), (4, .int r_1), (0, .ref (z 0)), (1, .int a1), (2, .int a2), (3, .int a3)]) hx hb dX10_rows_68 hl (by decide) rfl (fun ls hl => ?_)
        refine lv_iconst (v := 0) hx hb dX10_rows_70 (by decide) ?_
        refine lv_istore (lv' := [(7, .int 0), (5, .long 0), (4, .int r_1), (0, .ref (z 0)), (1, .int a1), (2, .int a2), (3, .int a3)]) hx hb dX10_rows_71 hl (by decide) rfl (fun ls hl => ?_)
        refine loopF (X := fun (n_40 : Nat) (H : Heap) (locs : List Loc) (ls : Array Slot) => ∃ (u_38 : Int32) (w_39 : Int64), (iv 0 2147483647 u_38) ∧ (RW fz1) ∧ n_40 = (2147483647 - (u_38 : Int32).toInt).toNat ∧ va_P V.1 vwCl [(z 15, aI V 900 f_22), (z 16, aI V 6 f_23), (z 24, aI V 10000 f_24), (z 25, aI V 40000 f_25), (z 28, aZ V 10000 f_26), (z 30, aJ V 10000 f_34), (z 31, aJ V 10000 f_35), (z 0, .inr (10, mo z 0 pz0_5 pz0_6 pz0_7 pz0_8 pz0_9 pz0_10 pz0_11 pz0_12 pz0_13 pz0_14 pz0_18 pz0_19 pz0_22 pz0_23 v_27)), (z 1, aI V 3075 fz1)] H ∧ va_D A [(z 15, aI V 900 f_22), (z 16, aI V 6 f_23), (z 24, aI V 10000 f_24), (z 25, aI V 40000 f_25), (z 28, aZ V 10000 f_26), (z 30, aJ V 10000 f_34), (z 31, aJ V 10000 f_35), (z 0, .inr (10, mo z 0 pz0_5 pz0_6 pz0_7 pz0_8 pz0_9 pz0_10 pz0_11 pz0_12 pz0_13 pz0_14 pz0_18 pz0_19 pz0_22 pz0_23 v_27)), (z 1, aI V 3075 fz1)] ∧ va_S A s.heap H locs ∧ lv_has ls 8 [(7, .int u_38), (5, .long w_39), (4, .int r_1), (0, .ref (z 0)), (1, .int a1), (2, .int a2), (3, .int a3)]) (g := fun ls => F0 m 73 ls []) (fun n_40 H locs ls hX ihn_40 => ?_) _ ⟨0, 0, (iv_c (0 : Int32) (by decide)), inn_36_0, rfl, hP, hD, hS, lv_sub hl [0, 1, 2, 3, 4, 5, 6] rfl⟩
        obtain ⟨u_38, w_39, bu_38, inn_40_0, en_40, hP, hD, hS, hl⟩ := hX
        refine lv_iload hx hb dX10_rows_73 (lv_at hl 0 rfl) ?_
        refine lv_aload_n hx hb dX10_rows_75 rfl (lv_at hl 3 rfl) ?_
        refine va_get (ci := 10) (v := .int v_27) (C := RX10) (T := TX10) (N := 40) hx hb hg inX10 hown hK hP 7 rfl rfl 29 (by decide) (hg _ q_6_13) (fun _ h9 => h9) rfl dX10_rows_76 ?_
        refine lv_icmp_ge (tgt := 124) hx hb dX10_rows_79 (by decide) (fun c_41 => ?_) (fun c_41 => ?_)
        · refine lv_lload hx hb dX10_rows_124 (lv_at hl 1 rfl) ?_
          have hP := subP (ws' := [(z 0, .inr (10, mo z 0 pz0_5 pz0_6 pz0_7 pz0_8 pz0_9 pz0_10 pz0_11 pz0_12 pz0_13 pz0_14 pz0_18 pz0_19 pz0_22 pz0_23 v_27)), (z 1, aI V 3075 fz1), (z 15, aI V 900 f_22), (z 16, aI V 6 f_23), (z 24, aI V 10000 f_24), (z 25, aI V 40000 f_25), (z 28, aZ V 10000 f_26), (z 30, aJ V 10000 f_34), (z 31, aJ V 10000 f_35)]) hP [7, 8, 0, 1, 2, 3, 4, 5, 6] rfl
          have hD := subD hP hD [7, 8, 0, 1, 2, 3, 4, 5, 6] rfl rfl
          exact fiL hx hb hr hlk hK hP hD hS dX10_rows_126 (Nat.le_of_ble_eq_true rfl) (Nat.le_of_ble_eq_true rfl) (⟨0, v_27, f_22, f_23, f_24, f_25, f_26, f_34, f_35, bv_27, tf_23, tf_24, tf_25, inn_40_0, rfl⟩)
        · have b_42 : iv 0 9999 u_38 := iv_l1 (Int32.not_le.mp c_41) bu_38 bv_27 (by decide)
          have b_43 : iv 1 10000 v_27 := iv_l2 (Int32.not_le.mp c_41) bu_38 bv_27 (by decide)
          refine lv_lload hx hb dX10_rows_82 (lv_at hl 1 rfl) ?_
          refine lv_aload_n hx hb dX10_rows_84 rfl (lv_at hl 3 rfl) ?_
          refine va_get (ci := 10) (v := .ref (z 24)) (C := RX10) (T := TX10) (N := 40) hx hb hg inX10 hown hK hP 7 rfl rfl 24 (by decide) (hg _ q_6_8) (fun _ h9 => h9) rfl dX10_rows_85 ?_
          refine lv_iload hx hb dX10_rows_88 (lv_at hl 0 rfl) ?_
          refine va_iald hx hb hK hP 2 0 rfl rfl (iv_in b_42 (by decide)) dX10_rows_90 ?_
          refine lv_topi (fun x_44 ex_44 => ?_)
          have bx_44 : iv 0 9999 x_44 := by rw [ex_44]; exact tf_24 _
          refine lv_iload_n hx hb dX10_rows_91 rfl (lv_at hl 4 rfl) ?_
          refine jnI (wr := [(z 15, aI V 900 f_22), (z 16, aI V 6 f_23), (z 24, aI V 10000 f_24), (z 25, aI V 40000 f_25), (z 28, aZ V 10000 f_26), (z 30, aJ V 10000 f_34), (z 31, aJ V 10000 f_35), (z 0, .inr (10, mo z 0 pz0_5 pz0_6 pz0_7 pz0_8 pz0_9 pz0_10 pz0_11 pz0_12 pz0_13 pz0_14 pz0_18 pz0_19 pz0_22 pz0_23 v_27)), (z 1, aI V 3075 fz1)]) (rnS (rest := [.long w_39]) ⟨hx, hb, hml, hown, hg⟩ (k_X10_stackIn_0 l V x_44 a1 bx_44 b_6) mt_X10_stackIn q_7_26 ⟨Nat.le_of_ble_eq_true rfl, Nat.le_of_ble_eq_true rfl⟩ hK hP hD hS hA hE [] rfl rfl rfl hl.1 rfl (Nat.le_of_ble_eq_true rfl) dX10_rows_92 ⟨Nat.le_of_ble_eq_true rfl, Nat.le_of_ble_eq_true rfl⟩) hP hD hS hA [] [0, 1, 2, 3, 4, 5, 6, 7, 8] rfl rfl rfl (by decide) (fun r_45 w H locs hw hP hD hS => ?_)
          obtain ⟨br_45, er_45, et_46, rfl⟩ := hw
          have hP : va_P V.1 vwCl [(z 15, aI V 900 f_22), (z 16, aI V 6 f_23), (z 24, aI V 10000 f_24), (z 25, aI V 40000 f_25), (z 28, aZ V 10000 f_26), (z 30, aJ V 10000 f_34), (z 31, aJ V 10000 f_35), (z 0, .inr (10, mo z 0 pz0_5 pz0_6 pz0_7 pz0_8 pz0_9 pz0_10 pz0_11 pz0_12 pz0_13 pz0_14 pz0_18 pz0_19 pz0_22 pz0_23 v_27)), (z 1, aI V 3075 fz1)] H := hP
          have hD := cpD hP hD
          refine lv_iload_n hx hb dX10_rows_95 rfl (lv_at hl 5 rfl) ?_
          refine lv_icmp_ne (tgt := 114) hx hb dX10_rows_96 (by decide) (fun c_47 => ?_) (fun c_47 => ?_)
          · refine lv_lconst (v := 0) hx hb dX10_rows_114 (by decide) ?_
            refine lv_ladd hx hb dX10_rows_115 ?_
            refine lv_topl (fun j_48 ej_48 => ?_)
            refine lv_lstore (lv' := [(5, .long j_48), (7, .int u_38), (4, .int r_1), (0, .ref (z 0)), (1, .int a1), (2, .int a2), (3, .int a3)]) hx hb dX10_rows_116 hl (by decide) rfl (fun ls hl => ?_)
            obtain ⟨x_49, ex_49⟩ : ∃ z9 : Int32, z9 = u_38 + 1 := ⟨_, rfl⟩
            have bx_49 : iv 1 10000 x_49 := by rw [ex_49]; exact iv_add b_42 (iv_c (1 : Int32) (a := 1) (b := 1) (by decide)) (by decide)
            refine lv_iinc (v := x_49) (lv' := [(7, .int x_49), (5, .long j_48), (4, .int r_1), (0, .ref (z 0)), (1, .int a1), (2, .int a2), (3, .int a3)]) hx hb dX10_rows_118 hl (k := 1) rfl (by rw [ex_49]; rfl) (by decide) rfl (fun ls hl => ?_)
            refine lv_goto (tgt := 73) hx hb dX10_rows_121 (by decide) ?_
            exact ihn_40 _ _ _ _ (by rw [en_40, ex_49]; exact mu_up b_42 (by decide)) ⟨x_49, j_48, (iv_w bx_49 (by decide)), inn_40_0, rfl, hP, hD, hS, lv_sub hl [0, 1, 2, 3, 4, 5, 6] rfl⟩
          · refine lv_aload_n hx hb dX10_rows_99 rfl (lv_at hl 3 rfl) ?_
            refine va_get (ci := 10) (v := .ref (z 30)) (C := RX10) (T := TX10) (N := 40) hx hb hg inX10 hown hK hP 7 rfl rfl 30 (by decide) (hg _ q_6_14) (fun _ h9 => h9) rfl dX10_rows_100 ?_
            refine lv_aload_n hx hb dX10_rows_103 rfl (lv_at hl 3 rfl) ?_
            refine va_get (ci := 10) (v := .ref (z 24)) (C := RX10) (T := TX10) (N := 40) hx hb hg inX10 hown hK hP 7 rfl rfl 24 (by decide) (hg _ q_6_8) (fun _ h9 => h9) rfl dX10_rows_104 ?_
            refine lv_iload hx hb dX10_rows_107 (lv_at hl 0 rfl) ?_
            refine va_iald hx hb hK hP 2 0 rfl rfl (iv_in b_42 (by decide)) dX10_rows_109 ?_
            refine tpi (y := x_44) ex_44.symm ?_
            refine va_lald hx hb hK hP 5 2 rfl rfl (iv_in bx_44 (by decide)) dX10_rows_110 ?_
            refine lv_topl (fun j_50 ej_50 => ?_)
            refine lv_goto (tgt := 115) hx hb dX10_rows_111 (by decide) ?_
            refine lv_ladd hx hb dX10_rows_115 ?_
            refine lv_topl (fun j_51 ej_51 => ?_)
            refine lv_lstore (lv' := [(5, .long j_51), (7, .int u_38), (4, .int r_1), (0, .ref (z 0)), (1, .int a1), (2, .int a2), (3, .int a3)]) hx hb dX10_rows_116 hl (by decide) rfl (fun ls hl => ?_)
            obtain ⟨x_52, ex_52⟩ : ∃ z9 : Int32, z9 = u_38 + 1 := ⟨_, rfl⟩
            have bx_52 : iv 1 10000 x_52 := by rw [ex_52]; exact iv_add b_42 (iv_c (1 : Int32) (a := 1) (b := 1) (by decide)) (by decide)
            refine lv_iinc (v := x_52) (lv' := [(7, .int x_52), (5, .long j_51), (4, .int r_1), (0, .ref (z 0)), (1, .int a1), (2, .int a2), (3, .int a3)]) hx hb dX10_rows_118 hl (k := 1) rfl (by rw [ex_52]; rfl) (by decide) rfl (fun ls hl => ?_)
            refine lv_goto (tgt := 73) hx hb dX10_rows_121 (by decide) ?_
            exact ihn_40 _ _ _ _ (by rw [en_40, ex_52]; exact mu_up b_42 (by decide)) ⟨x_52, j_51, (iv_w bx_52 (by decide)), inn_40_0, rfl, hP, hD, hS, lv_sub hl [0, 1, 2, 3, 4, 5, 6] rfl⟩
      · have b_53 : iv 0 11 u_33 := iv_l1 (Int32.not_le.mp c_37) bu_33 b_21 (by decide)
        have b_54 : iv 1 12 a3 := iv_l2 (Int32.not_le.mp c_37) bu_33 b_21 (by decide)
        refine lv_aload_n hx hb dX10_rows_55 rfl (lv_at hl 2 rfl) ?_
        refine lv_lconst (v := 1) hx hb dX10_rows_56 (by decide) ?_
        refine lv_lconst (v := 1) hx hb dX10_rows_57 (by decide) ?_
        refine jnV (wr := [(z 15, aI V 900 f_22), (z 16, aI V 6 f_23), (z 28, aZ V 10000 f_26), (z 1, aI V 3075 fz1)]) (rnV (rest := []) ⟨hx, hb, hml, hown, hg⟩ (k_X10_goesMany_0 l V z 1 1 f_24 f_25 f_34 f_35 0 pz0_5 pz0_6 pz0_7 pz0_8 pz0_9 pz0_10 pz0_11 pz0_12 pz0_13 pz0_14 pz0_18 pz0_19 pz0_22 pz0_23 v_27 tf_24 tf_25 bpz0_5 bpz0_6 bpz0_7 bpz0_8 bpz0_10 bpz0_11 bpz0_12 bpz0_13 bpz0_14 bpz0_18 bpz0_22 bv_27) mt_X10_goesMany q_7_224 ⟨Nat.le_of_ble_eq_true rfl, Nat.le_of_ble_eq_true rfl⟩ hK hP hD hS hA hE [2, 3, 5, 6, 7] rfl rfl 7 rfl rfl rfl rfl hl.1 rfl (Nat.le_of_ble_eq_true rfl) dX10_rows_58 ⟨Nat.le_of_ble_eq_true rfl, Nat.le_of_ble_eq_true rfl⟩) hP hD hS hA [2, 3, 5, 6, 7] [0, 1, 4, 8] rfl rfl rfl (by decide) (fun  w H locs hw hP hD hS => ?_)
        obtain ⟨f_55, f_56, rfl⟩ := hw
        have hP : va_P V.1 vwCl [(z 15, aI V 900 f_22), (z 16, aI V 6 f_23), (z 28, aZ V 10000 f_26), (z 1, aI V 3075 fz1), (z 24, aI V 10000 f_24), (z 25, aI V 40000 f_25), (z 30, aJ V 10000 f_55), (z 31, aJ V 10000 f_56), (z 0, .inr (10, mo z 0 pz0_5 pz0_6 pz0_7 pz0_8 pz0_9 pz0_10 pz0_11 pz0_12 pz0_13 pz0_14 pz0_18 pz0_19 pz0_22 pz0_23 v_27))] H := hP
        have hD := cpD hP hD
        obtain ⟨x_57, ex_57⟩ : ∃ z9 : Int32, z9 = u_33 + 1 := ⟨_, rfl⟩
        have bx_57 : iv 1 12 x_57 := by rw [ex_57]; exact iv_add b_53 (iv_c (1 : Int32) (a := 1) (b := 1) (by decide)) (by decide)
        refine lv_iinc (v := x_57) (lv' := [(5, .int x_57), (4, .int r_1), (0, .ref (z 0)), (1, .int a1), (2, .int a2), (3, .int a3)]) hx hb dX10_rows_61 hl (k := 0) rfl (by rw [ex_57]; rfl) (by decide) rfl (fun ls hl => ?_)
        refine lv_goto (tgt := 49) hx hb dX10_rows_64 (by decide) ?_
        have hP := subP (ws' := [(z 15, aI V 900 f_22), (z 16, aI V 6 f_23), (z 24, aI V 10000 f_24), (z 25, aI V 40000 f_25), (z 28, aZ V 10000 f_26), (z 30, aJ V 10000 f_55), (z 31, aJ V 10000 f_56), (z 0, .inr (10, mo z 0 pz0_5 pz0_6 pz0_7 pz0_8 pz0_9 pz0_10 pz0_11 pz0_12 pz0_13 pz0_14 pz0_18 pz0_19 pz0_22 pz0_23 v_27)), (z 1, aI V 3075 fz1)]) hP [0, 1, 4, 5, 2, 6, 7, 8, 3] rfl
        have hD := subD hP hD [0, 1, 4, 5, 2, 6, 7, 8, 3] rfl rfl
        exact ihn_36 _ _ _ _ (by rw [en_36, ex_57]; exact mu_up b_53 (by decide)) ⟨x_57, f_55, f_56, (iv_w bx_57 (by decide)), inn_36_0, rfl, hP, hD, hS, lv_sub hl [0, 1, 2, 3, 4, 5] rfl⟩
    · have b_58 : iv 0 0 r_9 := iv_q c_14 (iv_c (0 : Int32) (a := 0) (b := 0) (by decide))
      refine lv_ldc2 (v := (-3)) hx hb hown (hg _ q_7_219) dX10_rows_34 ?_
      have hP := subP (ws' := [(z 0, .inr (10, mo z 0 pz0_5 pz0_6 pz0_7 pz0_8 pz0_9 pz0_10 pz0_11 pz0_12 pz0_13 pz0_14 pz0_18 pz0_19 pz0_22 pz0_23 pz0_29)), (z 1, aI V 3075 fz1), (z 15, aI V 900 fz15), (z 16, aI V 6 fz16), (z 24, aI V 10000 fz24), (z 25, aI V 40000 fz25), (z 28, aZ V 10000 fz28), (z 30, aJ V 10000 fz30), (z 31, aJ V 10000 fz31)]) hP [7, 8, 0, 1, 2, 3, 4, 5, 6] rfl
      have hD := subD hP hD [7, 8, 0, 1, 2, 3, 4, 5, 6] rfl rfl
      exact fiL hx hb hr hlk hK hP hD hS dX10_rows_37 (Nat.le_of_ble_eq_true rfl) (Nat.le_of_ble_eq_true rfl) (⟨0, pz0_29, fz15, fz16, fz24, fz25, fz28, fz30, fz31, bpz0_29, tfz16, tfz24, tfz25, hf0, rfl⟩)
  · have b_59 : iv (-3) (-1) r_1 := iv_n1 c_4 br_1 (iv_c (0 : Int32) (a := 0) (b := 0) (by decide)) (by decide)
    refine lv_iload hx hb dX10_rows_18 (lv_at hl 0 rfl) ?_
    refine lv_i2l hx hb dX10_rows_20 rfl ?_
    refine lv_topl (fun j_60 ej_60 => ?_)
    have bj_60 : ivL (-3) (-1) j_60 := by rw [ej_60]; exact ivL_of b_59
    have hP := subP (ws' := [(z 0, .inr (10, mo z 0 pz0_5 pz0_6 pz0_7 pz0_8 pz0_9 pz0_10 pz0_11 pz0_12 pz0_13 pz0_14 pz0_18 pz0_19 pz0_22 pz0_23 pz0_29)), (z 1, aI V 3075 fz1), (z 15, aI V 900 fz15), (z 16, aI V 6 fz16), (z 24, aI V 10000 fz24), (z 25, aI V 40000 fz25), (z 28, aZ V 10000 fz28), (z 30, aJ V 10000 fz30), (z 31, aJ V 10000 fz31)]) hP [7, 8, 0, 1, 2, 3, 4, 5, 6] rfl
    have hD := subD hP hD [7, 8, 0, 1, 2, 3, 4, 5, 6] rfl rfl
    exact fiL hx hb hr hlk hK hP hD hS dX10_rows_21 (Nat.le_of_ble_eq_true rfl) (Nat.le_of_ble_eq_true rfl) (⟨0, pz0_29, fz15, fz16, fz24, fz25, fz28, fz30, fz31, bpz0_29, tfz16, tfz24, tfz25, hf0, rfl⟩)
theorem dX10_leastIn_0 : decode cX10_leastIn 0 = .ok (.iconst 4, 1) := by decide +kernel
theorem dX10_leastIn_1 : decode cX10_leastIn 1 = .ok (.istore_n 2, 1) := by decide +kernel
theorem dX10_leastIn_2 : decode cX10_leastIn 2 = .ok (.iconst 0, 1) := by decide +kernel
theorem dX10_leastIn_3 : decode cX10_leastIn 3 = .ok (.istore_n 3, 1) := by decide +kernel
theorem dX10_leastIn_4 : decode cX10_leastIn 4 = .ok (.iload_n 3, 1) := by decide +kernel
theorem dX10_leastIn_5 : decode cX10_leastIn 5 = .ok (.aload_n 0, 1) := by decide +kernel
theorem dX10_leastIn_6 : decode cX10_leastIn 6 = .ok (.getfield 13, 3) := by decide +kernel
theorem dX10_leastIn_9 : decode cX10_leastIn 9 = .ok (.iconst 1, 1) := by decide +kernel
theorem dX10_leastIn_10 : decode cX10_leastIn 10 = .ok (.iaload, 1) := by decide +kernel
theorem dX10_leastIn_11 : decode cX10_leastIn 11 = .ok (.if_icmp .ge 28, 3) := by decide +kernel
theorem dX10_leastIn_39 : decode cX10_leastIn 39 = .ok (.iload_n 2, 1) := by decide +kernel
theorem dX10_leastIn_40 : decode cX10_leastIn 40 = .ok (.ireturn, 1) := by decide +kernel
theorem dX10_leastIn_14 : decode cX10_leastIn 14 = .ok (.iload_n 1, 1) := by decide +kernel
theorem dX10_leastIn_15 : decode cX10_leastIn 15 = .ok (.iload_n 3, 1) := by decide +kernel
theorem dX10_leastIn_16 : decode cX10_leastIn 16 = .ok (.invokestatic 231, 3) := by decide +kernel
theorem dX10_leastIn_19 : decode cX10_leastIn 19 = .ok (.iload_n 2, 1) := by decide +kernel
theorem dX10_leastIn_20 : decode cX10_leastIn 20 = .ok (.if_icmp .ge 11, 3) := by decide +kernel
theorem dX10_leastIn_31 : decode cX10_leastIn 31 = .ok (.iload_n 2, 1) := by decide +kernel
theorem dX10_leastIn_32 : decode cX10_leastIn 32 = .ok (.istore_n 2, 1) := by decide +kernel
theorem dX10_leastIn_33 : decode cX10_leastIn 33 = .ok (.iinc 3 1, 3) := by decide +kernel
theorem dX10_leastIn_36 : decode cX10_leastIn 36 = .ok (.goto (-32), 3) := by decide +kernel
theorem dX10_leastIn_23 : decode cX10_leastIn 23 = .ok (.iload_n 1, 1) := by decide +kernel
theorem dX10_leastIn_24 : decode cX10_leastIn 24 = .ok (.iload_n 3, 1) := by decide +kernel
theorem dX10_leastIn_25 : decode cX10_leastIn 25 = .ok (.invokestatic 231, 3) := by decide +kernel
theorem dX10_leastIn_28 : decode cX10_leastIn 28 = .ok (.goto 4, 3) := by decide +kernel
set_option maxHeartbeats 4000000 in
set_option maxRecDepth 100000 in
theorem k_X10_leastIn_0 (l : Launch) (V : GV) (z : Nat → Nat) (a1 : Int32) (pz0_0 : Int32) (pz0_5 : Int32) (pz0_6 : Int32) (pz0_7 : Int32) (pz0_8 : Int32) (pz0_9 : Int32) (pz0_10 : Int32) (pz0_11 : Int32) (pz0_12 : Int32) (pz0_13 : Int32) (pz0_14 : Int32) (pz0_18 : Int32) (pz0_19 : Int32) (pz0_22 : Int32) (pz0_23 : Int32) (pz0_29 : Int32) (fz1 : Nat → Int32) (ba1 : iv 0 9999 a1) (bpz0_5 : iv 0 900 pz0_5) (bpz0_6 : iv 0 900 pz0_6) (bpz0_7 : iv 0 900 pz0_7) (bpz0_8 : iv 0 900 pz0_8) (bpz0_10 : iv 0 999 pz0_10) (bpz0_11 : iv 0 4 pz0_11) (bpz0_12 : iv 0 900 pz0_12) (bpz0_13 : iv 0 4 pz0_13) (bpz0_14 : iv (-1) 900 pz0_14) (bpz0_18 : iv 0 2 pz0_18) (bpz0_22 : iv 0 9999 pz0_22) (bpz0_29 : iv 0 10000 pz0_29) (tfz1 : ivT tA fz1) : Ct l V yX10_leastIn (.code yX10_leastIn cX10_leastIn 4 (some .int)) 3 [.ref (z 0), .int a1] [(z 0, .inr (10, mo z pz0_0 pz0_5 pz0_6 pz0_7 pz0_8 pz0_9 pz0_10 pz0_11 pz0_12 pz0_13 pz0_14 pz0_18 pz0_19 pz0_22 pz0_23 pz0_29)), (z 1, aI V 3075 fz1)] 0 0 (QI V (fun (r : Int32) (w : va_W) => iv 0 4 r ∧ r = lsF fz1 a1 ∧ w = [(z 0, .inr (10, mo z pz0_0 pz0_5 pz0_6 pz0_7 pz0_8 pz0_9 pz0_10 pz0_11 pz0_12 pz0_13 pz0_14 pz0_18 pz0_19 pz0_22 pz0_23 pz0_29)), (z 1, aI V 3075 fz1)])) := by
  refine Ct.of (by decide) (Nat.le_of_ble_eq_true rfl) (fun p e s m below meth c A ls hx hb hr hml hown hlk hnm hg hP hK hD hE hA hS hl => ?_)
  have hl : lv_has ls 4 [(0, .ref (z 0)), (1, .int a1)] := hl
  refine lv_iconst (v := 4) hx hb dX10_leastIn_0 (by decide) ?_
  refine lv_istore_n (lv' := [(2, .int 4), (0, .ref (z 0)), (1, .int a1)]) hx hb dX10_leastIn_1 rfl hl (by decide) rfl (fun ls hl => ?_)
  refine lv_iconst (v := 0) hx hb dX10_leastIn_2 (by decide) ?_
  refine lv_istore_n (lv' := [(3, .int 0), (2, .int 4), (0, .ref (z 0)), (1, .int a1)]) hx hb dX10_leastIn_3 rfl hl (by decide) rfl (fun ls hl => ?_)
  refine lv_iload_n hx hb dX10_leastIn_4 rfl (lv_at hl 0 rfl) ?_
  refine lv_aload_n hx hb dX10_leastIn_5 rfl (lv_at hl 2 rfl) ?_
  refine va_get (ci := 10) (v := .ref (z 1)) (C := RX10) (T := TX10) (N := 40) hx hb hg inX10 hown hK hP 0 rfl rfl 1 (by decide) (hg _ q_5_225) (fun _ h9 => h9) rfl dX10_leastIn_6 ?_
  refine lv_iconst (v := 1) hx hb dX10_leastIn_9 (by decide) ?_
  refine va_iald hx hb hK hP 1 0 rfl rfl (vin (by decide +kernel)) dX10_leastIn_10 ?_
  refine lv_topi (fun x_1 ex_1 => ?_)
  have bx_1 : iv 0 4 x_1 := by rw [ex_1]; exact rdT (a := 1) (n := 1) tfz1 (iv_c (1 : Int32) (a := 1) (b := 1) (by decide)) (by decide) (by decide +kernel)
  refine lv_icmp_ge (tgt := 39) hx hb dX10_leastIn_11 (by decide) (fun c_2 => ?_) (fun c_2 => ?_)
  · have b_3 : iv 0 0 x_1 := iv_e1 c_2 bx_1 (iv_c (0 : Int32) (a := 0) (b := 0) (by decide)) (by decide)
    refine lv_iload_n hx hb dX10_leastIn_39 rfl (lv_at hl 1 rfl) ?_
    exact fiI hx hb hr hlk hK hP hD hS dX10_leastIn_40 (Nat.le_of_ble_eq_true rfl) (Nat.le_of_ble_eq_true rfl) (⟨(iv_c (4 : Int32) (by decide)), (by rw [lsF_0 (show fz1 1 = 0 from (ex_1.symm.trans (iv_eqp b_3 (iv_c (0 : Int32) (by decide)))))]), rfl⟩)
  · have b_4 : iv 1 4 x_1 := iv_l2 (Int32.not_le.mp c_2) (iv_c (0 : Int32) (a := 0) (b := 0) (by decide)) bx_1 (by decide)
    refine lv_iload_n hx hb dX10_leastIn_14 rfl (lv_at hl 3 rfl) ?_
    refine lv_iload_n hx hb dX10_leastIn_15 rfl (lv_at hl 0 rfl) ?_
    refine jnI (wr := [(z 0, .inr (10, mo z pz0_0 pz0_5 pz0_6 pz0_7 pz0_8 pz0_9 pz0_10 pz0_11 pz0_12 pz0_13 pz0_14 pz0_18 pz0_19 pz0_22 pz0_23 pz0_29)), (z 1, aI V 3075 fz1)]) (rnS (rest := []) ⟨hx, hb, hml, hown, hg⟩ (k_X10_stackIn_0 l V a1 0 ba1 (iv_c (0 : Int32) (by decide))) mt_X10_stackIn q_7_26 ⟨Nat.le_of_ble_eq_true rfl, Nat.le_of_ble_eq_true rfl⟩ hK hP hD hS hA hE [] rfl rfl rfl hl.1 rfl (Nat.le_of_ble_eq_true rfl) dX10_leastIn_16 ⟨Nat.le_of_ble_eq_true rfl, Nat.le_of_ble_eq_true rfl⟩) hP hD hS hA [] [0, 1] rfl rfl rfl (by decide) (fun r_5 w H locs hw hP hD hS => ?_)
    obtain ⟨br_5, er_5, et_6, rfl⟩ := hw
    have hP : va_P V.1 vwCl [(z 0, .inr (10, mo z pz0_0 pz0_5 pz0_6 pz0_7 pz0_8 pz0_9 pz0_10 pz0_11 pz0_12 pz0_13 pz0_14 pz0_18 pz0_19 pz0_22 pz0_23 pz0_29)), (z 1, aI V 3075 fz1)] H := hP
    have hD := cpD hP hD
    refine lv_iload_n hx hb dX10_leastIn_19 rfl (lv_at hl 1 rfl) ?_
    refine lv_icmp_ge (tgt := 31) hx hb dX10_leastIn_20 (by decide) (fun c_7 => ?_) (fun c_7 => ?_)
    · have b_8 : iv 4 4 r_5 := iv_e2 c_7 (iv_c (4 : Int32) (a := 4) (b := 4) (by decide)) br_5 (by decide)
      refine lv_iload_n hx hb dX10_leastIn_31 rfl (lv_at hl 1 rfl) ?_
      refine lv_istore_n (lv' := [(2, .int 4), (3, .int 0), (0, .ref (z 0)), (1, .int a1)]) hx hb dX10_leastIn_32 rfl hl (by decide) rfl (fun ls hl => ?_)
      refine lv_iinc (v := 1) (lv' := [(3, .int 1), (2, .int 4), (0, .ref (z 0)), (1, .int a1)]) hx hb dX10_leastIn_33 hl (k := 1) rfl (by decide +kernel) (by decide) rfl (fun ls hl => ?_)
      refine lv_goto (tgt := 4) hx hb dX10_leastIn_36 (by decide) ?_
      refine lv_iload_n hx hb dX10_leastIn_4 rfl (lv_at hl 0 rfl) ?_
      refine lv_aload_n hx hb dX10_leastIn_5 rfl (lv_at hl 2 rfl) ?_
      refine va_get (ci := 10) (v := .ref (z 1)) (C := RX10) (T := TX10) (N := 40) hx hb hg inX10 hown hK hP 0 rfl rfl 1 (by decide) (hg _ q_5_225) (fun _ h9 => h9) rfl dX10_leastIn_6 ?_
      refine lv_iconst (v := 1) hx hb dX10_leastIn_9 (by decide) ?_
      refine va_iald hx hb hK hP 1 0 rfl rfl (vin (by decide +kernel)) dX10_leastIn_10 ?_
      refine tpi (y := x_1) ex_1.symm ?_
      refine lv_icmp_ge (tgt := 39) hx hb dX10_leastIn_11 (by decide) (fun c_9 => ?_) (fun c_9 => ?_)
      · have b_10 : iv 1 1 x_1 := iv_e1 c_9 b_4 (iv_c (1 : Int32) (a := 1) (b := 1) (by decide)) (by decide)
        refine lv_iload_n hx hb dX10_leastIn_39 rfl (lv_at hl 1 rfl) ?_
        exact fiI hx hb hr hlk hK hP hD hS dX10_leastIn_40 (Nat.le_of_ble_eq_true rfl) (Nat.le_of_ble_eq_true rfl) (⟨(iv_c (4 : Int32) (by decide)), (by rw [lsF_1 (show fz1 1 = 1 from (ex_1.symm.trans (iv_eqp b_10 (iv_c (1 : Int32) (by decide))))), ← er_5, mn_f (Int32.not_lt.mpr c_7)]), rfl⟩)
      · have b_11 : iv 2 4 x_1 := iv_l2 (Int32.not_le.mp c_9) (iv_c (1 : Int32) (a := 1) (b := 1) (by decide)) b_4 (by decide)
        refine lv_iload_n hx hb dX10_leastIn_14 rfl (lv_at hl 3 rfl) ?_
        refine lv_iload_n hx hb dX10_leastIn_15 rfl (lv_at hl 0 rfl) ?_
        refine jnI (wr := [(z 0, .inr (10, mo z pz0_0 pz0_5 pz0_6 pz0_7 pz0_8 pz0_9 pz0_10 pz0_11 pz0_12 pz0_13 pz0_14 pz0_18 pz0_19 pz0_22 pz0_23 pz0_29)), (z 1, aI V 3075 fz1)]) (rnS (rest := []) ⟨hx, hb, hml, hown, hg⟩ (k_X10_stackIn_0 l V a1 1 ba1 (iv_c (1 : Int32) (by decide))) mt_X10_stackIn q_7_26 ⟨Nat.le_of_ble_eq_true rfl, Nat.le_of_ble_eq_true rfl⟩ hK hP hD hS hA hE [] rfl rfl rfl hl.1 rfl (Nat.le_of_ble_eq_true rfl) dX10_leastIn_16 ⟨Nat.le_of_ble_eq_true rfl, Nat.le_of_ble_eq_true rfl⟩) hP hD hS hA [] [0, 1] rfl rfl rfl (by decide) (fun r_12 w H locs hw hP hD hS => ?_)
        obtain ⟨br_12, er_12, et_13, rfl⟩ := hw
        have hP : va_P V.1 vwCl [(z 0, .inr (10, mo z pz0_0 pz0_5 pz0_6 pz0_7 pz0_8 pz0_9 pz0_10 pz0_11 pz0_12 pz0_13 pz0_14 pz0_18 pz0_19 pz0_22 pz0_23 pz0_29)), (z 1, aI V 3075 fz1)] H := hP
        have hD := cpD hP hD
        refine lv_iload_n hx hb dX10_leastIn_19 rfl (lv_at hl 1 rfl) ?_
        refine lv_icmp_ge (tgt := 31) hx hb dX10_leastIn_20 (by decide) (fun c_14 => ?_) (fun c_14 => ?_)
        · have b_15 : iv 4 4 r_12 := iv_e2 c_14 (iv_c (4 : Int32) (a := 4) (b := 4) (by decide)) br_12 (by decide)
          refine lv_iload_n hx hb dX10_leastIn_31 rfl (lv_at hl 1 rfl) ?_
          refine lv_istore_n (lv' := [(2, .int 4), (3, .int 1), (0, .ref (z 0)), (1, .int a1)]) hx hb dX10_leastIn_32 rfl hl (by decide) rfl (fun ls hl => ?_)
          refine lv_iinc (v := 2) (lv' := [(3, .int 2), (2, .int 4), (0, .ref (z 0)), (1, .int a1)]) hx hb dX10_leastIn_33 hl (k := 1) rfl (by decide +kernel) (by decide) rfl (fun ls hl => ?_)
          refine lv_goto (tgt := 4) hx hb dX10_leastIn_36 (by decide) ?_
          refine lv_iload_n hx hb dX10_leastIn_4 rfl (lv_at hl 0 rfl) ?_
          refine lv_aload_n hx hb dX10_leastIn_5 rfl (lv_at hl 2 rfl) ?_
          refine va_get (ci := 10) (v := .ref (z 1)) (C := RX10) (T := TX10) (N := 40) hx hb hg inX10 hown hK hP 0 rfl rfl 1 (by decide) (hg _ q_5_225) (fun _ h9 => h9) rfl dX10_leastIn_6 ?_
          refine lv_iconst (v := 1) hx hb dX10_leastIn_9 (by decide) ?_
          refine va_iald hx hb hK hP 1 0 rfl rfl (vin (by decide +kernel)) dX10_leastIn_10 ?_
          refine tpi (y := x_1) ex_1.symm ?_
          refine lv_icmp_ge (tgt := 39) hx hb dX10_leastIn_11 (by decide) (fun c_16 => ?_) (fun c_16 => ?_)
          · have b_17 : iv 2 2 x_1 := iv_e1 c_16 b_11 (iv_c (2 : Int32) (a := 2) (b := 2) (by decide)) (by decide)
            refine lv_iload_n hx hb dX10_leastIn_39 rfl (lv_at hl 1 rfl) ?_
            exact fiI hx hb hr hlk hK hP hD hS dX10_leastIn_40 (Nat.le_of_ble_eq_true rfl) (Nat.le_of_ble_eq_true rfl) (⟨(iv_c (4 : Int32) (by decide)), (by rw [lsF_2 (show fz1 1 = 2 from (ex_1.symm.trans (iv_eqp b_17 (iv_c (2 : Int32) (by decide))))), ← er_5, mn_f (Int32.not_lt.mpr c_7), ← er_12, mn_f (Int32.not_lt.mpr c_14)]), rfl⟩)
          · have b_18 : iv 3 4 x_1 := iv_l2 (Int32.not_le.mp c_16) (iv_c (2 : Int32) (a := 2) (b := 2) (by decide)) b_11 (by decide)
            refine lv_iload_n hx hb dX10_leastIn_14 rfl (lv_at hl 3 rfl) ?_
            refine lv_iload_n hx hb dX10_leastIn_15 rfl (lv_at hl 0 rfl) ?_
            refine jnI (wr := [(z 0, .inr (10, mo z pz0_0 pz0_5 pz0_6 pz0_7 pz0_8 pz0_9 pz0_10 pz0_11 pz0_12 pz0_13 pz0_14 pz0_18 pz0_19 pz0_22 pz0_23 pz0_29)), (z 1, aI V 3075 fz1)]) (rnS (rest := []) ⟨hx, hb, hml, hown, hg⟩ (k_X10_stackIn_0 l V a1 2 ba1 (iv_c (2 : Int32) (by decide))) mt_X10_stackIn q_7_26 ⟨Nat.le_of_ble_eq_true rfl, Nat.le_of_ble_eq_true rfl⟩ hK hP hD hS hA hE [] rfl rfl rfl hl.1 rfl (Nat.le_of_ble_eq_true rfl) dX10_leastIn_16 ⟨Nat.le_of_ble_eq_true rfl, Nat.le_of_ble_eq_true rfl⟩) hP hD hS hA [] [0, 1] rfl rfl rfl (by decide) (fun r_19 w H locs hw hP hD hS => ?_)
            obtain ⟨br_19, er_19, et_20, rfl⟩ := hw
            have hP : va_P V.1 vwCl [(z 0, .inr (10, mo z pz0_0 pz0_5 pz0_6 pz0_7 pz0_8 pz0_9 pz0_10 pz0_11 pz0_12 pz0_13 pz0_14 pz0_18 pz0_19 pz0_22 pz0_23 pz0_29)), (z 1, aI V 3075 fz1)] H := hP
            have hD := cpD hP hD
            refine lv_iload_n hx hb dX10_leastIn_19 rfl (lv_at hl 1 rfl) ?_
            refine lv_icmp_ge (tgt := 31) hx hb dX10_leastIn_20 (by decide) (fun c_21 => ?_) (fun c_21 => ?_)
            · have b_22 : iv 4 4 r_19 := iv_e2 c_21 (iv_c (4 : Int32) (a := 4) (b := 4) (by decide)) br_19 (by decide)
              refine lv_iload_n hx hb dX10_leastIn_31 rfl (lv_at hl 1 rfl) ?_
              refine lv_istore_n (lv' := [(2, .int 4), (3, .int 2), (0, .ref (z 0)), (1, .int a1)]) hx hb dX10_leastIn_32 rfl hl (by decide) rfl (fun ls hl => ?_)
              refine lv_iinc (v := 3) (lv' := [(3, .int 3), (2, .int 4), (0, .ref (z 0)), (1, .int a1)]) hx hb dX10_leastIn_33 hl (k := 1) rfl (by decide +kernel) (by decide) rfl (fun ls hl => ?_)
              refine lv_goto (tgt := 4) hx hb dX10_leastIn_36 (by decide) ?_
              refine lv_iload_n hx hb dX10_leastIn_4 rfl (lv_at hl 0 rfl) ?_
              refine lv_aload_n hx hb dX10_leastIn_5 rfl (lv_at hl 2 rfl) ?_
              refine va_get (ci := 10) (v := .ref (z 1)) (C := RX10) (T := TX10) (N := 40) hx hb hg inX10 hown hK hP 0 rfl rfl 1 (by decide) (hg _ q_5_225) (fun _ h9 => h9) rfl dX10_leastIn_6 ?_
              refine lv_iconst (v := 1) hx hb dX10_leastIn_9 (by decide) ?_
              refine va_iald hx hb hK hP 1 0 rfl rfl (vin (by decide +kernel)) dX10_leastIn_10 ?_
              refine tpi (y := x_1) ex_1.symm ?_
              refine lv_icmp_ge (tgt := 39) hx hb dX10_leastIn_11 (by decide) (fun c_23 => ?_) (fun c_23 => ?_)
              · have b_24 : iv 3 3 x_1 := iv_e1 c_23 b_18 (iv_c (3 : Int32) (a := 3) (b := 3) (by decide)) (by decide)
                refine lv_iload_n hx hb dX10_leastIn_39 rfl (lv_at hl 1 rfl) ?_
                exact fiI hx hb hr hlk hK hP hD hS dX10_leastIn_40 (Nat.le_of_ble_eq_true rfl) (Nat.le_of_ble_eq_true rfl) (⟨(iv_c (4 : Int32) (by decide)), (by rw [lsF_3 (show fz1 1 = 3 from (ex_1.symm.trans (iv_eqp b_24 (iv_c (3 : Int32) (by decide))))), ← er_5, mn_f (Int32.not_lt.mpr c_7), ← er_12, mn_f (Int32.not_lt.mpr c_14), ← er_19, mn_f (Int32.not_lt.mpr c_21)]), rfl⟩)
              · have b_25 : iv 4 4 x_1 := iv_l2 (Int32.not_le.mp c_23) (iv_c (3 : Int32) (a := 3) (b := 3) (by decide)) b_18 (by decide)
                refine lv_iload_n hx hb dX10_leastIn_14 rfl (lv_at hl 3 rfl) ?_
                refine lv_iload_n hx hb dX10_leastIn_15 rfl (lv_at hl 0 rfl) ?_
                refine jnI (wr := [(z 0, .inr (10, mo z pz0_0 pz0_5 pz0_6 pz0_7 pz0_8 pz0_9 pz0_10 pz0_11 pz0_12 pz0_13 pz0_14 pz0_18 pz0_19 pz0_22 pz0_23 pz0_29)), (z 1, aI V 3075 fz1)]) (rnS (rest := []) ⟨hx, hb, hml, hown, hg⟩ (k_X10_stackIn_0 l V a1 3 ba1 (iv_c (3 : Int32) (by decide))) mt_X10_stackIn q_7_26 ⟨Nat.le_of_ble_eq_true rfl, Nat.le_of_ble_eq_true rfl⟩ hK hP hD hS hA hE [] rfl rfl rfl hl.1 rfl (Nat.le_of_ble_eq_true rfl) dX10_leastIn_16 ⟨Nat.le_of_ble_eq_true rfl, Nat.le_of_ble_eq_true rfl⟩) hP hD hS hA [] [0, 1] rfl rfl rfl (by decide) (fun r_26 w H locs hw hP hD hS => ?_)
                obtain ⟨br_26, er_26, et_27, rfl⟩ := hw
                have hP : va_P V.1 vwCl [(z 0, .inr (10, mo z pz0_0 pz0_5 pz0_6 pz0_7 pz0_8 pz0_9 pz0_10 pz0_11 pz0_12 pz0_13 pz0_14 pz0_18 pz0_19 pz0_22 pz0_23 pz0_29)), (z 1, aI V 3075 fz1)] H := hP
                have hD := cpD hP hD
                refine lv_iload_n hx hb dX10_leastIn_19 rfl (lv_at hl 1 rfl) ?_
                refine lv_icmp_ge (tgt := 31) hx hb dX10_leastIn_20 (by decide) (fun c_28 => ?_) (fun c_28 => ?_)
                · have b_29 : iv 4 4 r_26 := iv_e2 c_28 (iv_c (4 : Int32) (a := 4) (b := 4) (by decide)) br_26 (by decide)
                  refine lv_iload_n hx hb dX10_leastIn_31 rfl (lv_at hl 1 rfl) ?_
                  refine lv_istore_n (lv' := [(2, .int 4), (3, .int 3), (0, .ref (z 0)), (1, .int a1)]) hx hb dX10_leastIn_32 rfl hl (by decide) rfl (fun ls hl => ?_)
                  refine lv_iinc (v := 4) (lv' := [(3, .int 4), (2, .int 4), (0, .ref (z 0)), (1, .int a1)]) hx hb dX10_leastIn_33 hl (k := 1) rfl (by decide +kernel) (by decide) rfl (fun ls hl => ?_)
                  refine lv_goto (tgt := 4) hx hb dX10_leastIn_36 (by decide) ?_
                  refine lv_iload_n hx hb dX10_leastIn_4 rfl (lv_at hl 0 rfl) ?_
                  refine lv_aload_n hx hb dX10_leastIn_5 rfl (lv_at hl 2 rfl) ?_
                  refine va_get (ci := 10) (v := .ref (z 1)) (C := RX10) (T := TX10) (N := 40) hx hb hg inX10 hown hK hP 0 rfl rfl 1 (by decide) (hg _ q_5_225) (fun _ h9 => h9) rfl dX10_leastIn_6 ?_
                  refine lv_iconst (v := 1) hx hb dX10_leastIn_9 (by decide) ?_
                  refine va_iald hx hb hK hP 1 0 rfl rfl (vin (by decide +kernel)) dX10_leastIn_10 ?_
                  refine tpi (y := x_1) ex_1.symm ?_
                  refine lv_icmp_ge (tgt := 39) hx hb dX10_leastIn_11 (by decide) (fun _ => ?_) (fun c_30 => absurd (iv_le b_25 (iv_c (4 : Int32) (a := 4) (b := 4) (by decide)) (by decide)) c_30)
                  refine lv_iload_n hx hb dX10_leastIn_39 rfl (lv_at hl 1 rfl) ?_
                  exact fiI hx hb hr hlk hK hP hD hS dX10_leastIn_40 (Nat.le_of_ble_eq_true rfl) (Nat.le_of_ble_eq_true rfl) (⟨(iv_c (4 : Int32) (by decide)), (by rw [lsF_4 (show fz1 1 = 4 from (ex_1.symm.trans (iv_eqp b_25 (iv_c (4 : Int32) (by decide))))), ← er_5, mn_f (Int32.not_lt.mpr c_7), ← er_12, mn_f (Int32.not_lt.mpr c_14), ← er_19, mn_f (Int32.not_lt.mpr c_21), ← er_26, mn_f (Int32.not_lt.mpr c_28)]), rfl⟩)
                · have b_31 : iv 0 3 r_26 := iv_l1 (Int32.not_le.mp c_28) br_26 (iv_c (4 : Int32) (a := 4) (b := 4) (by decide)) (by decide)
                  refine lv_iload_n hx hb dX10_leastIn_23 rfl (lv_at hl 3 rfl) ?_
                  refine lv_iload_n hx hb dX10_leastIn_24 rfl (lv_at hl 0 rfl) ?_
                  refine jnI (wr := [(z 0, .inr (10, mo z pz0_0 pz0_5 pz0_6 pz0_7 pz0_8 pz0_9 pz0_10 pz0_11 pz0_12 pz0_13 pz0_14 pz0_18 pz0_19 pz0_22 pz0_23 pz0_29)), (z 1, aI V 3075 fz1)]) (rnS (rest := []) ⟨hx, hb, hml, hown, hg⟩ (k_X10_stackIn_0 l V a1 3 ba1 (iv_c (3 : Int32) (by decide))) mt_X10_stackIn q_7_26 ⟨Nat.le_of_ble_eq_true rfl, Nat.le_of_ble_eq_true rfl⟩ hK hP hD hS hA hE [] rfl rfl rfl hl.1 rfl (Nat.le_of_ble_eq_true rfl) dX10_leastIn_25 ⟨Nat.le_of_ble_eq_true rfl, Nat.le_of_ble_eq_true rfl⟩) hP hD hS hA [] [0, 1] rfl rfl rfl (by decide) (fun r_32 w H locs hw hP hD hS => ?_)
                  obtain ⟨br_32, er_32, et_33, rfl⟩ := hw
                  have e9_r_32 : r_32 = r_26 := er_32.trans er_26.symm
                  rw [e9_r_32]
                  have hP : va_P V.1 vwCl [(z 0, .inr (10, mo z pz0_0 pz0_5 pz0_6 pz0_7 pz0_8 pz0_9 pz0_10 pz0_11 pz0_12 pz0_13 pz0_14 pz0_18 pz0_19 pz0_22 pz0_23 pz0_29)), (z 1, aI V 3075 fz1)] H := hP
                  have hD := cpD hP hD
                  refine lv_goto (tgt := 32) hx hb dX10_leastIn_28 (by decide) ?_
                  refine lv_istore_n (lv' := [(2, .int r_26), (3, .int 3), (0, .ref (z 0)), (1, .int a1)]) hx hb dX10_leastIn_32 rfl hl (by decide) rfl (fun ls hl => ?_)
                  refine lv_iinc (v := 4) (lv' := [(3, .int 4), (2, .int r_26), (0, .ref (z 0)), (1, .int a1)]) hx hb dX10_leastIn_33 hl (k := 1) rfl (by decide +kernel) (by decide) rfl (fun ls hl => ?_)
                  refine lv_goto (tgt := 4) hx hb dX10_leastIn_36 (by decide) ?_
                  refine lv_iload_n hx hb dX10_leastIn_4 rfl (lv_at hl 0 rfl) ?_
                  refine lv_aload_n hx hb dX10_leastIn_5 rfl (lv_at hl 2 rfl) ?_
                  refine va_get (ci := 10) (v := .ref (z 1)) (C := RX10) (T := TX10) (N := 40) hx hb hg inX10 hown hK hP 0 rfl rfl 1 (by decide) (hg _ q_5_225) (fun _ h9 => h9) rfl dX10_leastIn_6 ?_
                  refine lv_iconst (v := 1) hx hb dX10_leastIn_9 (by decide) ?_
                  refine va_iald hx hb hK hP 1 0 rfl rfl (vin (by decide +kernel)) dX10_leastIn_10 ?_
                  refine tpi (y := x_1) ex_1.symm ?_
                  refine lv_icmp_ge (tgt := 39) hx hb dX10_leastIn_11 (by decide) (fun _ => ?_) (fun c_34 => absurd (iv_le b_25 (iv_c (4 : Int32) (a := 4) (b := 4) (by decide)) (by decide)) c_34)
                  refine lv_iload_n hx hb dX10_leastIn_39 rfl (lv_at hl 1 rfl) ?_
                  exact fiI hx hb hr hlk hK hP hD hS dX10_leastIn_40 (Nat.le_of_ble_eq_true rfl) (Nat.le_of_ble_eq_true rfl) (⟨(iv_w b_31 (by decide)), (by rw [lsF_4 (show fz1 1 = 4 from (ex_1.symm.trans (iv_eqp b_25 (iv_c (4 : Int32) (by decide))))), ← er_5, mn_f (Int32.not_lt.mpr c_7), ← er_12, mn_f (Int32.not_lt.mpr c_14), ← er_19, mn_f (Int32.not_lt.mpr c_21), ← er_26, mn_t (Int32.not_le.mp c_28)]), rfl⟩)
            · have b_35 : iv 0 3 r_19 := iv_l1 (Int32.not_le.mp c_21) br_19 (iv_c (4 : Int32) (a := 4) (b := 4) (by decide)) (by decide)
              refine lv_iload_n hx hb dX10_leastIn_23 rfl (lv_at hl 3 rfl) ?_
              refine lv_iload_n hx hb dX10_leastIn_24 rfl (lv_at hl 0 rfl) ?_
              refine jnI (wr := [(z 0, .inr (10, mo z pz0_0 pz0_5 pz0_6 pz0_7 pz0_8 pz0_9 pz0_10 pz0_11 pz0_12 pz0_13 pz0_14 pz0_18 pz0_19 pz0_22 pz0_23 pz0_29)), (z 1, aI V 3075 fz1)]) (rnS (rest := []) ⟨hx, hb, hml, hown, hg⟩ (k_X10_stackIn_0 l V a1 2 ba1 (iv_c (2 : Int32) (by decide))) mt_X10_stackIn q_7_26 ⟨Nat.le_of_ble_eq_true rfl, Nat.le_of_ble_eq_true rfl⟩ hK hP hD hS hA hE [] rfl rfl rfl hl.1 rfl (Nat.le_of_ble_eq_true rfl) dX10_leastIn_25 ⟨Nat.le_of_ble_eq_true rfl, Nat.le_of_ble_eq_true rfl⟩) hP hD hS hA [] [0, 1] rfl rfl rfl (by decide) (fun r_36 w H locs hw hP hD hS => ?_)
              obtain ⟨br_36, er_36, et_37, rfl⟩ := hw
              have e9_r_36 : r_36 = r_19 := er_36.trans er_19.symm
              rw [e9_r_36]
              have hP : va_P V.1 vwCl [(z 0, .inr (10, mo z pz0_0 pz0_5 pz0_6 pz0_7 pz0_8 pz0_9 pz0_10 pz0_11 pz0_12 pz0_13 pz0_14 pz0_18 pz0_19 pz0_22 pz0_23 pz0_29)), (z 1, aI V 3075 fz1)] H := hP
              have hD := cpD hP hD
              refine lv_goto (tgt := 32) hx hb dX10_leastIn_28 (by decide) ?_
              refine lv_istore_n (lv' := [(2, .int r_19), (3, .int 2), (0, .ref (z 0)), (1, .int a1)]) hx hb dX10_leastIn_32 rfl hl (by decide) rfl (fun ls hl => ?_)
              refine lv_iinc (v := 3) (lv' := [(3, .int 3), (2, .int r_19), (0, .ref (z 0)), (1, .int a1)]) hx hb dX10_leastIn_33 hl (k := 1) rfl (by decide +kernel) (by decide) rfl (fun ls hl => ?_)
              refine lv_goto (tgt := 4) hx hb dX10_leastIn_36 (by decide) ?_
              refine lv_iload_n hx hb dX10_leastIn_4 rfl (lv_at hl 0 rfl) ?_
              refine lv_aload_n hx hb dX10_leastIn_5 rfl (lv_at hl 2 rfl) ?_
              refine va_get (ci := 10) (v := .ref (z 1)) (C := RX10) (T := TX10) (N := 40) hx hb hg inX10 hown hK hP 0 rfl rfl 1 (by decide) (hg _ q_5_225) (fun _ h9 => h9) rfl dX10_leastIn_6 ?_
              refine lv_iconst (v := 1) hx hb dX10_leastIn_9 (by decide) ?_
              refine va_iald hx hb hK hP 1 0 rfl rfl (vin (by decide +kernel)) dX10_leastIn_10 ?_
              refine tpi (y := x_1) ex_1.symm ?_
              refine lv_icmp_ge (tgt := 39) hx hb dX10_leastIn_11 (by decide) (fun c_38 => ?_) (fun c_38 => ?_)
              · have b_39 : iv 3 3 x_1 := iv_e1 c_38 b_18 (iv_c (3 : Int32) (a := 3) (b := 3) (by decide)) (by decide)
                refine lv_iload_n hx hb dX10_leastIn_39 rfl (lv_at hl 1 rfl) ?_
                exact fiI hx hb hr hlk hK hP hD hS dX10_leastIn_40 (Nat.le_of_ble_eq_true rfl) (Nat.le_of_ble_eq_true rfl) (⟨(iv_w b_35 (by decide)), (by rw [lsF_3 (show fz1 1 = 3 from (ex_1.symm.trans (iv_eqp b_39 (iv_c (3 : Int32) (by decide))))), ← er_5, mn_f (Int32.not_lt.mpr c_7), ← er_12, mn_f (Int32.not_lt.mpr c_14), ← er_19, mn_t (Int32.not_le.mp c_21)]), rfl⟩)
              · have b_40 : iv 4 4 x_1 := iv_l2 (Int32.not_le.mp c_38) (iv_c (3 : Int32) (a := 3) (b := 3) (by decide)) b_18 (by decide)
                refine lv_iload_n hx hb dX10_leastIn_14 rfl (lv_at hl 3 rfl) ?_
                refine lv_iload_n hx hb dX10_leastIn_15 rfl (lv_at hl 0 rfl) ?_
                refine jnI (wr := [(z 0, .inr (10, mo z pz0_0 pz0_5 pz0_6 pz0_7 pz0_8 pz0_9 pz0_10 pz0_11 pz0_12 pz0_13 pz0_14 pz0_18 pz0_19 pz0_22 pz0_23 pz0_29)), (z 1, aI V 3075 fz1)]) (rnS (rest := []) ⟨hx, hb, hml, hown, hg⟩ (k_X10_stackIn_0 l V a1 3 ba1 (iv_c (3 : Int32) (by decide))) mt_X10_stackIn q_7_26 ⟨Nat.le_of_ble_eq_true rfl, Nat.le_of_ble_eq_true rfl⟩ hK hP hD hS hA hE [] rfl rfl rfl hl.1 rfl (Nat.le_of_ble_eq_true rfl) dX10_leastIn_16 ⟨Nat.le_of_ble_eq_true rfl, Nat.le_of_ble_eq_true rfl⟩) hP hD hS hA [] [0, 1] rfl rfl rfl (by decide) (fun r_41 w H locs hw hP hD hS => ?_)
                obtain ⟨br_41, er_41, et_42, rfl⟩ := hw
                have hP : va_P V.1 vwCl [(z 0, .inr (10, mo z pz0_0 pz0_5 pz0_6 pz0_7 pz0_8 pz0_9 pz0_10 pz0_11 pz0_12 pz0_13 pz0_14 pz0_18 pz0_19 pz0_22 pz0_23 pz0_29)), (z 1, aI V 3075 fz1)] H := hP
                have hD := cpD hP hD
                refine lv_iload_n hx hb dX10_leastIn_19 rfl (lv_at hl 1 rfl) ?_
                refine lv_icmp_ge (tgt := 31) hx hb dX10_leastIn_20 (by decide) (fun c_43 => ?_) (fun c_43 => ?_)
                · refine lv_iload_n hx hb dX10_leastIn_31 rfl (lv_at hl 1 rfl) ?_
                  refine lv_istore_n (lv' := [(2, .int r_19), (3, .int 3), (0, .ref (z 0)), (1, .int a1)]) hx hb dX10_leastIn_32 rfl hl (by decide) rfl (fun ls hl => ?_)
                  refine lv_iinc (v := 4) (lv' := [(3, .int 4), (2, .int r_19), (0, .ref (z 0)), (1, .int a1)]) hx hb dX10_leastIn_33 hl (k := 1) rfl (by decide +kernel) (by decide) rfl (fun ls hl => ?_)
                  refine lv_goto (tgt := 4) hx hb dX10_leastIn_36 (by decide) ?_
                  refine lv_iload_n hx hb dX10_leastIn_4 rfl (lv_at hl 0 rfl) ?_
                  refine lv_aload_n hx hb dX10_leastIn_5 rfl (lv_at hl 2 rfl) ?_
                  refine va_get (ci := 10) (v := .ref (z 1)) (C := RX10) (T := TX10) (N := 40) hx hb hg inX10 hown hK hP 0 rfl rfl 1 (by decide) (hg _ q_5_225) (fun _ h9 => h9) rfl dX10_leastIn_6 ?_
                  refine lv_iconst (v := 1) hx hb dX10_leastIn_9 (by decide) ?_
                  refine va_iald hx hb hK hP 1 0 rfl rfl (vin (by decide +kernel)) dX10_leastIn_10 ?_
                  refine tpi (y := x_1) ex_1.symm ?_
                  refine lv_icmp_ge (tgt := 39) hx hb dX10_leastIn_11 (by decide) (fun _ => ?_) (fun c_44 => absurd (iv_le b_40 (iv_c (4 : Int32) (a := 4) (b := 4) (by decide)) (by decide)) c_44)
                  refine lv_iload_n hx hb dX10_leastIn_39 rfl (lv_at hl 1 rfl) ?_
                  exact fiI hx hb hr hlk hK hP hD hS dX10_leastIn_40 (Nat.le_of_ble_eq_true rfl) (Nat.le_of_ble_eq_true rfl) (⟨(iv_w b_35 (by decide)), (by rw [lsF_4 (show fz1 1 = 4 from (ex_1.symm.trans (iv_eqp b_40 (iv_c (4 : Int32) (by decide))))), ← er_5, mn_f (Int32.not_lt.mpr c_7), ← er_12, mn_f (Int32.not_lt.mpr c_14), ← er_19, mn_t (Int32.not_le.mp c_21), ← er_41, mn_f (Int32.not_lt.mpr c_43)]), rfl⟩)
                · have b_45 : iv 0 2 r_41 := iv_l1 (Int32.not_le.mp c_43) br_41 b_35 (by decide)
                  have b_46 : iv 1 3 r_19 := iv_l2 (Int32.not_le.mp c_43) br_41 b_35 (by decide)
                  refine lv_iload_n hx hb dX10_leastIn_23 rfl (lv_at hl 3 rfl) ?_
                  refine lv_iload_n hx hb dX10_leastIn_24 rfl (lv_at hl 0 rfl) ?_
                  refine jnI (wr := [(z 0, .inr (10, mo z pz0_0 pz0_5 pz0_6 pz0_7 pz0_8 pz0_9 pz0_10 pz0_11 pz0_12 pz0_13 pz0_14 pz0_18 pz0_19 pz0_22 pz0_23 pz0_29)), (z 1, aI V 3075 fz1)]) (rnS (rest := []) ⟨hx, hb, hml, hown, hg⟩ (k_X10_stackIn_0 l V a1 3 ba1 (iv_c (3 : Int32) (by decide))) mt_X10_stackIn q_7_26 ⟨Nat.le_of_ble_eq_true rfl, Nat.le_of_ble_eq_true rfl⟩ hK hP hD hS hA hE [] rfl rfl rfl hl.1 rfl (Nat.le_of_ble_eq_true rfl) dX10_leastIn_25 ⟨Nat.le_of_ble_eq_true rfl, Nat.le_of_ble_eq_true rfl⟩) hP hD hS hA [] [0, 1] rfl rfl rfl (by decide) (fun r_47 w H locs hw hP hD hS => ?_)
                  obtain ⟨br_47, er_47, et_48, rfl⟩ := hw
                  have e9_r_47 : r_47 = r_41 := er_47.trans er_41.symm
                  rw [e9_r_47]
                  have hP : va_P V.1 vwCl [(z 0, .inr (10, mo z pz0_0 pz0_5 pz0_6 pz0_7 pz0_8 pz0_9 pz0_10 pz0_11 pz0_12 pz0_13 pz0_14 pz0_18 pz0_19 pz0_22 pz0_23 pz0_29)), (z 1, aI V 3075 fz1)] H := hP
                  have hD := cpD hP hD
                  refine lv_goto (tgt := 32) hx hb dX10_leastIn_28 (by decide) ?_
                  refine lv_istore_n (lv' := [(2, .int r_41), (3, .int 3), (0, .ref (z 0)), (1, .int a1)]) hx hb dX10_leastIn_32 rfl hl (by decide) rfl (fun ls hl => ?_)
                  refine lv_iinc (v := 4) (lv' := [(3, .int 4), (2, .int r_41), (0, .ref (z 0)), (1, .int a1)]) hx hb dX10_leastIn_33 hl (k := 1) rfl (by decide +kernel) (by decide) rfl (fun ls hl => ?_)
                  refine lv_goto (tgt := 4) hx hb dX10_leastIn_36 (by decide) ?_
                  refine lv_iload_n hx hb dX10_leastIn_4 rfl (lv_at hl 0 rfl) ?_
                  refine lv_aload_n hx hb dX10_leastIn_5 rfl (lv_at hl 2 rfl) ?_
                  refine va_get (ci := 10) (v := .ref (z 1)) (C := RX10) (T := TX10) (N := 40) hx hb hg inX10 hown hK hP 0 rfl rfl 1 (by decide) (hg _ q_5_225) (fun _ h9 => h9) rfl dX10_leastIn_6 ?_
                  refine lv_iconst (v := 1) hx hb dX10_leastIn_9 (by decide) ?_
                  refine va_iald hx hb hK hP 1 0 rfl rfl (vin (by decide +kernel)) dX10_leastIn_10 ?_
                  refine tpi (y := x_1) ex_1.symm ?_
                  refine lv_icmp_ge (tgt := 39) hx hb dX10_leastIn_11 (by decide) (fun _ => ?_) (fun c_49 => absurd (iv_le b_40 (iv_c (4 : Int32) (a := 4) (b := 4) (by decide)) (by decide)) c_49)
                  refine lv_iload_n hx hb dX10_leastIn_39 rfl (lv_at hl 1 rfl) ?_
                  exact fiI hx hb hr hlk hK hP hD hS dX10_leastIn_40 (Nat.le_of_ble_eq_true rfl) (Nat.le_of_ble_eq_true rfl) (⟨(iv_w b_45 (by decide)), (by rw [lsF_4 (show fz1 1 = 4 from (ex_1.symm.trans (iv_eqp b_40 (iv_c (4 : Int32) (by decide))))), ← er_5, mn_f (Int32.not_lt.mpr c_7), ← er_12, mn_f (Int32.not_lt.mpr c_14), ← er_19, mn_t (Int32.not_le.mp c_21), ← er_41, mn_t (Int32.not_le.mp c_43)]), rfl⟩)
        · have b_50 : iv 0 3 r_12 := iv_l1 (Int32.not_le.mp c_14) br_12 (iv_c (4 : Int32) (a := 4) (b := 4) (by decide)) (by decide)
          refine lv_iload_n hx hb dX10_leastIn_23 rfl (lv_at hl 3 rfl) ?_
          refine lv_iload_n hx hb dX10_leastIn_24 rfl (lv_at hl 0 rfl) ?_
          refine jnI (wr := [(z 0, .inr (10, mo z pz0_0 pz0_5 pz0_6 pz0_7 pz0_8 pz0_9 pz0_10 pz0_11 pz0_12 pz0_13 pz0_14 pz0_18 pz0_19 pz0_22 pz0_23 pz0_29)), (z 1, aI V 3075 fz1)]) (rnS (rest := []) ⟨hx, hb, hml, hown, hg⟩ (k_X10_stackIn_0 l V a1 1 ba1 (iv_c (1 : Int32) (by decide))) mt_X10_stackIn q_7_26 ⟨Nat.le_of_ble_eq_true rfl, Nat.le_of_ble_eq_true rfl⟩ hK hP hD hS hA hE [] rfl rfl rfl hl.1 rfl (Nat.le_of_ble_eq_true rfl) dX10_leastIn_25 ⟨Nat.le_of_ble_eq_true rfl, Nat.le_of_ble_eq_true rfl⟩) hP hD hS hA [] [0, 1] rfl rfl rfl (by decide) (fun r_51 w H locs hw hP hD hS => ?_)
          obtain ⟨br_51, er_51, et_52, rfl⟩ := hw
          have e9_r_51 : r_51 = r_12 := er_51.trans er_12.symm
          rw [e9_r_51]
          have hP : va_P V.1 vwCl [(z 0, .inr (10, mo z pz0_0 pz0_5 pz0_6 pz0_7 pz0_8 pz0_9 pz0_10 pz0_11 pz0_12 pz0_13 pz0_14 pz0_18 pz0_19 pz0_22 pz0_23 pz0_29)), (z 1, aI V 3075 fz1)] H := hP
          have hD := cpD hP hD
          refine lv_goto (tgt := 32) hx hb dX10_leastIn_28 (by decide) ?_
          refine lv_istore_n (lv' := [(2, .int r_12), (3, .int 1), (0, .ref (z 0)), (1, .int a1)]) hx hb dX10_leastIn_32 rfl hl (by decide) rfl (fun ls hl => ?_)
          refine lv_iinc (v := 2) (lv' := [(3, .int 2), (2, .int r_12), (0, .ref (z 0)), (1, .int a1)]) hx hb dX10_leastIn_33 hl (k := 1) rfl (by decide +kernel) (by decide) rfl (fun ls hl => ?_)
          refine lv_goto (tgt := 4) hx hb dX10_leastIn_36 (by decide) ?_
          refine lv_iload_n hx hb dX10_leastIn_4 rfl (lv_at hl 0 rfl) ?_
          refine lv_aload_n hx hb dX10_leastIn_5 rfl (lv_at hl 2 rfl) ?_
          refine va_get (ci := 10) (v := .ref (z 1)) (C := RX10) (T := TX10) (N := 40) hx hb hg inX10 hown hK hP 0 rfl rfl 1 (by decide) (hg _ q_5_225) (fun _ h9 => h9) rfl dX10_leastIn_6 ?_
          refine lv_iconst (v := 1) hx hb dX10_leastIn_9 (by decide) ?_
          refine va_iald hx hb hK hP 1 0 rfl rfl (vin (by decide +kernel)) dX10_leastIn_10 ?_
          refine tpi (y := x_1) ex_1.symm ?_
          refine lv_icmp_ge (tgt := 39) hx hb dX10_leastIn_11 (by decide) (fun c_53 => ?_) (fun c_53 => ?_)
          · have b_54 : iv 2 2 x_1 := iv_e1 c_53 b_11 (iv_c (2 : Int32) (a := 2) (b := 2) (by decide)) (by decide)
            refine lv_iload_n hx hb dX10_leastIn_39 rfl (lv_at hl 1 rfl) ?_
            exact fiI hx hb hr hlk hK hP hD hS dX10_leastIn_40 (Nat.le_of_ble_eq_true rfl) (Nat.le_of_ble_eq_true rfl) (⟨(iv_w b_50 (by decide)), (by rw [lsF_2 (show fz1 1 = 2 from (ex_1.symm.trans (iv_eqp b_54 (iv_c (2 : Int32) (by decide))))), ← er_5, mn_f (Int32.not_lt.mpr c_7), ← er_12, mn_t (Int32.not_le.mp c_14)]), rfl⟩)
          · have b_55 : iv 3 4 x_1 := iv_l2 (Int32.not_le.mp c_53) (iv_c (2 : Int32) (a := 2) (b := 2) (by decide)) b_11 (by decide)
            refine lv_iload_n hx hb dX10_leastIn_14 rfl (lv_at hl 3 rfl) ?_
            refine lv_iload_n hx hb dX10_leastIn_15 rfl (lv_at hl 0 rfl) ?_
            refine jnI (wr := [(z 0, .inr (10, mo z pz0_0 pz0_5 pz0_6 pz0_7 pz0_8 pz0_9 pz0_10 pz0_11 pz0_12 pz0_13 pz0_14 pz0_18 pz0_19 pz0_22 pz0_23 pz0_29)), (z 1, aI V 3075 fz1)]) (rnS (rest := []) ⟨hx, hb, hml, hown, hg⟩ (k_X10_stackIn_0 l V a1 2 ba1 (iv_c (2 : Int32) (by decide))) mt_X10_stackIn q_7_26 ⟨Nat.le_of_ble_eq_true rfl, Nat.le_of_ble_eq_true rfl⟩ hK hP hD hS hA hE [] rfl rfl rfl hl.1 rfl (Nat.le_of_ble_eq_true rfl) dX10_leastIn_16 ⟨Nat.le_of_ble_eq_true rfl, Nat.le_of_ble_eq_true rfl⟩) hP hD hS hA [] [0, 1] rfl rfl rfl (by decide) (fun r_56 w H locs hw hP hD hS => ?_)
            obtain ⟨br_56, er_56, et_57, rfl⟩ := hw
            have hP : va_P V.1 vwCl [(z 0, .inr (10, mo z pz0_0 pz0_5 pz0_6 pz0_7 pz0_8 pz0_9 pz0_10 pz0_11 pz0_12 pz0_13 pz0_14 pz0_18 pz0_19 pz0_22 pz0_23 pz0_29)), (z 1, aI V 3075 fz1)] H := hP
            have hD := cpD hP hD
            refine lv_iload_n hx hb dX10_leastIn_19 rfl (lv_at hl 1 rfl) ?_
            refine lv_icmp_ge (tgt := 31) hx hb dX10_leastIn_20 (by decide) (fun c_58 => ?_) (fun c_58 => ?_)
            · refine lv_iload_n hx hb dX10_leastIn_31 rfl (lv_at hl 1 rfl) ?_
              refine lv_istore_n (lv' := [(2, .int r_12), (3, .int 2), (0, .ref (z 0)), (1, .int a1)]) hx hb dX10_leastIn_32 rfl hl (by decide) rfl (fun ls hl => ?_)
              refine lv_iinc (v := 3) (lv' := [(3, .int 3), (2, .int r_12), (0, .ref (z 0)), (1, .int a1)]) hx hb dX10_leastIn_33 hl (k := 1) rfl (by decide +kernel) (by decide) rfl (fun ls hl => ?_)
              refine lv_goto (tgt := 4) hx hb dX10_leastIn_36 (by decide) ?_
              refine lv_iload_n hx hb dX10_leastIn_4 rfl (lv_at hl 0 rfl) ?_
              refine lv_aload_n hx hb dX10_leastIn_5 rfl (lv_at hl 2 rfl) ?_
              refine va_get (ci := 10) (v := .ref (z 1)) (C := RX10) (T := TX10) (N := 40) hx hb hg inX10 hown hK hP 0 rfl rfl 1 (by decide) (hg _ q_5_225) (fun _ h9 => h9) rfl dX10_leastIn_6 ?_
              refine lv_iconst (v := 1) hx hb dX10_leastIn_9 (by decide) ?_
              refine va_iald hx hb hK hP 1 0 rfl rfl (vin (by decide +kernel)) dX10_leastIn_10 ?_
              refine tpi (y := x_1) ex_1.symm ?_
              refine lv_icmp_ge (tgt := 39) hx hb dX10_leastIn_11 (by decide) (fun c_59 => ?_) (fun c_59 => ?_)
              · have b_60 : iv 3 3 x_1 := iv_e1 c_59 b_55 (iv_c (3 : Int32) (a := 3) (b := 3) (by decide)) (by decide)
                refine lv_iload_n hx hb dX10_leastIn_39 rfl (lv_at hl 1 rfl) ?_
                exact fiI hx hb hr hlk hK hP hD hS dX10_leastIn_40 (Nat.le_of_ble_eq_true rfl) (Nat.le_of_ble_eq_true rfl) (⟨(iv_w b_50 (by decide)), (by rw [lsF_3 (show fz1 1 = 3 from (ex_1.symm.trans (iv_eqp b_60 (iv_c (3 : Int32) (by decide))))), ← er_5, mn_f (Int32.not_lt.mpr c_7), ← er_12, mn_t (Int32.not_le.mp c_14), ← er_56, mn_f (Int32.not_lt.mpr c_58)]), rfl⟩)
              · have b_61 : iv 4 4 x_1 := iv_l2 (Int32.not_le.mp c_59) (iv_c (3 : Int32) (a := 3) (b := 3) (by decide)) b_55 (by decide)
                refine lv_iload_n hx hb dX10_leastIn_14 rfl (lv_at hl 3 rfl) ?_
                refine lv_iload_n hx hb dX10_leastIn_15 rfl (lv_at hl 0 rfl) ?_
                refine jnI (wr := [(z 0, .inr (10, mo z pz0_0 pz0_5 pz0_6 pz0_7 pz0_8 pz0_9 pz0_10 pz0_11 pz0_12 pz0_13 pz0_14 pz0_18 pz0_19 pz0_22 pz0_23 pz0_29)), (z 1, aI V 3075 fz1)]) (rnS (rest := []) ⟨hx, hb, hml, hown, hg⟩ (k_X10_stackIn_0 l V a1 3 ba1 (iv_c (3 : Int32) (by decide))) mt_X10_stackIn q_7_26 ⟨Nat.le_of_ble_eq_true rfl, Nat.le_of_ble_eq_true rfl⟩ hK hP hD hS hA hE [] rfl rfl rfl hl.1 rfl (Nat.le_of_ble_eq_true rfl) dX10_leastIn_16 ⟨Nat.le_of_ble_eq_true rfl, Nat.le_of_ble_eq_true rfl⟩) hP hD hS hA [] [0, 1] rfl rfl rfl (by decide) (fun r_62 w H locs hw hP hD hS => ?_)
                obtain ⟨br_62, er_62, et_63, rfl⟩ := hw
                have hP : va_P V.1 vwCl [(z 0, .inr (10, mo z pz0_0 pz0_5 pz0_6 pz0_7 pz0_8 pz0_9 pz0_10 pz0_11 pz0_12 pz0_13 pz0_14 pz0_18 pz0_19 pz0_22 pz0_23 pz0_29)), (z 1, aI V 3075 fz1)] H := hP
                have hD := cpD hP hD
                refine lv_iload_n hx hb dX10_leastIn_19 rfl (lv_at hl 1 rfl) ?_
                refine lv_icmp_ge (tgt := 31) hx hb dX10_leastIn_20 (by decide) (fun c_64 => ?_) (fun c_64 => ?_)
                · refine lv_iload_n hx hb dX10_leastIn_31 rfl (lv_at hl 1 rfl) ?_
                  refine lv_istore_n (lv' := [(2, .int r_12), (3, .int 3), (0, .ref (z 0)), (1, .int a1)]) hx hb dX10_leastIn_32 rfl hl (by decide) rfl (fun ls hl => ?_)
                  refine lv_iinc (v := 4) (lv' := [(3, .int 4), (2, .int r_12), (0, .ref (z 0)), (1, .int a1)]) hx hb dX10_leastIn_33 hl (k := 1) rfl (by decide +kernel) (by decide) rfl (fun ls hl => ?_)
                  refine lv_goto (tgt := 4) hx hb dX10_leastIn_36 (by decide) ?_
                  refine lv_iload_n hx hb dX10_leastIn_4 rfl (lv_at hl 0 rfl) ?_
                  refine lv_aload_n hx hb dX10_leastIn_5 rfl (lv_at hl 2 rfl) ?_
                  refine va_get (ci := 10) (v := .ref (z 1)) (C := RX10) (T := TX10) (N := 40) hx hb hg inX10 hown hK hP 0 rfl rfl 1 (by decide) (hg _ q_5_225) (fun _ h9 => h9) rfl dX10_leastIn_6 ?_
                  refine lv_iconst (v := 1) hx hb dX10_leastIn_9 (by decide) ?_
                  refine va_iald hx hb hK hP 1 0 rfl rfl (vin (by decide +kernel)) dX10_leastIn_10 ?_
                  refine tpi (y := x_1) ex_1.symm ?_
                  refine lv_icmp_ge (tgt := 39) hx hb dX10_leastIn_11 (by decide) (fun _ => ?_) (fun c_65 => absurd (iv_le b_61 (iv_c (4 : Int32) (a := 4) (b := 4) (by decide)) (by decide)) c_65)
                  refine lv_iload_n hx hb dX10_leastIn_39 rfl (lv_at hl 1 rfl) ?_
                  exact fiI hx hb hr hlk hK hP hD hS dX10_leastIn_40 (Nat.le_of_ble_eq_true rfl) (Nat.le_of_ble_eq_true rfl) (⟨(iv_w b_50 (by decide)), (by rw [lsF_4 (show fz1 1 = 4 from (ex_1.symm.trans (iv_eqp b_61 (iv_c (4 : Int32) (by decide))))), ← er_5, mn_f (Int32.not_lt.mpr c_7), ← er_12, mn_t (Int32.not_le.mp c_14), ← er_56, mn_f (Int32.not_lt.mpr c_58), ← er_62, mn_f (Int32.not_lt.mpr c_64)]), rfl⟩)
                · have b_66 : iv 0 2 r_62 := iv_l1 (Int32.not_le.mp c_64) br_62 b_50 (by decide)
                  have b_67 : iv 1 3 r_12 := iv_l2 (Int32.not_le.mp c_64) br_62 b_50 (by decide)
                  refine lv_iload_n hx hb dX10_leastIn_23 rfl (lv_at hl 3 rfl) ?_
                  refine lv_iload_n hx hb dX10_leastIn_24 rfl (lv_at hl 0 rfl) ?_
                  refine jnI (wr := [(z 0, .inr (10, mo z pz0_0 pz0_5 pz0_6 pz0_7 pz0_8 pz0_9 pz0_10 pz0_11 pz0_12 pz0_13 pz0_14 pz0_18 pz0_19 pz0_22 pz0_23 pz0_29)), (z 1, aI V 3075 fz1)]) (rnS (rest := []) ⟨hx, hb, hml, hown, hg⟩ (k_X10_stackIn_0 l V a1 3 ba1 (iv_c (3 : Int32) (by decide))) mt_X10_stackIn q_7_26 ⟨Nat.le_of_ble_eq_true rfl, Nat.le_of_ble_eq_true rfl⟩ hK hP hD hS hA hE [] rfl rfl rfl hl.1 rfl (Nat.le_of_ble_eq_true rfl) dX10_leastIn_25 ⟨Nat.le_of_ble_eq_true rfl, Nat.le_of_ble_eq_true rfl⟩) hP hD hS hA [] [0, 1] rfl rfl rfl (by decide) (fun r_68 w H locs hw hP hD hS => ?_)
                  obtain ⟨br_68, er_68, et_69, rfl⟩ := hw
                  have e9_r_68 : r_68 = r_62 := er_68.trans er_62.symm
                  rw [e9_r_68]
                  have hP : va_P V.1 vwCl [(z 0, .inr (10, mo z pz0_0 pz0_5 pz0_6 pz0_7 pz0_8 pz0_9 pz0_10 pz0_11 pz0_12 pz0_13 pz0_14 pz0_18 pz0_19 pz0_22 pz0_23 pz0_29)), (z 1, aI V 3075 fz1)] H := hP
                  have hD := cpD hP hD
                  refine lv_goto (tgt := 32) hx hb dX10_leastIn_28 (by decide) ?_
                  refine lv_istore_n (lv' := [(2, .int r_62), (3, .int 3), (0, .ref (z 0)), (1, .int a1)]) hx hb dX10_leastIn_32 rfl hl (by decide) rfl (fun ls hl => ?_)
                  refine lv_iinc (v := 4) (lv' := [(3, .int 4), (2, .int r_62), (0, .ref (z 0)), (1, .int a1)]) hx hb dX10_leastIn_33 hl (k := 1) rfl (by decide +kernel) (by decide) rfl (fun ls hl => ?_)
                  refine lv_goto (tgt := 4) hx hb dX10_leastIn_36 (by decide) ?_
                  refine lv_iload_n hx hb dX10_leastIn_4 rfl (lv_at hl 0 rfl) ?_
                  refine lv_aload_n hx hb dX10_leastIn_5 rfl (lv_at hl 2 rfl) ?_
                  refine va_get (ci := 10) (v := .ref (z 1)) (C := RX10) (T := TX10) (N := 40) hx hb hg inX10 hown hK hP 0 rfl rfl 1 (by decide) (hg _ q_5_225) (fun _ h9 => h9) rfl dX10_leastIn_6 ?_
                  refine lv_iconst (v := 1) hx hb dX10_leastIn_9 (by decide) ?_
                  refine va_iald hx hb hK hP 1 0 rfl rfl (vin (by decide +kernel)) dX10_leastIn_10 ?_
                  refine tpi (y := x_1) ex_1.symm ?_
                  refine lv_icmp_ge (tgt := 39) hx hb dX10_leastIn_11 (by decide) (fun _ => ?_) (fun c_70 => absurd (iv_le b_61 (iv_c (4 : Int32) (a := 4) (b := 4) (by decide)) (by decide)) c_70)
                  refine lv_iload_n hx hb dX10_leastIn_39 rfl (lv_at hl 1 rfl) ?_
                  exact fiI hx hb hr hlk hK hP hD hS dX10_leastIn_40 (Nat.le_of_ble_eq_true rfl) (Nat.le_of_ble_eq_true rfl) (⟨(iv_w b_66 (by decide)), (by rw [lsF_4 (show fz1 1 = 4 from (ex_1.symm.trans (iv_eqp b_61 (iv_c (4 : Int32) (by decide))))), ← er_5, mn_f (Int32.not_lt.mpr c_7), ← er_12, mn_t (Int32.not_le.mp c_14), ← er_56, mn_f (Int32.not_lt.mpr c_58), ← er_62, mn_t (Int32.not_le.mp c_64)]), rfl⟩)
            · have b_71 : iv 0 2 r_56 := iv_l1 (Int32.not_le.mp c_58) br_56 b_50 (by decide)
              have b_72 : iv 1 3 r_12 := iv_l2 (Int32.not_le.mp c_58) br_56 b_50 (by decide)
              refine lv_iload_n hx hb dX10_leastIn_23 rfl (lv_at hl 3 rfl) ?_
              refine lv_iload_n hx hb dX10_leastIn_24 rfl (lv_at hl 0 rfl) ?_
              refine jnI (wr := [(z 0, .inr (10, mo z pz0_0 pz0_5 pz0_6 pz0_7 pz0_8 pz0_9 pz0_10 pz0_11 pz0_12 pz0_13 pz0_14 pz0_18 pz0_19 pz0_22 pz0_23 pz0_29)), (z 1, aI V 3075 fz1)]) (rnS (rest := []) ⟨hx, hb, hml, hown, hg⟩ (k_X10_stackIn_0 l V a1 2 ba1 (iv_c (2 : Int32) (by decide))) mt_X10_stackIn q_7_26 ⟨Nat.le_of_ble_eq_true rfl, Nat.le_of_ble_eq_true rfl⟩ hK hP hD hS hA hE [] rfl rfl rfl hl.1 rfl (Nat.le_of_ble_eq_true rfl) dX10_leastIn_25 ⟨Nat.le_of_ble_eq_true rfl, Nat.le_of_ble_eq_true rfl⟩) hP hD hS hA [] [0, 1] rfl rfl rfl (by decide) (fun r_73 w H locs hw hP hD hS => ?_)
              obtain ⟨br_73, er_73, et_74, rfl⟩ := hw
              have e9_r_73 : r_73 = r_56 := er_73.trans er_56.symm
              rw [e9_r_73]
              have hP : va_P V.1 vwCl [(z 0, .inr (10, mo z pz0_0 pz0_5 pz0_6 pz0_7 pz0_8 pz0_9 pz0_10 pz0_11 pz0_12 pz0_13 pz0_14 pz0_18 pz0_19 pz0_22 pz0_23 pz0_29)), (z 1, aI V 3075 fz1)] H := hP
              have hD := cpD hP hD
              refine lv_goto (tgt := 32) hx hb dX10_leastIn_28 (by decide) ?_
              refine lv_istore_n (lv' := [(2, .int r_56), (3, .int 2), (0, .ref (z 0)), (1, .int a1)]) hx hb dX10_leastIn_32 rfl hl (by decide) rfl (fun ls hl => ?_)
              refine lv_iinc (v := 3) (lv' := [(3, .int 3), (2, .int r_56), (0, .ref (z 0)), (1, .int a1)]) hx hb dX10_leastIn_33 hl (k := 1) rfl (by decide +kernel) (by decide) rfl (fun ls hl => ?_)
              refine lv_goto (tgt := 4) hx hb dX10_leastIn_36 (by decide) ?_
              refine lv_iload_n hx hb dX10_leastIn_4 rfl (lv_at hl 0 rfl) ?_
              refine lv_aload_n hx hb dX10_leastIn_5 rfl (lv_at hl 2 rfl) ?_
              refine va_get (ci := 10) (v := .ref (z 1)) (C := RX10) (T := TX10) (N := 40) hx hb hg inX10 hown hK hP 0 rfl rfl 1 (by decide) (hg _ q_5_225) (fun _ h9 => h9) rfl dX10_leastIn_6 ?_
              refine lv_iconst (v := 1) hx hb dX10_leastIn_9 (by decide) ?_
              refine va_iald hx hb hK hP 1 0 rfl rfl (vin (by decide +kernel)) dX10_leastIn_10 ?_
              refine tpi (y := x_1) ex_1.symm ?_
              refine lv_icmp_ge (tgt := 39) hx hb dX10_leastIn_11 (by decide) (fun c_75 => ?_) (fun c_75 => ?_)
              · have b_76 : iv 3 3 x_1 := iv_e1 c_75 b_55 (iv_c (3 : Int32) (a := 3) (b := 3) (by decide)) (by decide)
                refine lv_iload_n hx hb dX10_leastIn_39 rfl (lv_at hl 1 rfl) ?_
                exact fiI hx hb hr hlk hK hP hD hS dX10_leastIn_40 (Nat.le_of_ble_eq_true rfl) (Nat.le_of_ble_eq_true rfl) (⟨(iv_w b_71 (by decide)), (by rw [lsF_3 (show fz1 1 = 3 from (ex_1.symm.trans (iv_eqp b_76 (iv_c (3 : Int32) (by decide))))), ← er_5, mn_f (Int32.not_lt.mpr c_7), ← er_12, mn_t (Int32.not_le.mp c_14), ← er_56, mn_t (Int32.not_le.mp c_58)]), rfl⟩)
              · have b_77 : iv 4 4 x_1 := iv_l2 (Int32.not_le.mp c_75) (iv_c (3 : Int32) (a := 3) (b := 3) (by decide)) b_55 (by decide)
                refine lv_iload_n hx hb dX10_leastIn_14 rfl (lv_at hl 3 rfl) ?_
                refine lv_iload_n hx hb dX10_leastIn_15 rfl (lv_at hl 0 rfl) ?_
                refine jnI (wr := [(z 0, .inr (10, mo z pz0_0 pz0_5 pz0_6 pz0_7 pz0_8 pz0_9 pz0_10 pz0_11 pz0_12 pz0_13 pz0_14 pz0_18 pz0_19 pz0_22 pz0_23 pz0_29)), (z 1, aI V 3075 fz1)]) (rnS (rest := []) ⟨hx, hb, hml, hown, hg⟩ (k_X10_stackIn_0 l V a1 3 ba1 (iv_c (3 : Int32) (by decide))) mt_X10_stackIn q_7_26 ⟨Nat.le_of_ble_eq_true rfl, Nat.le_of_ble_eq_true rfl⟩ hK hP hD hS hA hE [] rfl rfl rfl hl.1 rfl (Nat.le_of_ble_eq_true rfl) dX10_leastIn_16 ⟨Nat.le_of_ble_eq_true rfl, Nat.le_of_ble_eq_true rfl⟩) hP hD hS hA [] [0, 1] rfl rfl rfl (by decide) (fun r_78 w H locs hw hP hD hS => ?_)
                obtain ⟨br_78, er_78, et_79, rfl⟩ := hw
                have hP : va_P V.1 vwCl [(z 0, .inr (10, mo z pz0_0 pz0_5 pz0_6 pz0_7 pz0_8 pz0_9 pz0_10 pz0_11 pz0_12 pz0_13 pz0_14 pz0_18 pz0_19 pz0_22 pz0_23 pz0_29)), (z 1, aI V 3075 fz1)] H := hP
                have hD := cpD hP hD
                refine lv_iload_n hx hb dX10_leastIn_19 rfl (lv_at hl 1 rfl) ?_
                refine lv_icmp_ge (tgt := 31) hx hb dX10_leastIn_20 (by decide) (fun c_80 => ?_) (fun c_80 => ?_)
                · refine lv_iload_n hx hb dX10_leastIn_31 rfl (lv_at hl 1 rfl) ?_
                  refine lv_istore_n (lv' := [(2, .int r_56), (3, .int 3), (0, .ref (z 0)), (1, .int a1)]) hx hb dX10_leastIn_32 rfl hl (by decide) rfl (fun ls hl => ?_)
                  refine lv_iinc (v := 4) (lv' := [(3, .int 4), (2, .int r_56), (0, .ref (z 0)), (1, .int a1)]) hx hb dX10_leastIn_33 hl (k := 1) rfl (by decide +kernel) (by decide) rfl (fun ls hl => ?_)
                  refine lv_goto (tgt := 4) hx hb dX10_leastIn_36 (by decide) ?_
                  refine lv_iload_n hx hb dX10_leastIn_4 rfl (lv_at hl 0 rfl) ?_
                  refine lv_aload_n hx hb dX10_leastIn_5 rfl (lv_at hl 2 rfl) ?_
                  refine va_get (ci := 10) (v := .ref (z 1)) (C := RX10) (T := TX10) (N := 40) hx hb hg inX10 hown hK hP 0 rfl rfl 1 (by decide) (hg _ q_5_225) (fun _ h9 => h9) rfl dX10_leastIn_6 ?_
                  refine lv_iconst (v := 1) hx hb dX10_leastIn_9 (by decide) ?_
                  refine va_iald hx hb hK hP 1 0 rfl rfl (vin (by decide +kernel)) dX10_leastIn_10 ?_
                  refine tpi (y := x_1) ex_1.symm ?_
                  refine lv_icmp_ge (tgt := 39) hx hb dX10_leastIn_11 (by decide) (fun _ => ?_) (fun c_81 => absurd (iv_le b_77 (iv_c (4 : Int32) (a := 4) (b := 4) (by decide)) (by decide)) c_81)
                  refine lv_iload_n hx hb dX10_leastIn_39 rfl (lv_at hl 1 rfl) ?_
                  exact fiI hx hb hr hlk hK hP hD hS dX10_leastIn_40 (Nat.le_of_ble_eq_true rfl) (Nat.le_of_ble_eq_true rfl) (⟨(iv_w b_71 (by decide)), (by rw [lsF_4 (show fz1 1 = 4 from (ex_1.symm.trans (iv_eqp b_77 (iv_c (4 : Int32) (by decide))))), ← er_5, mn_f (Int32.not_lt.mpr c_7), ← er_12, mn_t (Int32.not_le.mp c_14), ← er_56, mn_t (Int32.not_le.mp c_58), ← er_78, mn_f (Int32.not_lt.mpr c_80)]), rfl⟩)
                · have b_82 : iv 0 1 r_78 := iv_l1 (Int32.not_le.mp c_80) br_78 b_71 (by decide)
                  have b_83 : iv 1 2 r_56 := iv_l2 (Int32.not_le.mp c_80) br_78 b_71 (by decide)
                  refine lv_iload_n hx hb dX10_leastIn_23 rfl (lv_at hl 3 rfl) ?_
                  refine lv_iload_n hx hb dX10_leastIn_24 rfl (lv_at hl 0 rfl) ?_
                  refine jnI (wr := [(z 0, .inr (10, mo z pz0_0 pz0_5 pz0_6 pz0_7 pz0_8 pz0_9 pz0_10 pz0_11 pz0_12 pz0_13 pz0_14 pz0_18 pz0_19 pz0_22 pz0_23 pz0_29)), (z 1, aI V 3075 fz1)]) (rnS (rest := []) ⟨hx, hb, hml, hown, hg⟩ (k_X10_stackIn_0 l V a1 3 ba1 (iv_c (3 : Int32) (by decide))) mt_X10_stackIn q_7_26 ⟨Nat.le_of_ble_eq_true rfl, Nat.le_of_ble_eq_true rfl⟩ hK hP hD hS hA hE [] rfl rfl rfl hl.1 rfl (Nat.le_of_ble_eq_true rfl) dX10_leastIn_25 ⟨Nat.le_of_ble_eq_true rfl, Nat.le_of_ble_eq_true rfl⟩) hP hD hS hA [] [0, 1] rfl rfl rfl (by decide) (fun r_84 w H locs hw hP hD hS => ?_)
                  obtain ⟨br_84, er_84, et_85, rfl⟩ := hw
                  have e9_r_84 : r_84 = r_78 := er_84.trans er_78.symm
                  rw [e9_r_84]
                  have hP : va_P V.1 vwCl [(z 0, .inr (10, mo z pz0_0 pz0_5 pz0_6 pz0_7 pz0_8 pz0_9 pz0_10 pz0_11 pz0_12 pz0_13 pz0_14 pz0_18 pz0_19 pz0_22 pz0_23 pz0_29)), (z 1, aI V 3075 fz1)] H := hP
                  have hD := cpD hP hD
                  refine lv_goto (tgt := 32) hx hb dX10_leastIn_28 (by decide) ?_
                  refine lv_istore_n (lv' := [(2, .int r_78), (3, .int 3), (0, .ref (z 0)), (1, .int a1)]) hx hb dX10_leastIn_32 rfl hl (by decide) rfl (fun ls hl => ?_)
                  refine lv_iinc (v := 4) (lv' := [(3, .int 4), (2, .int r_78), (0, .ref (z 0)), (1, .int a1)]) hx hb dX10_leastIn_33 hl (k := 1) rfl (by decide +kernel) (by decide) rfl (fun ls hl => ?_)
                  refine lv_goto (tgt := 4) hx hb dX10_leastIn_36 (by decide) ?_
                  refine lv_iload_n hx hb dX10_leastIn_4 rfl (lv_at hl 0 rfl) ?_
                  refine lv_aload_n hx hb dX10_leastIn_5 rfl (lv_at hl 2 rfl) ?_
                  refine va_get (ci := 10) (v := .ref (z 1)) (C := RX10) (T := TX10) (N := 40) hx hb hg inX10 hown hK hP 0 rfl rfl 1 (by decide) (hg _ q_5_225) (fun _ h9 => h9) rfl dX10_leastIn_6 ?_
                  refine lv_iconst (v := 1) hx hb dX10_leastIn_9 (by decide) ?_
                  refine va_iald hx hb hK hP 1 0 rfl rfl (vin (by decide +kernel)) dX10_leastIn_10 ?_
                  refine tpi (y := x_1) ex_1.symm ?_
                  refine lv_icmp_ge (tgt := 39) hx hb dX10_leastIn_11 (by decide) (fun _ => ?_) (fun c_86 => absurd (iv_le b_77 (iv_c (4 : Int32) (a := 4) (b := 4) (by decide)) (by decide)) c_86)
                  refine lv_iload_n hx hb dX10_leastIn_39 rfl (lv_at hl 1 rfl) ?_
                  exact fiI hx hb hr hlk hK hP hD hS dX10_leastIn_40 (Nat.le_of_ble_eq_true rfl) (Nat.le_of_ble_eq_true rfl) (⟨(iv_w b_82 (by decide)), (by rw [lsF_4 (show fz1 1 = 4 from (ex_1.symm.trans (iv_eqp b_77 (iv_c (4 : Int32) (by decide))))), ← er_5, mn_f (Int32.not_lt.mpr c_7), ← er_12, mn_t (Int32.not_le.mp c_14), ← er_56, mn_t (Int32.not_le.mp c_58), ← er_78, mn_t (Int32.not_le.mp c_80)]), rfl⟩)
    · have b_87 : iv 0 3 r_5 := iv_l1 (Int32.not_le.mp c_7) br_5 (iv_c (4 : Int32) (a := 4) (b := 4) (by decide)) (by decide)
      refine lv_iload_n hx hb dX10_leastIn_23 rfl (lv_at hl 3 rfl) ?_
      refine lv_iload_n hx hb dX10_leastIn_24 rfl (lv_at hl 0 rfl) ?_
      refine jnI (wr := [(z 0, .inr (10, mo z pz0_0 pz0_5 pz0_6 pz0_7 pz0_8 pz0_9 pz0_10 pz0_11 pz0_12 pz0_13 pz0_14 pz0_18 pz0_19 pz0_22 pz0_23 pz0_29)), (z 1, aI V 3075 fz1)]) (rnS (rest := []) ⟨hx, hb, hml, hown, hg⟩ (k_X10_stackIn_0 l V a1 0 ba1 (iv_c (0 : Int32) (by decide))) mt_X10_stackIn q_7_26 ⟨Nat.le_of_ble_eq_true rfl, Nat.le_of_ble_eq_true rfl⟩ hK hP hD hS hA hE [] rfl rfl rfl hl.1 rfl (Nat.le_of_ble_eq_true rfl) dX10_leastIn_25 ⟨Nat.le_of_ble_eq_true rfl, Nat.le_of_ble_eq_true rfl⟩) hP hD hS hA [] [0, 1] rfl rfl rfl (by decide) (fun r_88 w H locs hw hP hD hS => ?_)
      obtain ⟨br_88, er_88, et_89, rfl⟩ := hw
      have e9_r_88 : r_88 = r_5 := er_88.trans er_5.symm
      rw [e9_r_88]
      have hP : va_P V.1 vwCl [(z 0, .inr (10, mo z pz0_0 pz0_5 pz0_6 pz0_7 pz0_8 pz0_9 pz0_10 pz0_11 pz0_12 pz0_13 pz0_14 pz0_18 pz0_19 pz0_22 pz0_23 pz0_29)), (z 1, aI V 3075 fz1)] H := hP
      have hD := cpD hP hD
      refine lv_goto (tgt := 32) hx hb dX10_leastIn_28 (by decide) ?_
      refine lv_istore_n (lv' := [(2, .int r_5), (3, .int 0), (0, .ref (z 0)), (1, .int a1)]) hx hb dX10_leastIn_32 rfl hl (by decide) rfl (fun ls hl => ?_)
      refine lv_iinc (v := 1) (lv' := [(3, .int 1), (2, .int r_5), (0, .ref (z 0)), (1, .int a1)]) hx hb dX10_leastIn_33 hl (k := 1) rfl (by decide +kernel) (by decide) rfl (fun ls hl => ?_)
      refine lv_goto (tgt := 4) hx hb dX10_leastIn_36 (by decide) ?_
      refine lv_iload_n hx hb dX10_leastIn_4 rfl (lv_at hl 0 rfl) ?_
      refine lv_aload_n hx hb dX10_leastIn_5 rfl (lv_at hl 2 rfl) ?_
      refine va_get (ci := 10) (v := .ref (z 1)) (C := RX10) (T := TX10) (N := 40) hx hb hg inX10 hown hK hP 0 rfl rfl 1 (by decide) (hg _ q_5_225) (fun _ h9 => h9) rfl dX10_leastIn_6 ?_
      refine lv_iconst (v := 1) hx hb dX10_leastIn_9 (by decide) ?_
      refine va_iald hx hb hK hP 1 0 rfl rfl (vin (by decide +kernel)) dX10_leastIn_10 ?_
      refine tpi (y := x_1) ex_1.symm ?_
      refine lv_icmp_ge (tgt := 39) hx hb dX10_leastIn_11 (by decide) (fun c_90 => ?_) (fun c_90 => ?_)
      · have b_91 : iv 1 1 x_1 := iv_e1 c_90 b_4 (iv_c (1 : Int32) (a := 1) (b := 1) (by decide)) (by decide)
        refine lv_iload_n hx hb dX10_leastIn_39 rfl (lv_at hl 1 rfl) ?_
        exact fiI hx hb hr hlk hK hP hD hS dX10_leastIn_40 (Nat.le_of_ble_eq_true rfl) (Nat.le_of_ble_eq_true rfl) (⟨(iv_w b_87 (by decide)), (by rw [lsF_1 (show fz1 1 = 1 from (ex_1.symm.trans (iv_eqp b_91 (iv_c (1 : Int32) (by decide))))), ← er_5, mn_t (Int32.not_le.mp c_7)]), rfl⟩)
      · have b_92 : iv 2 4 x_1 := iv_l2 (Int32.not_le.mp c_90) (iv_c (1 : Int32) (a := 1) (b := 1) (by decide)) b_4 (by decide)
        refine lv_iload_n hx hb dX10_leastIn_14 rfl (lv_at hl 3 rfl) ?_
        refine lv_iload_n hx hb dX10_leastIn_15 rfl (lv_at hl 0 rfl) ?_
        refine jnI (wr := [(z 0, .inr (10, mo z pz0_0 pz0_5 pz0_6 pz0_7 pz0_8 pz0_9 pz0_10 pz0_11 pz0_12 pz0_13 pz0_14 pz0_18 pz0_19 pz0_22 pz0_23 pz0_29)), (z 1, aI V 3075 fz1)]) (rnS (rest := []) ⟨hx, hb, hml, hown, hg⟩ (k_X10_stackIn_0 l V a1 1 ba1 (iv_c (1 : Int32) (by decide))) mt_X10_stackIn q_7_26 ⟨Nat.le_of_ble_eq_true rfl, Nat.le_of_ble_eq_true rfl⟩ hK hP hD hS hA hE [] rfl rfl rfl hl.1 rfl (Nat.le_of_ble_eq_true rfl) dX10_leastIn_16 ⟨Nat.le_of_ble_eq_true rfl, Nat.le_of_ble_eq_true rfl⟩) hP hD hS hA [] [0, 1] rfl rfl rfl (by decide) (fun r_93 w H locs hw hP hD hS => ?_)
        obtain ⟨br_93, er_93, et_94, rfl⟩ := hw
        have hP : va_P V.1 vwCl [(z 0, .inr (10, mo z pz0_0 pz0_5 pz0_6 pz0_7 pz0_8 pz0_9 pz0_10 pz0_11 pz0_12 pz0_13 pz0_14 pz0_18 pz0_19 pz0_22 pz0_23 pz0_29)), (z 1, aI V 3075 fz1)] H := hP
        have hD := cpD hP hD
        refine lv_iload_n hx hb dX10_leastIn_19 rfl (lv_at hl 1 rfl) ?_
        refine lv_icmp_ge (tgt := 31) hx hb dX10_leastIn_20 (by decide) (fun c_95 => ?_) (fun c_95 => ?_)
        · refine lv_iload_n hx hb dX10_leastIn_31 rfl (lv_at hl 1 rfl) ?_
          refine lv_istore_n (lv' := [(2, .int r_5), (3, .int 1), (0, .ref (z 0)), (1, .int a1)]) hx hb dX10_leastIn_32 rfl hl (by decide) rfl (fun ls hl => ?_)
          refine lv_iinc (v := 2) (lv' := [(3, .int 2), (2, .int r_5), (0, .ref (z 0)), (1, .int a1)]) hx hb dX10_leastIn_33 hl (k := 1) rfl (by decide +kernel) (by decide) rfl (fun ls hl => ?_)
          refine lv_goto (tgt := 4) hx hb dX10_leastIn_36 (by decide) ?_
          refine lv_iload_n hx hb dX10_leastIn_4 rfl (lv_at hl 0 rfl) ?_
          refine lv_aload_n hx hb dX10_leastIn_5 rfl (lv_at hl 2 rfl) ?_
          refine va_get (ci := 10) (v := .ref (z 1)) (C := RX10) (T := TX10) (N := 40) hx hb hg inX10 hown hK hP 0 rfl rfl 1 (by decide) (hg _ q_5_225) (fun _ h9 => h9) rfl dX10_leastIn_6 ?_
          refine lv_iconst (v := 1) hx hb dX10_leastIn_9 (by decide) ?_
          refine va_iald hx hb hK hP 1 0 rfl rfl (vin (by decide +kernel)) dX10_leastIn_10 ?_
          refine tpi (y := x_1) ex_1.symm ?_
          refine lv_icmp_ge (tgt := 39) hx hb dX10_leastIn_11 (by decide) (fun c_96 => ?_) (fun c_96 => ?_)
          · have b_97 : iv 2 2 x_1 := iv_e1 c_96 b_92 (iv_c (2 : Int32) (a := 2) (b := 2) (by decide)) (by decide)
            refine lv_iload_n hx hb dX10_leastIn_39 rfl (lv_at hl 1 rfl) ?_
            exact fiI hx hb hr hlk hK hP hD hS dX10_leastIn_40 (Nat.le_of_ble_eq_true rfl) (Nat.le_of_ble_eq_true rfl) (⟨(iv_w b_87 (by decide)), (by rw [lsF_2 (show fz1 1 = 2 from (ex_1.symm.trans (iv_eqp b_97 (iv_c (2 : Int32) (by decide))))), ← er_5, mn_t (Int32.not_le.mp c_7), ← er_93, mn_f (Int32.not_lt.mpr c_95)]), rfl⟩)
          · have b_98 : iv 3 4 x_1 := iv_l2 (Int32.not_le.mp c_96) (iv_c (2 : Int32) (a := 2) (b := 2) (by decide)) b_92 (by decide)
            refine lv_iload_n hx hb dX10_leastIn_14 rfl (lv_at hl 3 rfl) ?_
            refine lv_iload_n hx hb dX10_leastIn_15 rfl (lv_at hl 0 rfl) ?_
            refine jnI (wr := [(z 0, .inr (10, mo z pz0_0 pz0_5 pz0_6 pz0_7 pz0_8 pz0_9 pz0_10 pz0_11 pz0_12 pz0_13 pz0_14 pz0_18 pz0_19 pz0_22 pz0_23 pz0_29)), (z 1, aI V 3075 fz1)]) (rnS (rest := []) ⟨hx, hb, hml, hown, hg⟩ (k_X10_stackIn_0 l V a1 2 ba1 (iv_c (2 : Int32) (by decide))) mt_X10_stackIn q_7_26 ⟨Nat.le_of_ble_eq_true rfl, Nat.le_of_ble_eq_true rfl⟩ hK hP hD hS hA hE [] rfl rfl rfl hl.1 rfl (Nat.le_of_ble_eq_true rfl) dX10_leastIn_16 ⟨Nat.le_of_ble_eq_true rfl, Nat.le_of_ble_eq_true rfl⟩) hP hD hS hA [] [0, 1] rfl rfl rfl (by decide) (fun r_99 w H locs hw hP hD hS => ?_)
            obtain ⟨br_99, er_99, et_100, rfl⟩ := hw
            have hP : va_P V.1 vwCl [(z 0, .inr (10, mo z pz0_0 pz0_5 pz0_6 pz0_7 pz0_8 pz0_9 pz0_10 pz0_11 pz0_12 pz0_13 pz0_14 pz0_18 pz0_19 pz0_22 pz0_23 pz0_29)), (z 1, aI V 3075 fz1)] H := hP
            have hD := cpD hP hD
            refine lv_iload_n hx hb dX10_leastIn_19 rfl (lv_at hl 1 rfl) ?_
            refine lv_icmp_ge (tgt := 31) hx hb dX10_leastIn_20 (by decide) (fun c_101 => ?_) (fun c_101 => ?_)
            · refine lv_iload_n hx hb dX10_leastIn_31 rfl (lv_at hl 1 rfl) ?_
              refine lv_istore_n (lv' := [(2, .int r_5), (3, .int 2), (0, .ref (z 0)), (1, .int a1)]) hx hb dX10_leastIn_32 rfl hl (by decide) rfl (fun ls hl => ?_)
              refine lv_iinc (v := 3) (lv' := [(3, .int 3), (2, .int r_5), (0, .ref (z 0)), (1, .int a1)]) hx hb dX10_leastIn_33 hl (k := 1) rfl (by decide +kernel) (by decide) rfl (fun ls hl => ?_)
              refine lv_goto (tgt := 4) hx hb dX10_leastIn_36 (by decide) ?_
              refine lv_iload_n hx hb dX10_leastIn_4 rfl (lv_at hl 0 rfl) ?_
              refine lv_aload_n hx hb dX10_leastIn_5 rfl (lv_at hl 2 rfl) ?_
              refine va_get (ci := 10) (v := .ref (z 1)) (C := RX10) (T := TX10) (N := 40) hx hb hg inX10 hown hK hP 0 rfl rfl 1 (by decide) (hg _ q_5_225) (fun _ h9 => h9) rfl dX10_leastIn_6 ?_
              refine lv_iconst (v := 1) hx hb dX10_leastIn_9 (by decide) ?_
              refine va_iald hx hb hK hP 1 0 rfl rfl (vin (by decide +kernel)) dX10_leastIn_10 ?_
              refine tpi (y := x_1) ex_1.symm ?_
              refine lv_icmp_ge (tgt := 39) hx hb dX10_leastIn_11 (by decide) (fun c_102 => ?_) (fun c_102 => ?_)
              · have b_103 : iv 3 3 x_1 := iv_e1 c_102 b_98 (iv_c (3 : Int32) (a := 3) (b := 3) (by decide)) (by decide)
                refine lv_iload_n hx hb dX10_leastIn_39 rfl (lv_at hl 1 rfl) ?_
                exact fiI hx hb hr hlk hK hP hD hS dX10_leastIn_40 (Nat.le_of_ble_eq_true rfl) (Nat.le_of_ble_eq_true rfl) (⟨(iv_w b_87 (by decide)), (by rw [lsF_3 (show fz1 1 = 3 from (ex_1.symm.trans (iv_eqp b_103 (iv_c (3 : Int32) (by decide))))), ← er_5, mn_t (Int32.not_le.mp c_7), ← er_93, mn_f (Int32.not_lt.mpr c_95), ← er_99, mn_f (Int32.not_lt.mpr c_101)]), rfl⟩)
              · have b_104 : iv 4 4 x_1 := iv_l2 (Int32.not_le.mp c_102) (iv_c (3 : Int32) (a := 3) (b := 3) (by decide)) b_98 (by decide)
                refine lv_iload_n hx hb dX10_leastIn_14 rfl (lv_at hl 3 rfl) ?_
                refine lv_iload_n hx hb dX10_leastIn_15 rfl (lv_at hl 0 rfl) ?_
                refine jnI (wr := [(z 0, .inr (10, mo z pz0_0 pz0_5 pz0_6 pz0_7 pz0_8 pz0_9 pz0_10 pz0_11 pz0_12 pz0_13 pz0_14 pz0_18 pz0_19 pz0_22 pz0_23 pz0_29)), (z 1, aI V 3075 fz1)]) (rnS (rest := []) ⟨hx, hb, hml, hown, hg⟩ (k_X10_stackIn_0 l V a1 3 ba1 (iv_c (3 : Int32) (by decide))) mt_X10_stackIn q_7_26 ⟨Nat.le_of_ble_eq_true rfl, Nat.le_of_ble_eq_true rfl⟩ hK hP hD hS hA hE [] rfl rfl rfl hl.1 rfl (Nat.le_of_ble_eq_true rfl) dX10_leastIn_16 ⟨Nat.le_of_ble_eq_true rfl, Nat.le_of_ble_eq_true rfl⟩) hP hD hS hA [] [0, 1] rfl rfl rfl (by decide) (fun r_105 w H locs hw hP hD hS => ?_)
                obtain ⟨br_105, er_105, et_106, rfl⟩ := hw
                have hP : va_P V.1 vwCl [(z 0, .inr (10, mo z pz0_0 pz0_5 pz0_6 pz0_7 pz0_8 pz0_9 pz0_10 pz0_11 pz0_12 pz0_13 pz0_14 pz0_18 pz0_19 pz0_22 pz0_23 pz0_29)), (z 1, aI V 3075 fz1)] H := hP
                have hD := cpD hP hD
                refine lv_iload_n hx hb dX10_leastIn_19 rfl (lv_at hl 1 rfl) ?_
                refine lv_icmp_ge (tgt := 31) hx hb dX10_leastIn_20 (by decide) (fun c_107 => ?_) (fun c_107 => ?_)
                · refine lv_iload_n hx hb dX10_leastIn_31 rfl (lv_at hl 1 rfl) ?_
                  refine lv_istore_n (lv' := [(2, .int r_5), (3, .int 3), (0, .ref (z 0)), (1, .int a1)]) hx hb dX10_leastIn_32 rfl hl (by decide) rfl (fun ls hl => ?_)
                  refine lv_iinc (v := 4) (lv' := [(3, .int 4), (2, .int r_5), (0, .ref (z 0)), (1, .int a1)]) hx hb dX10_leastIn_33 hl (k := 1) rfl (by decide +kernel) (by decide) rfl (fun ls hl => ?_)
                  refine lv_goto (tgt := 4) hx hb dX10_leastIn_36 (by decide) ?_
                  refine lv_iload_n hx hb dX10_leastIn_4 rfl (lv_at hl 0 rfl) ?_
                  refine lv_aload_n hx hb dX10_leastIn_5 rfl (lv_at hl 2 rfl) ?_
                  refine va_get (ci := 10) (v := .ref (z 1)) (C := RX10) (T := TX10) (N := 40) hx hb hg inX10 hown hK hP 0 rfl rfl 1 (by decide) (hg _ q_5_225) (fun _ h9 => h9) rfl dX10_leastIn_6 ?_
                  refine lv_iconst (v := 1) hx hb dX10_leastIn_9 (by decide) ?_
                  refine va_iald hx hb hK hP 1 0 rfl rfl (vin (by decide +kernel)) dX10_leastIn_10 ?_
                  refine tpi (y := x_1) ex_1.symm ?_
                  refine lv_icmp_ge (tgt := 39) hx hb dX10_leastIn_11 (by decide) (fun _ => ?_) (fun c_108 => absurd (iv_le b_104 (iv_c (4 : Int32) (a := 4) (b := 4) (by decide)) (by decide)) c_108)
                  refine lv_iload_n hx hb dX10_leastIn_39 rfl (lv_at hl 1 rfl) ?_
                  exact fiI hx hb hr hlk hK hP hD hS dX10_leastIn_40 (Nat.le_of_ble_eq_true rfl) (Nat.le_of_ble_eq_true rfl) (⟨(iv_w b_87 (by decide)), (by rw [lsF_4 (show fz1 1 = 4 from (ex_1.symm.trans (iv_eqp b_104 (iv_c (4 : Int32) (by decide))))), ← er_5, mn_t (Int32.not_le.mp c_7), ← er_93, mn_f (Int32.not_lt.mpr c_95), ← er_99, mn_f (Int32.not_lt.mpr c_101), ← er_105, mn_f (Int32.not_lt.mpr c_107)]), rfl⟩)
                · have b_109 : iv 0 2 r_105 := iv_l1 (Int32.not_le.mp c_107) br_105 b_87 (by decide)
                  have b_110 : iv 1 3 r_5 := iv_l2 (Int32.not_le.mp c_107) br_105 b_87 (by decide)
                  refine lv_iload_n hx hb dX10_leastIn_23 rfl (lv_at hl 3 rfl) ?_
                  refine lv_iload_n hx hb dX10_leastIn_24 rfl (lv_at hl 0 rfl) ?_
                  refine jnI (wr := [(z 0, .inr (10, mo z pz0_0 pz0_5 pz0_6 pz0_7 pz0_8 pz0_9 pz0_10 pz0_11 pz0_12 pz0_13 pz0_14 pz0_18 pz0_19 pz0_22 pz0_23 pz0_29)), (z 1, aI V 3075 fz1)]) (rnS (rest := []) ⟨hx, hb, hml, hown, hg⟩ (k_X10_stackIn_0 l V a1 3 ba1 (iv_c (3 : Int32) (by decide))) mt_X10_stackIn q_7_26 ⟨Nat.le_of_ble_eq_true rfl, Nat.le_of_ble_eq_true rfl⟩ hK hP hD hS hA hE [] rfl rfl rfl hl.1 rfl (Nat.le_of_ble_eq_true rfl) dX10_leastIn_25 ⟨Nat.le_of_ble_eq_true rfl, Nat.le_of_ble_eq_true rfl⟩) hP hD hS hA [] [0, 1] rfl rfl rfl (by decide) (fun r_111 w H locs hw hP hD hS => ?_)
                  obtain ⟨br_111, er_111, et_112, rfl⟩ := hw
                  have e9_r_111 : r_111 = r_105 := er_111.trans er_105.symm
                  rw [e9_r_111]
                  have hP : va_P V.1 vwCl [(z 0, .inr (10, mo z pz0_0 pz0_5 pz0_6 pz0_7 pz0_8 pz0_9 pz0_10 pz0_11 pz0_12 pz0_13 pz0_14 pz0_18 pz0_19 pz0_22 pz0_23 pz0_29)), (z 1, aI V 3075 fz1)] H := hP
                  have hD := cpD hP hD
                  refine lv_goto (tgt := 32) hx hb dX10_leastIn_28 (by decide) ?_
                  refine lv_istore_n (lv' := [(2, .int r_105), (3, .int 3), (0, .ref (z 0)), (1, .int a1)]) hx hb dX10_leastIn_32 rfl hl (by decide) rfl (fun ls hl => ?_)
                  refine lv_iinc (v := 4) (lv' := [(3, .int 4), (2, .int r_105), (0, .ref (z 0)), (1, .int a1)]) hx hb dX10_leastIn_33 hl (k := 1) rfl (by decide +kernel) (by decide) rfl (fun ls hl => ?_)
                  refine lv_goto (tgt := 4) hx hb dX10_leastIn_36 (by decide) ?_
                  refine lv_iload_n hx hb dX10_leastIn_4 rfl (lv_at hl 0 rfl) ?_
                  refine lv_aload_n hx hb dX10_leastIn_5 rfl (lv_at hl 2 rfl) ?_
                  refine va_get (ci := 10) (v := .ref (z 1)) (C := RX10) (T := TX10) (N := 40) hx hb hg inX10 hown hK hP 0 rfl rfl 1 (by decide) (hg _ q_5_225) (fun _ h9 => h9) rfl dX10_leastIn_6 ?_
                  refine lv_iconst (v := 1) hx hb dX10_leastIn_9 (by decide) ?_
                  refine va_iald hx hb hK hP 1 0 rfl rfl (vin (by decide +kernel)) dX10_leastIn_10 ?_
                  refine tpi (y := x_1) ex_1.symm ?_
                  refine lv_icmp_ge (tgt := 39) hx hb dX10_leastIn_11 (by decide) (fun _ => ?_) (fun c_113 => absurd (iv_le b_104 (iv_c (4 : Int32) (a := 4) (b := 4) (by decide)) (by decide)) c_113)
                  refine lv_iload_n hx hb dX10_leastIn_39 rfl (lv_at hl 1 rfl) ?_
                  exact fiI hx hb hr hlk hK hP hD hS dX10_leastIn_40 (Nat.le_of_ble_eq_true rfl) (Nat.le_of_ble_eq_true rfl) (⟨(iv_w b_109 (by decide)), (by rw [lsF_4 (show fz1 1 = 4 from (ex_1.symm.trans (iv_eqp b_104 (iv_c (4 : Int32) (by decide))))), ← er_5, mn_t (Int32.not_le.mp c_7), ← er_93, mn_f (Int32.not_lt.mpr c_95), ← er_99, mn_f (Int32.not_lt.mpr c_101), ← er_105, mn_t (Int32.not_le.mp c_107)]), rfl⟩)
            · have b_114 : iv 0 2 r_99 := iv_l1 (Int32.not_le.mp c_101) br_99 b_87 (by decide)
              have b_115 : iv 1 3 r_5 := iv_l2 (Int32.not_le.mp c_101) br_99 b_87 (by decide)
              refine lv_iload_n hx hb dX10_leastIn_23 rfl (lv_at hl 3 rfl) ?_
              refine lv_iload_n hx hb dX10_leastIn_24 rfl (lv_at hl 0 rfl) ?_
              refine jnI (wr := [(z 0, .inr (10, mo z pz0_0 pz0_5 pz0_6 pz0_7 pz0_8 pz0_9 pz0_10 pz0_11 pz0_12 pz0_13 pz0_14 pz0_18 pz0_19 pz0_22 pz0_23 pz0_29)), (z 1, aI V 3075 fz1)]) (rnS (rest := []) ⟨hx, hb, hml, hown, hg⟩ (k_X10_stackIn_0 l V a1 2 ba1 (iv_c (2 : Int32) (by decide))) mt_X10_stackIn q_7_26 ⟨Nat.le_of_ble_eq_true rfl, Nat.le_of_ble_eq_true rfl⟩ hK hP hD hS hA hE [] rfl rfl rfl hl.1 rfl (Nat.le_of_ble_eq_true rfl) dX10_leastIn_25 ⟨Nat.le_of_ble_eq_true rfl, Nat.le_of_ble_eq_true rfl⟩) hP hD hS hA [] [0, 1] rfl rfl rfl (by decide) (fun r_116 w H locs hw hP hD hS => ?_)
              obtain ⟨br_116, er_116, et_117, rfl⟩ := hw
              have e9_r_116 : r_116 = r_99 := er_116.trans er_99.symm
              rw [e9_r_116]
              have hP : va_P V.1 vwCl [(z 0, .inr (10, mo z pz0_0 pz0_5 pz0_6 pz0_7 pz0_8 pz0_9 pz0_10 pz0_11 pz0_12 pz0_13 pz0_14 pz0_18 pz0_19 pz0_22 pz0_23 pz0_29)), (z 1, aI V 3075 fz1)] H := hP
              have hD := cpD hP hD
              refine lv_goto (tgt := 32) hx hb dX10_leastIn_28 (by decide) ?_
              refine lv_istore_n (lv' := [(2, .int r_99), (3, .int 2), (0, .ref (z 0)), (1, .int a1)]) hx hb dX10_leastIn_32 rfl hl (by decide) rfl (fun ls hl => ?_)
              refine lv_iinc (v := 3) (lv' := [(3, .int 3), (2, .int r_99), (0, .ref (z 0)), (1, .int a1)]) hx hb dX10_leastIn_33 hl (k := 1) rfl (by decide +kernel) (by decide) rfl (fun ls hl => ?_)
              refine lv_goto (tgt := 4) hx hb dX10_leastIn_36 (by decide) ?_
              refine lv_iload_n hx hb dX10_leastIn_4 rfl (lv_at hl 0 rfl) ?_
              refine lv_aload_n hx hb dX10_leastIn_5 rfl (lv_at hl 2 rfl) ?_
              refine va_get (ci := 10) (v := .ref (z 1)) (C := RX10) (T := TX10) (N := 40) hx hb hg inX10 hown hK hP 0 rfl rfl 1 (by decide) (hg _ q_5_225) (fun _ h9 => h9) rfl dX10_leastIn_6 ?_
              refine lv_iconst (v := 1) hx hb dX10_leastIn_9 (by decide) ?_
              refine va_iald hx hb hK hP 1 0 rfl rfl (vin (by decide +kernel)) dX10_leastIn_10 ?_
              refine tpi (y := x_1) ex_1.symm ?_
              refine lv_icmp_ge (tgt := 39) hx hb dX10_leastIn_11 (by decide) (fun c_118 => ?_) (fun c_118 => ?_)
              · have b_119 : iv 3 3 x_1 := iv_e1 c_118 b_98 (iv_c (3 : Int32) (a := 3) (b := 3) (by decide)) (by decide)
                refine lv_iload_n hx hb dX10_leastIn_39 rfl (lv_at hl 1 rfl) ?_
                exact fiI hx hb hr hlk hK hP hD hS dX10_leastIn_40 (Nat.le_of_ble_eq_true rfl) (Nat.le_of_ble_eq_true rfl) (⟨(iv_w b_114 (by decide)), (by rw [lsF_3 (show fz1 1 = 3 from (ex_1.symm.trans (iv_eqp b_119 (iv_c (3 : Int32) (by decide))))), ← er_5, mn_t (Int32.not_le.mp c_7), ← er_93, mn_f (Int32.not_lt.mpr c_95), ← er_99, mn_t (Int32.not_le.mp c_101)]), rfl⟩)
              · have b_120 : iv 4 4 x_1 := iv_l2 (Int32.not_le.mp c_118) (iv_c (3 : Int32) (a := 3) (b := 3) (by decide)) b_98 (by decide)
                refine lv_iload_n hx hb dX10_leastIn_14 rfl (lv_at hl 3 rfl) ?_
                refine lv_iload_n hx hb dX10_leastIn_15 rfl (lv_at hl 0 rfl) ?_
                refine jnI (wr := [(z 0, .inr (10, mo z pz0_0 pz0_5 pz0_6 pz0_7 pz0_8 pz0_9 pz0_10 pz0_11 pz0_12 pz0_13 pz0_14 pz0_18 pz0_19 pz0_22 pz0_23 pz0_29)), (z 1, aI V 3075 fz1)]) (rnS (rest := []) ⟨hx, hb, hml, hown, hg⟩ (k_X10_stackIn_0 l V a1 3 ba1 (iv_c (3 : Int32) (by decide))) mt_X10_stackIn q_7_26 ⟨Nat.le_of_ble_eq_true rfl, Nat.le_of_ble_eq_true rfl⟩ hK hP hD hS hA hE [] rfl rfl rfl hl.1 rfl (Nat.le_of_ble_eq_true rfl) dX10_leastIn_16 ⟨Nat.le_of_ble_eq_true rfl, Nat.le_of_ble_eq_true rfl⟩) hP hD hS hA [] [0, 1] rfl rfl rfl (by decide) (fun r_121 w H locs hw hP hD hS => ?_)
                obtain ⟨br_121, er_121, et_122, rfl⟩ := hw
                have hP : va_P V.1 vwCl [(z 0, .inr (10, mo z pz0_0 pz0_5 pz0_6 pz0_7 pz0_8 pz0_9 pz0_10 pz0_11 pz0_12 pz0_13 pz0_14 pz0_18 pz0_19 pz0_22 pz0_23 pz0_29)), (z 1, aI V 3075 fz1)] H := hP
                have hD := cpD hP hD
                refine lv_iload_n hx hb dX10_leastIn_19 rfl (lv_at hl 1 rfl) ?_
                refine lv_icmp_ge (tgt := 31) hx hb dX10_leastIn_20 (by decide) (fun c_123 => ?_) (fun c_123 => ?_)
                · refine lv_iload_n hx hb dX10_leastIn_31 rfl (lv_at hl 1 rfl) ?_
                  refine lv_istore_n (lv' := [(2, .int r_99), (3, .int 3), (0, .ref (z 0)), (1, .int a1)]) hx hb dX10_leastIn_32 rfl hl (by decide) rfl (fun ls hl => ?_)
                  refine lv_iinc (v := 4) (lv' := [(3, .int 4), (2, .int r_99), (0, .ref (z 0)), (1, .int a1)]) hx hb dX10_leastIn_33 hl (k := 1) rfl (by decide +kernel) (by decide) rfl (fun ls hl => ?_)
                  refine lv_goto (tgt := 4) hx hb dX10_leastIn_36 (by decide) ?_
                  refine lv_iload_n hx hb dX10_leastIn_4 rfl (lv_at hl 0 rfl) ?_
                  refine lv_aload_n hx hb dX10_leastIn_5 rfl (lv_at hl 2 rfl) ?_
                  refine va_get (ci := 10) (v := .ref (z 1)) (C := RX10) (T := TX10) (N := 40) hx hb hg inX10 hown hK hP 0 rfl rfl 1 (by decide) (hg _ q_5_225) (fun _ h9 => h9) rfl dX10_leastIn_6 ?_
                  refine lv_iconst (v := 1) hx hb dX10_leastIn_9 (by decide) ?_
                  refine va_iald hx hb hK hP 1 0 rfl rfl (vin (by decide +kernel)) dX10_leastIn_10 ?_
                  refine tpi (y := x_1) ex_1.symm ?_
                  refine lv_icmp_ge (tgt := 39) hx hb dX10_leastIn_11 (by decide) (fun _ => ?_) (fun c_124 => absurd (iv_le b_120 (iv_c (4 : Int32) (a := 4) (b := 4) (by decide)) (by decide)) c_124)
                  refine lv_iload_n hx hb dX10_leastIn_39 rfl (lv_at hl 1 rfl) ?_
                  exact fiI hx hb hr hlk hK hP hD hS dX10_leastIn_40 (Nat.le_of_ble_eq_true rfl) (Nat.le_of_ble_eq_true rfl) (⟨(iv_w b_114 (by decide)), (by rw [lsF_4 (show fz1 1 = 4 from (ex_1.symm.trans (iv_eqp b_120 (iv_c (4 : Int32) (by decide))))), ← er_5, mn_t (Int32.not_le.mp c_7), ← er_93, mn_f (Int32.not_lt.mpr c_95), ← er_99, mn_t (Int32.not_le.mp c_101), ← er_121, mn_f (Int32.not_lt.mpr c_123)]), rfl⟩)
                · have b_125 : iv 0 1 r_121 := iv_l1 (Int32.not_le.mp c_123) br_121 b_114 (by decide)
                  have b_126 : iv 1 2 r_99 := iv_l2 (Int32.not_le.mp c_123) br_121 b_114 (by decide)
                  refine lv_iload_n hx hb dX10_leastIn_23 rfl (lv_at hl 3 rfl) ?_
                  refine lv_iload_n hx hb dX10_leastIn_24 rfl (lv_at hl 0 rfl) ?_
                  refine jnI (wr := [(z 0, .inr (10, mo z pz0_0 pz0_5 pz0_6 pz0_7 pz0_8 pz0_9 pz0_10 pz0_11 pz0_12 pz0_13 pz0_14 pz0_18 pz0_19 pz0_22 pz0_23 pz0_29)), (z 1, aI V 3075 fz1)]) (rnS (rest := []) ⟨hx, hb, hml, hown, hg⟩ (k_X10_stackIn_0 l V a1 3 ba1 (iv_c (3 : Int32) (by decide))) mt_X10_stackIn q_7_26 ⟨Nat.le_of_ble_eq_true rfl, Nat.le_of_ble_eq_true rfl⟩ hK hP hD hS hA hE [] rfl rfl rfl hl.1 rfl (Nat.le_of_ble_eq_true rfl) dX10_leastIn_25 ⟨Nat.le_of_ble_eq_true rfl, Nat.le_of_ble_eq_true rfl⟩) hP hD hS hA [] [0, 1] rfl rfl rfl (by decide) (fun r_127 w H locs hw hP hD hS => ?_)
                  obtain ⟨br_127, er_127, et_128, rfl⟩ := hw
                  have e9_r_127 : r_127 = r_121 := er_127.trans er_121.symm
                  rw [e9_r_127]
                  have hP : va_P V.1 vwCl [(z 0, .inr (10, mo z pz0_0 pz0_5 pz0_6 pz0_7 pz0_8 pz0_9 pz0_10 pz0_11 pz0_12 pz0_13 pz0_14 pz0_18 pz0_19 pz0_22 pz0_23 pz0_29)), (z 1, aI V 3075 fz1)] H := hP
                  have hD := cpD hP hD
                  refine lv_goto (tgt := 32) hx hb dX10_leastIn_28 (by decide) ?_
                  refine lv_istore_n (lv' := [(2, .int r_121), (3, .int 3), (0, .ref (z 0)), (1, .int a1)]) hx hb dX10_leastIn_32 rfl hl (by decide) rfl (fun ls hl => ?_)
                  refine lv_iinc (v := 4) (lv' := [(3, .int 4), (2, .int r_121), (0, .ref (z 0)), (1, .int a1)]) hx hb dX10_leastIn_33 hl (k := 1) rfl (by decide +kernel) (by decide) rfl (fun ls hl => ?_)
                  refine lv_goto (tgt := 4) hx hb dX10_leastIn_36 (by decide) ?_
                  refine lv_iload_n hx hb dX10_leastIn_4 rfl (lv_at hl 0 rfl) ?_
                  refine lv_aload_n hx hb dX10_leastIn_5 rfl (lv_at hl 2 rfl) ?_
                  refine va_get (ci := 10) (v := .ref (z 1)) (C := RX10) (T := TX10) (N := 40) hx hb hg inX10 hown hK hP 0 rfl rfl 1 (by decide) (hg _ q_5_225) (fun _ h9 => h9) rfl dX10_leastIn_6 ?_
                  refine lv_iconst (v := 1) hx hb dX10_leastIn_9 (by decide) ?_
                  refine va_iald hx hb hK hP 1 0 rfl rfl (vin (by decide +kernel)) dX10_leastIn_10 ?_
                  refine tpi (y := x_1) ex_1.symm ?_
                  refine lv_icmp_ge (tgt := 39) hx hb dX10_leastIn_11 (by decide) (fun _ => ?_) (fun c_129 => absurd (iv_le b_120 (iv_c (4 : Int32) (a := 4) (b := 4) (by decide)) (by decide)) c_129)
                  refine lv_iload_n hx hb dX10_leastIn_39 rfl (lv_at hl 1 rfl) ?_
                  exact fiI hx hb hr hlk hK hP hD hS dX10_leastIn_40 (Nat.le_of_ble_eq_true rfl) (Nat.le_of_ble_eq_true rfl) (⟨(iv_w b_125 (by decide)), (by rw [lsF_4 (show fz1 1 = 4 from (ex_1.symm.trans (iv_eqp b_120 (iv_c (4 : Int32) (by decide))))), ← er_5, mn_t (Int32.not_le.mp c_7), ← er_93, mn_f (Int32.not_lt.mpr c_95), ← er_99, mn_t (Int32.not_le.mp c_101), ← er_121, mn_t (Int32.not_le.mp c_123)]), rfl⟩)
        · have b_130 : iv 0 2 r_93 := iv_l1 (Int32.not_le.mp c_95) br_93 b_87 (by decide)
          have b_131 : iv 1 3 r_5 := iv_l2 (Int32.not_le.mp c_95) br_93 b_87 (by decide)
          refine lv_iload_n hx hb dX10_leastIn_23 rfl (lv_at hl 3 rfl) ?_
          refine lv_iload_n hx hb dX10_leastIn_24 rfl (lv_at hl 0 rfl) ?_
          refine jnI (wr := [(z 0, .inr (10, mo z pz0_0 pz0_5 pz0_6 pz0_7 pz0_8 pz0_9 pz0_10 pz0_11 pz0_12 pz0_13 pz0_14 pz0_18 pz0_19 pz0_22 pz0_23 pz0_29)), (z 1, aI V 3075 fz1)]) (rnS (rest := []) ⟨hx, hb, hml, hown, hg⟩ (k_X10_stackIn_0 l V a1 1 ba1 (iv_c (1 : Int32) (by decide))) mt_X10_stackIn q_7_26 ⟨Nat.le_of_ble_eq_true rfl, Nat.le_of_ble_eq_true rfl⟩ hK hP hD hS hA hE [] rfl rfl rfl hl.1 rfl (Nat.le_of_ble_eq_true rfl) dX10_leastIn_25 ⟨Nat.le_of_ble_eq_true rfl, Nat.le_of_ble_eq_true rfl⟩) hP hD hS hA [] [0, 1] rfl rfl rfl (by decide) (fun r_132 w H locs hw hP hD hS => ?_)
          obtain ⟨br_132, er_132, et_133, rfl⟩ := hw
          have e9_r_132 : r_132 = r_93 := er_132.trans er_93.symm
          rw [e9_r_132]
          have hP : va_P V.1 vwCl [(z 0, .inr (10, mo z pz0_0 pz0_5 pz0_6 pz0_7 pz0_8 pz0_9 pz0_10 pz0_11 pz0_12 pz0_13 pz0_14 pz0_18 pz0_19 pz0_22 pz0_23 pz0_29)), (z 1, aI V 3075 fz1)] H := hP
          have hD := cpD hP hD
          refine lv_goto (tgt := 32) hx hb dX10_leastIn_28 (by decide) ?_
          refine lv_istore_n (lv' := [(2, .int r_93), (3, .int 1), (0, .ref (z 0)), (1, .int a1)]) hx hb dX10_leastIn_32 rfl hl (by decide) rfl (fun ls hl => ?_)
          refine lv_iinc (v := 2) (lv' := [(3, .int 2), (2, .int r_93), (0, .ref (z 0)), (1, .int a1)]) hx hb dX10_leastIn_33 hl (k := 1) rfl (by decide +kernel) (by decide) rfl (fun ls hl => ?_)
          refine lv_goto (tgt := 4) hx hb dX10_leastIn_36 (by decide) ?_
          refine lv_iload_n hx hb dX10_leastIn_4 rfl (lv_at hl 0 rfl) ?_
          refine lv_aload_n hx hb dX10_leastIn_5 rfl (lv_at hl 2 rfl) ?_
          refine va_get (ci := 10) (v := .ref (z 1)) (C := RX10) (T := TX10) (N := 40) hx hb hg inX10 hown hK hP 0 rfl rfl 1 (by decide) (hg _ q_5_225) (fun _ h9 => h9) rfl dX10_leastIn_6 ?_
          refine lv_iconst (v := 1) hx hb dX10_leastIn_9 (by decide) ?_
          refine va_iald hx hb hK hP 1 0 rfl rfl (vin (by decide +kernel)) dX10_leastIn_10 ?_
          refine tpi (y := x_1) ex_1.symm ?_
          refine lv_icmp_ge (tgt := 39) hx hb dX10_leastIn_11 (by decide) (fun c_134 => ?_) (fun c_134 => ?_)
          · have b_135 : iv 2 2 x_1 := iv_e1 c_134 b_92 (iv_c (2 : Int32) (a := 2) (b := 2) (by decide)) (by decide)
            refine lv_iload_n hx hb dX10_leastIn_39 rfl (lv_at hl 1 rfl) ?_
            exact fiI hx hb hr hlk hK hP hD hS dX10_leastIn_40 (Nat.le_of_ble_eq_true rfl) (Nat.le_of_ble_eq_true rfl) (⟨(iv_w b_130 (by decide)), (by rw [lsF_2 (show fz1 1 = 2 from (ex_1.symm.trans (iv_eqp b_135 (iv_c (2 : Int32) (by decide))))), ← er_5, mn_t (Int32.not_le.mp c_7), ← er_93, mn_t (Int32.not_le.mp c_95)]), rfl⟩)
          · have b_136 : iv 3 4 x_1 := iv_l2 (Int32.not_le.mp c_134) (iv_c (2 : Int32) (a := 2) (b := 2) (by decide)) b_92 (by decide)
            refine lv_iload_n hx hb dX10_leastIn_14 rfl (lv_at hl 3 rfl) ?_
            refine lv_iload_n hx hb dX10_leastIn_15 rfl (lv_at hl 0 rfl) ?_
            refine jnI (wr := [(z 0, .inr (10, mo z pz0_0 pz0_5 pz0_6 pz0_7 pz0_8 pz0_9 pz0_10 pz0_11 pz0_12 pz0_13 pz0_14 pz0_18 pz0_19 pz0_22 pz0_23 pz0_29)), (z 1, aI V 3075 fz1)]) (rnS (rest := []) ⟨hx, hb, hml, hown, hg⟩ (k_X10_stackIn_0 l V a1 2 ba1 (iv_c (2 : Int32) (by decide))) mt_X10_stackIn q_7_26 ⟨Nat.le_of_ble_eq_true rfl, Nat.le_of_ble_eq_true rfl⟩ hK hP hD hS hA hE [] rfl rfl rfl hl.1 rfl (Nat.le_of_ble_eq_true rfl) dX10_leastIn_16 ⟨Nat.le_of_ble_eq_true rfl, Nat.le_of_ble_eq_true rfl⟩) hP hD hS hA [] [0, 1] rfl rfl rfl (by decide) (fun r_137 w H locs hw hP hD hS => ?_)
            obtain ⟨br_137, er_137, et_138, rfl⟩ := hw
            have hP : va_P V.1 vwCl [(z 0, .inr (10, mo z pz0_0 pz0_5 pz0_6 pz0_7 pz0_8 pz0_9 pz0_10 pz0_11 pz0_12 pz0_13 pz0_14 pz0_18 pz0_19 pz0_22 pz0_23 pz0_29)), (z 1, aI V 3075 fz1)] H := hP
            have hD := cpD hP hD
            refine lv_iload_n hx hb dX10_leastIn_19 rfl (lv_at hl 1 rfl) ?_
            refine lv_icmp_ge (tgt := 31) hx hb dX10_leastIn_20 (by decide) (fun c_139 => ?_) (fun c_139 => ?_)
            · refine lv_iload_n hx hb dX10_leastIn_31 rfl (lv_at hl 1 rfl) ?_
              refine lv_istore_n (lv' := [(2, .int r_93), (3, .int 2), (0, .ref (z 0)), (1, .int a1)]) hx hb dX10_leastIn_32 rfl hl (by decide) rfl (fun ls hl => ?_)
              refine lv_iinc (v := 3) (lv' := [(3, .int 3), (2, .int r_93), (0, .ref (z 0)), (1, .int a1)]) hx hb dX10_leastIn_33 hl (k := 1) rfl (by decide +kernel) (by decide) rfl (fun ls hl => ?_)
              refine lv_goto (tgt := 4) hx hb dX10_leastIn_36 (by decide) ?_
              refine lv_iload_n hx hb dX10_leastIn_4 rfl (lv_at hl 0 rfl) ?_
              refine lv_aload_n hx hb dX10_leastIn_5 rfl (lv_at hl 2 rfl) ?_
              refine va_get (ci := 10) (v := .ref (z 1)) (C := RX10) (T := TX10) (N := 40) hx hb hg inX10 hown hK hP 0 rfl rfl 1 (by decide) (hg _ q_5_225) (fun _ h9 => h9) rfl dX10_leastIn_6 ?_
              refine lv_iconst (v := 1) hx hb dX10_leastIn_9 (by decide) ?_
              refine va_iald hx hb hK hP 1 0 rfl rfl (vin (by decide +kernel)) dX10_leastIn_10 ?_
              refine tpi (y := x_1) ex_1.symm ?_
              refine lv_icmp_ge (tgt := 39) hx hb dX10_leastIn_11 (by decide) (fun c_140 => ?_) (fun c_140 => ?_)
              · have b_141 : iv 3 3 x_1 := iv_e1 c_140 b_136 (iv_c (3 : Int32) (a := 3) (b := 3) (by decide)) (by decide)
                refine lv_iload_n hx hb dX10_leastIn_39 rfl (lv_at hl 1 rfl) ?_
                exact fiI hx hb hr hlk hK hP hD hS dX10_leastIn_40 (Nat.le_of_ble_eq_true rfl) (Nat.le_of_ble_eq_true rfl) (⟨(iv_w b_130 (by decide)), (by rw [lsF_3 (show fz1 1 = 3 from (ex_1.symm.trans (iv_eqp b_141 (iv_c (3 : Int32) (by decide))))), ← er_5, mn_t (Int32.not_le.mp c_7), ← er_93, mn_t (Int32.not_le.mp c_95), ← er_137, mn_f (Int32.not_lt.mpr c_139)]), rfl⟩)
              · have b_142 : iv 4 4 x_1 := iv_l2 (Int32.not_le.mp c_140) (iv_c (3 : Int32) (a := 3) (b := 3) (by decide)) b_136 (by decide)
                refine lv_iload_n hx hb dX10_leastIn_14 rfl (lv_at hl 3 rfl) ?_
                refine lv_iload_n hx hb dX10_leastIn_15 rfl (lv_at hl 0 rfl) ?_
                refine jnI (wr := [(z 0, .inr (10, mo z pz0_0 pz0_5 pz0_6 pz0_7 pz0_8 pz0_9 pz0_10 pz0_11 pz0_12 pz0_13 pz0_14 pz0_18 pz0_19 pz0_22 pz0_23 pz0_29)), (z 1, aI V 3075 fz1)]) (rnS (rest := []) ⟨hx, hb, hml, hown, hg⟩ (k_X10_stackIn_0 l V a1 3 ba1 (iv_c (3 : Int32) (by decide))) mt_X10_stackIn q_7_26 ⟨Nat.le_of_ble_eq_true rfl, Nat.le_of_ble_eq_true rfl⟩ hK hP hD hS hA hE [] rfl rfl rfl hl.1 rfl (Nat.le_of_ble_eq_true rfl) dX10_leastIn_16 ⟨Nat.le_of_ble_eq_true rfl, Nat.le_of_ble_eq_true rfl⟩) hP hD hS hA [] [0, 1] rfl rfl rfl (by decide) (fun r_143 w H locs hw hP hD hS => ?_)
                obtain ⟨br_143, er_143, et_144, rfl⟩ := hw
                have hP : va_P V.1 vwCl [(z 0, .inr (10, mo z pz0_0 pz0_5 pz0_6 pz0_7 pz0_8 pz0_9 pz0_10 pz0_11 pz0_12 pz0_13 pz0_14 pz0_18 pz0_19 pz0_22 pz0_23 pz0_29)), (z 1, aI V 3075 fz1)] H := hP
                have hD := cpD hP hD
                refine lv_iload_n hx hb dX10_leastIn_19 rfl (lv_at hl 1 rfl) ?_
                refine lv_icmp_ge (tgt := 31) hx hb dX10_leastIn_20 (by decide) (fun c_145 => ?_) (fun c_145 => ?_)
                · refine lv_iload_n hx hb dX10_leastIn_31 rfl (lv_at hl 1 rfl) ?_
                  refine lv_istore_n (lv' := [(2, .int r_93), (3, .int 3), (0, .ref (z 0)), (1, .int a1)]) hx hb dX10_leastIn_32 rfl hl (by decide) rfl (fun ls hl => ?_)
                  refine lv_iinc (v := 4) (lv' := [(3, .int 4), (2, .int r_93), (0, .ref (z 0)), (1, .int a1)]) hx hb dX10_leastIn_33 hl (k := 1) rfl (by decide +kernel) (by decide) rfl (fun ls hl => ?_)
                  refine lv_goto (tgt := 4) hx hb dX10_leastIn_36 (by decide) ?_
                  refine lv_iload_n hx hb dX10_leastIn_4 rfl (lv_at hl 0 rfl) ?_
                  refine lv_aload_n hx hb dX10_leastIn_5 rfl (lv_at hl 2 rfl) ?_
                  refine va_get (ci := 10) (v := .ref (z 1)) (C := RX10) (T := TX10) (N := 40) hx hb hg inX10 hown hK hP 0 rfl rfl 1 (by decide) (hg _ q_5_225) (fun _ h9 => h9) rfl dX10_leastIn_6 ?_
                  refine lv_iconst (v := 1) hx hb dX10_leastIn_9 (by decide) ?_
                  refine va_iald hx hb hK hP 1 0 rfl rfl (vin (by decide +kernel)) dX10_leastIn_10 ?_
                  refine tpi (y := x_1) ex_1.symm ?_
                  refine lv_icmp_ge (tgt := 39) hx hb dX10_leastIn_11 (by decide) (fun _ => ?_) (fun c_146 => absurd (iv_le b_142 (iv_c (4 : Int32) (a := 4) (b := 4) (by decide)) (by decide)) c_146)
                  refine lv_iload_n hx hb dX10_leastIn_39 rfl (lv_at hl 1 rfl) ?_
                  exact fiI hx hb hr hlk hK hP hD hS dX10_leastIn_40 (Nat.le_of_ble_eq_true rfl) (Nat.le_of_ble_eq_true rfl) (⟨(iv_w b_130 (by decide)), (by rw [lsF_4 (show fz1 1 = 4 from (ex_1.symm.trans (iv_eqp b_142 (iv_c (4 : Int32) (by decide))))), ← er_5, mn_t (Int32.not_le.mp c_7), ← er_93, mn_t (Int32.not_le.mp c_95), ← er_137, mn_f (Int32.not_lt.mpr c_139), ← er_143, mn_f (Int32.not_lt.mpr c_145)]), rfl⟩)
                · have b_147 : iv 0 1 r_143 := iv_l1 (Int32.not_le.mp c_145) br_143 b_130 (by decide)
                  have b_148 : iv 1 2 r_93 := iv_l2 (Int32.not_le.mp c_145) br_143 b_130 (by decide)
                  refine lv_iload_n hx hb dX10_leastIn_23 rfl (lv_at hl 3 rfl) ?_
                  refine lv_iload_n hx hb dX10_leastIn_24 rfl (lv_at hl 0 rfl) ?_
                  refine jnI (wr := [(z 0, .inr (10, mo z pz0_0 pz0_5 pz0_6 pz0_7 pz0_8 pz0_9 pz0_10 pz0_11 pz0_12 pz0_13 pz0_14 pz0_18 pz0_19 pz0_22 pz0_23 pz0_29)), (z 1, aI V 3075 fz1)]) (rnS (rest := []) ⟨hx, hb, hml, hown, hg⟩ (k_X10_stackIn_0 l V a1 3 ba1 (iv_c (3 : Int32) (by decide))) mt_X10_stackIn q_7_26 ⟨Nat.le_of_ble_eq_true rfl, Nat.le_of_ble_eq_true rfl⟩ hK hP hD hS hA hE [] rfl rfl rfl hl.1 rfl (Nat.le_of_ble_eq_true rfl) dX10_leastIn_25 ⟨Nat.le_of_ble_eq_true rfl, Nat.le_of_ble_eq_true rfl⟩) hP hD hS hA [] [0, 1] rfl rfl rfl (by decide) (fun r_149 w H locs hw hP hD hS => ?_)
                  obtain ⟨br_149, er_149, et_150, rfl⟩ := hw
                  have e9_r_149 : r_149 = r_143 := er_149.trans er_143.symm
                  rw [e9_r_149]
                  have hP : va_P V.1 vwCl [(z 0, .inr (10, mo z pz0_0 pz0_5 pz0_6 pz0_7 pz0_8 pz0_9 pz0_10 pz0_11 pz0_12 pz0_13 pz0_14 pz0_18 pz0_19 pz0_22 pz0_23 pz0_29)), (z 1, aI V 3075 fz1)] H := hP
                  have hD := cpD hP hD
                  refine lv_goto (tgt := 32) hx hb dX10_leastIn_28 (by decide) ?_
                  refine lv_istore_n (lv' := [(2, .int r_143), (3, .int 3), (0, .ref (z 0)), (1, .int a1)]) hx hb dX10_leastIn_32 rfl hl (by decide) rfl (fun ls hl => ?_)
                  refine lv_iinc (v := 4) (lv' := [(3, .int 4), (2, .int r_143), (0, .ref (z 0)), (1, .int a1)]) hx hb dX10_leastIn_33 hl (k := 1) rfl (by decide +kernel) (by decide) rfl (fun ls hl => ?_)
                  refine lv_goto (tgt := 4) hx hb dX10_leastIn_36 (by decide) ?_
                  refine lv_iload_n hx hb dX10_leastIn_4 rfl (lv_at hl 0 rfl) ?_
                  refine lv_aload_n hx hb dX10_leastIn_5 rfl (lv_at hl 2 rfl) ?_
                  refine va_get (ci := 10) (v := .ref (z 1)) (C := RX10) (T := TX10) (N := 40) hx hb hg inX10 hown hK hP 0 rfl rfl 1 (by decide) (hg _ q_5_225) (fun _ h9 => h9) rfl dX10_leastIn_6 ?_
                  refine lv_iconst (v := 1) hx hb dX10_leastIn_9 (by decide) ?_
                  refine va_iald hx hb hK hP 1 0 rfl rfl (vin (by decide +kernel)) dX10_leastIn_10 ?_
                  refine tpi (y := x_1) ex_1.symm ?_
                  refine lv_icmp_ge (tgt := 39) hx hb dX10_leastIn_11 (by decide) (fun _ => ?_) (fun c_151 => absurd (iv_le b_142 (iv_c (4 : Int32) (a := 4) (b := 4) (by decide)) (by decide)) c_151)
                  refine lv_iload_n hx hb dX10_leastIn_39 rfl (lv_at hl 1 rfl) ?_
                  exact fiI hx hb hr hlk hK hP hD hS dX10_leastIn_40 (Nat.le_of_ble_eq_true rfl) (Nat.le_of_ble_eq_true rfl) (⟨(iv_w b_147 (by decide)), (by rw [lsF_4 (show fz1 1 = 4 from (ex_1.symm.trans (iv_eqp b_142 (iv_c (4 : Int32) (by decide))))), ← er_5, mn_t (Int32.not_le.mp c_7), ← er_93, mn_t (Int32.not_le.mp c_95), ← er_137, mn_f (Int32.not_lt.mpr c_139), ← er_143, mn_t (Int32.not_le.mp c_145)]), rfl⟩)
            · have b_152 : iv 0 1 r_137 := iv_l1 (Int32.not_le.mp c_139) br_137 b_130 (by decide)
              have b_153 : iv 1 2 r_93 := iv_l2 (Int32.not_le.mp c_139) br_137 b_130 (by decide)
              refine lv_iload_n hx hb dX10_leastIn_23 rfl (lv_at hl 3 rfl) ?_
              refine lv_iload_n hx hb dX10_leastIn_24 rfl (lv_at hl 0 rfl) ?_
              refine jnI (wr := [(z 0, .inr (10, mo z pz0_0 pz0_5 pz0_6 pz0_7 pz0_8 pz0_9 pz0_10 pz0_11 pz0_12 pz0_13 pz0_14 pz0_18 pz0_19 pz0_22 pz0_23 pz0_29)), (z 1, aI V 3075 fz1)]) (rnS (rest := []) ⟨hx, hb, hml, hown, hg⟩ (k_X10_stackIn_0 l V a1 2 ba1 (iv_c (2 : Int32) (by decide))) mt_X10_stackIn q_7_26 ⟨Nat.le_of_ble_eq_true rfl, Nat.le_of_ble_eq_true rfl⟩ hK hP hD hS hA hE [] rfl rfl rfl hl.1 rfl (Nat.le_of_ble_eq_true rfl) dX10_leastIn_25 ⟨Nat.le_of_ble_eq_true rfl, Nat.le_of_ble_eq_true rfl⟩) hP hD hS hA [] [0, 1] rfl rfl rfl (by decide) (fun r_154 w H locs hw hP hD hS => ?_)
              obtain ⟨br_154, er_154, et_155, rfl⟩ := hw
              have e9_r_154 : r_154 = r_137 := er_154.trans er_137.symm
              rw [e9_r_154]
              have hP : va_P V.1 vwCl [(z 0, .inr (10, mo z pz0_0 pz0_5 pz0_6 pz0_7 pz0_8 pz0_9 pz0_10 pz0_11 pz0_12 pz0_13 pz0_14 pz0_18 pz0_19 pz0_22 pz0_23 pz0_29)), (z 1, aI V 3075 fz1)] H := hP
              have hD := cpD hP hD
              refine lv_goto (tgt := 32) hx hb dX10_leastIn_28 (by decide) ?_
              refine lv_istore_n (lv' := [(2, .int r_137), (3, .int 2), (0, .ref (z 0)), (1, .int a1)]) hx hb dX10_leastIn_32 rfl hl (by decide) rfl (fun ls hl => ?_)
              refine lv_iinc (v := 3) (lv' := [(3, .int 3), (2, .int r_137), (0, .ref (z 0)), (1, .int a1)]) hx hb dX10_leastIn_33 hl (k := 1) rfl (by decide +kernel) (by decide) rfl (fun ls hl => ?_)
              refine lv_goto (tgt := 4) hx hb dX10_leastIn_36 (by decide) ?_
              refine lv_iload_n hx hb dX10_leastIn_4 rfl (lv_at hl 0 rfl) ?_
              refine lv_aload_n hx hb dX10_leastIn_5 rfl (lv_at hl 2 rfl) ?_
              refine va_get (ci := 10) (v := .ref (z 1)) (C := RX10) (T := TX10) (N := 40) hx hb hg inX10 hown hK hP 0 rfl rfl 1 (by decide) (hg _ q_5_225) (fun _ h9 => h9) rfl dX10_leastIn_6 ?_
              refine lv_iconst (v := 1) hx hb dX10_leastIn_9 (by decide) ?_
              refine va_iald hx hb hK hP 1 0 rfl rfl (vin (by decide +kernel)) dX10_leastIn_10 ?_
              refine tpi (y := x_1) ex_1.symm ?_
              refine lv_icmp_ge (tgt := 39) hx hb dX10_leastIn_11 (by decide) (fun c_156 => ?_) (fun c_156 => ?_)
              · have b_157 : iv 3 3 x_1 := iv_e1 c_156 b_136 (iv_c (3 : Int32) (a := 3) (b := 3) (by decide)) (by decide)
                refine lv_iload_n hx hb dX10_leastIn_39 rfl (lv_at hl 1 rfl) ?_
                exact fiI hx hb hr hlk hK hP hD hS dX10_leastIn_40 (Nat.le_of_ble_eq_true rfl) (Nat.le_of_ble_eq_true rfl) (⟨(iv_w b_152 (by decide)), (by rw [lsF_3 (show fz1 1 = 3 from (ex_1.symm.trans (iv_eqp b_157 (iv_c (3 : Int32) (by decide))))), ← er_5, mn_t (Int32.not_le.mp c_7), ← er_93, mn_t (Int32.not_le.mp c_95), ← er_137, mn_t (Int32.not_le.mp c_139)]), rfl⟩)
              · have b_158 : iv 4 4 x_1 := iv_l2 (Int32.not_le.mp c_156) (iv_c (3 : Int32) (a := 3) (b := 3) (by decide)) b_136 (by decide)
                refine lv_iload_n hx hb dX10_leastIn_14 rfl (lv_at hl 3 rfl) ?_
                refine lv_iload_n hx hb dX10_leastIn_15 rfl (lv_at hl 0 rfl) ?_
                refine jnI (wr := [(z 0, .inr (10, mo z pz0_0 pz0_5 pz0_6 pz0_7 pz0_8 pz0_9 pz0_10 pz0_11 pz0_12 pz0_13 pz0_14 pz0_18 pz0_19 pz0_22 pz0_23 pz0_29)), (z 1, aI V 3075 fz1)]) (rnS (rest := []) ⟨hx, hb, hml, hown, hg⟩ (k_X10_stackIn_0 l V a1 3 ba1 (iv_c (3 : Int32) (by decide))) mt_X10_stackIn q_7_26 ⟨Nat.le_of_ble_eq_true rfl, Nat.le_of_ble_eq_true rfl⟩ hK hP hD hS hA hE [] rfl rfl rfl hl.1 rfl (Nat.le_of_ble_eq_true rfl) dX10_leastIn_16 ⟨Nat.le_of_ble_eq_true rfl, Nat.le_of_ble_eq_true rfl⟩) hP hD hS hA [] [0, 1] rfl rfl rfl (by decide) (fun r_159 w H locs hw hP hD hS => ?_)
                obtain ⟨br_159, er_159, et_160, rfl⟩ := hw
                have hP : va_P V.1 vwCl [(z 0, .inr (10, mo z pz0_0 pz0_5 pz0_6 pz0_7 pz0_8 pz0_9 pz0_10 pz0_11 pz0_12 pz0_13 pz0_14 pz0_18 pz0_19 pz0_22 pz0_23 pz0_29)), (z 1, aI V 3075 fz1)] H := hP
                have hD := cpD hP hD
                refine lv_iload_n hx hb dX10_leastIn_19 rfl (lv_at hl 1 rfl) ?_
                refine lv_icmp_ge (tgt := 31) hx hb dX10_leastIn_20 (by decide) (fun c_161 => ?_) (fun c_161 => ?_)
                · refine lv_iload_n hx hb dX10_leastIn_31 rfl (lv_at hl 1 rfl) ?_
                  refine lv_istore_n (lv' := [(2, .int r_137), (3, .int 3), (0, .ref (z 0)), (1, .int a1)]) hx hb dX10_leastIn_32 rfl hl (by decide) rfl (fun ls hl => ?_)
                  refine lv_iinc (v := 4) (lv' := [(3, .int 4), (2, .int r_137), (0, .ref (z 0)), (1, .int a1)]) hx hb dX10_leastIn_33 hl (k := 1) rfl (by decide +kernel) (by decide) rfl (fun ls hl => ?_)
                  refine lv_goto (tgt := 4) hx hb dX10_leastIn_36 (by decide) ?_
                  refine lv_iload_n hx hb dX10_leastIn_4 rfl (lv_at hl 0 rfl) ?_
                  refine lv_aload_n hx hb dX10_leastIn_5 rfl (lv_at hl 2 rfl) ?_
                  refine va_get (ci := 10) (v := .ref (z 1)) (C := RX10) (T := TX10) (N := 40) hx hb hg inX10 hown hK hP 0 rfl rfl 1 (by decide) (hg _ q_5_225) (fun _ h9 => h9) rfl dX10_leastIn_6 ?_
                  refine lv_iconst (v := 1) hx hb dX10_leastIn_9 (by decide) ?_
                  refine va_iald hx hb hK hP 1 0 rfl rfl (vin (by decide +kernel)) dX10_leastIn_10 ?_
                  refine tpi (y := x_1) ex_1.symm ?_
                  refine lv_icmp_ge (tgt := 39) hx hb dX10_leastIn_11 (by decide) (fun _ => ?_) (fun c_162 => absurd (iv_le b_158 (iv_c (4 : Int32) (a := 4) (b := 4) (by decide)) (by decide)) c_162)
                  refine lv_iload_n hx hb dX10_leastIn_39 rfl (lv_at hl 1 rfl) ?_
                  exact fiI hx hb hr hlk hK hP hD hS dX10_leastIn_40 (Nat.le_of_ble_eq_true rfl) (Nat.le_of_ble_eq_true rfl) (⟨(iv_w b_152 (by decide)), (by rw [lsF_4 (show fz1 1 = 4 from (ex_1.symm.trans (iv_eqp b_158 (iv_c (4 : Int32) (by decide))))), ← er_5, mn_t (Int32.not_le.mp c_7), ← er_93, mn_t (Int32.not_le.mp c_95), ← er_137, mn_t (Int32.not_le.mp c_139), ← er_159, mn_f (Int32.not_lt.mpr c_161)]), rfl⟩)
                · have b_163 : iv 0 0 r_159 := iv_l1 (Int32.not_le.mp c_161) br_159 b_152 (by decide)
                  have b_164 : iv 1 1 r_137 := iv_l2 (Int32.not_le.mp c_161) br_159 b_152 (by decide)
                  refine lv_iload_n hx hb dX10_leastIn_23 rfl (lv_at hl 3 rfl) ?_
                  refine lv_iload_n hx hb dX10_leastIn_24 rfl (lv_at hl 0 rfl) ?_
                  refine jnI (wr := [(z 0, .inr (10, mo z pz0_0 pz0_5 pz0_6 pz0_7 pz0_8 pz0_9 pz0_10 pz0_11 pz0_12 pz0_13 pz0_14 pz0_18 pz0_19 pz0_22 pz0_23 pz0_29)), (z 1, aI V 3075 fz1)]) (rnS (rest := []) ⟨hx, hb, hml, hown, hg⟩ (k_X10_stackIn_0 l V a1 3 ba1 (iv_c (3 : Int32) (by decide))) mt_X10_stackIn q_7_26 ⟨Nat.le_of_ble_eq_true rfl, Nat.le_of_ble_eq_true rfl⟩ hK hP hD hS hA hE [] rfl rfl rfl hl.1 rfl (Nat.le_of_ble_eq_true rfl) dX10_leastIn_25 ⟨Nat.le_of_ble_eq_true rfl, Nat.le_of_ble_eq_true rfl⟩) hP hD hS hA [] [0, 1] rfl rfl rfl (by decide) (fun r_165 w H locs hw hP hD hS => ?_)
                  obtain ⟨br_165, er_165, et_166, rfl⟩ := hw
                  have e9_r_165 : r_165 = r_159 := er_165.trans er_159.symm
                  rw [e9_r_165]
                  have hP : va_P V.1 vwCl [(z 0, .inr (10, mo z pz0_0 pz0_5 pz0_6 pz0_7 pz0_8 pz0_9 pz0_10 pz0_11 pz0_12 pz0_13 pz0_14 pz0_18 pz0_19 pz0_22 pz0_23 pz0_29)), (z 1, aI V 3075 fz1)] H := hP
                  have hD := cpD hP hD
                  refine lv_goto (tgt := 32) hx hb dX10_leastIn_28 (by decide) ?_
                  refine lv_istore_n (lv' := [(2, .int r_159), (3, .int 3), (0, .ref (z 0)), (1, .int a1)]) hx hb dX10_leastIn_32 rfl hl (by decide) rfl (fun ls hl => ?_)
                  refine lv_iinc (v := 4) (lv' := [(3, .int 4), (2, .int r_159), (0, .ref (z 0)), (1, .int a1)]) hx hb dX10_leastIn_33 hl (k := 1) rfl (by decide +kernel) (by decide) rfl (fun ls hl => ?_)
                  refine lv_goto (tgt := 4) hx hb dX10_leastIn_36 (by decide) ?_
                  refine lv_iload_n hx hb dX10_leastIn_4 rfl (lv_at hl 0 rfl) ?_
                  refine lv_aload_n hx hb dX10_leastIn_5 rfl (lv_at hl 2 rfl) ?_
                  refine va_get (ci := 10) (v := .ref (z 1)) (C := RX10) (T := TX10) (N := 40) hx hb hg inX10 hown hK hP 0 rfl rfl 1 (by decide) (hg _ q_5_225) (fun _ h9 => h9) rfl dX10_leastIn_6 ?_
                  refine lv_iconst (v := 1) hx hb dX10_leastIn_9 (by decide) ?_
                  refine va_iald hx hb hK hP 1 0 rfl rfl (vin (by decide +kernel)) dX10_leastIn_10 ?_
                  refine tpi (y := x_1) ex_1.symm ?_
                  refine lv_icmp_ge (tgt := 39) hx hb dX10_leastIn_11 (by decide) (fun _ => ?_) (fun c_167 => absurd (iv_le b_158 (iv_c (4 : Int32) (a := 4) (b := 4) (by decide)) (by decide)) c_167)
                  refine lv_iload_n hx hb dX10_leastIn_39 rfl (lv_at hl 1 rfl) ?_
                  exact fiI hx hb hr hlk hK hP hD hS dX10_leastIn_40 (Nat.le_of_ble_eq_true rfl) (Nat.le_of_ble_eq_true rfl) (⟨(iv_w b_163 (by decide)), (by rw [lsF_4 (show fz1 1 = 4 from (ex_1.symm.trans (iv_eqp b_158 (iv_c (4 : Int32) (by decide))))), ← er_5, mn_t (Int32.not_le.mp c_7), ← er_93, mn_t (Int32.not_le.mp c_95), ← er_137, mn_t (Int32.not_le.mp c_139), ← er_159, mn_t (Int32.not_le.mp c_161)]), rfl⟩)
theorem dX10_keptBy_0 : decode cX10_keptBy 0 = .ok (.aload_n 0, 1) := by decide +kernel
theorem dX10_keptBy_1 : decode cX10_keptBy 1 = .ok (.getfield 49, 3) := by decide +kernel
theorem dX10_keptBy_4 : decode cX10_keptBy 4 = .ok (.iconst 4, 1) := by decide +kernel
theorem dX10_keptBy_5 : decode cX10_keptBy 5 = .ok (.iload_n 1, 1) := by decide +kernel
theorem dX10_keptBy_6 : decode cX10_keptBy 6 = .ok (.imul, 1) := by decide +kernel
theorem dX10_keptBy_7 : decode cX10_keptBy 7 = .ok (.iload_n 2, 1) := by decide +kernel
theorem dX10_keptBy_8 : decode cX10_keptBy 8 = .ok (.iadd, 1) := by decide +kernel
theorem dX10_keptBy_9 : decode cX10_keptBy 9 = .ok (.iaload, 1) := by decide +kernel
theorem dX10_keptBy_10 : decode cX10_keptBy 10 = .ok (.istore 4, 2) := by decide +kernel
theorem dX10_keptBy_12 : decode cX10_keptBy 12 = .ok (.iload 4, 2) := by decide +kernel
theorem dX10_keptBy_14 : decode cX10_keptBy 14 = .ok (.iconst (-1), 1) := by decide +kernel
theorem dX10_keptBy_15 : decode cX10_keptBy 15 = .ok (.if_icmp .eq 13, 3) := by decide +kernel
theorem dX10_keptBy_28 : decode cX10_keptBy 28 = .ok (.iconst (-1), 1) := by decide +kernel
theorem dX10_keptBy_29 : decode cX10_keptBy 29 = .ok (.goto 31, 3) := by decide +kernel
theorem dX10_keptBy_60 : decode cX10_keptBy 60 = .ok (.ireturn, 1) := by decide +kernel
theorem dX10_keptBy_18 : decode cX10_keptBy 18 = .ok (.aload_n 0, 1) := by decide +kernel
theorem dX10_keptBy_19 : decode cX10_keptBy 19 = .ok (.iload 4, 2) := by decide +kernel
theorem q_8_3 : Cond.code yX10_leastIn prog_12_method_42_code 4 (some FieldType.int) ∈ gw := gw_8 (i := 3) (rfl) rfl
theorem q_8_2 : Cond.instanceMethod yX10_leastIn ∈ gw := gw_8 (i := 2) (by decide +kernel) rfl
theorem q_s_112 : Cond.selects "BeaconDelayModel" yX10_leastIn yX10_leastIn ∈ gw := gw_s (i := 112) (by decide +kernel) rfl
theorem mt_X10_leastIn : MtV yX10_leastIn cX10_leastIn 4 (some .int) 1 := ⟨⟨q_8_3, q_1_9, by decide +kernel, by decide +kernel, by decide +kernel⟩, q_8_2, q_s_112⟩
theorem q_8_0 : Cond.methodLink "BeaconDelayModel" 396 yX10_leastIn ∈ gw := gw_8 (i := 0) (by decide +kernel) rfl
theorem dX10_keptBy_21 : decode cX10_keptBy 21 = .ok (.invokevirtual 396, 3) := by decide +kernel
theorem dX10_keptBy_24 : decode cX10_keptBy 24 = .ok (.iload_n 3, 1) := by decide +kernel
theorem dX10_keptBy_25 : decode cX10_keptBy 25 = .ok (.if_icmp .ge 7, 3) := by decide +kernel
theorem dX10_keptBy_32 : decode cX10_keptBy 32 = .ok (.aload_n 0, 1) := by decide +kernel
theorem dX10_keptBy_33 : decode cX10_keptBy 33 = .ok (.getfield 52, 3) := by decide +kernel
theorem dX10_keptBy_36 : decode cX10_keptBy 36 = .ok (.iload 4, 2) := by decide +kernel
theorem dX10_keptBy_38 : decode cX10_keptBy 38 = .ok (.iaload, 1) := by decide +kernel
theorem dX10_keptBy_39 : decode cX10_keptBy 39 = .ok (.ldc_w 361, 3) := by decide +kernel
theorem dX10_keptBy_42 : decode cX10_keptBy 42 = .ok (.if_icmp .ne 9, 3) := by decide +kernel
theorem dX10_keptBy_51 : decode cX10_keptBy 51 = .ok (.aload_n 0, 1) := by decide +kernel
theorem dX10_keptBy_52 : decode cX10_keptBy 52 = .ok (.getfield 52, 3) := by decide +kernel
theorem dX10_keptBy_55 : decode cX10_keptBy 55 = .ok (.iload 4, 2) := by decide +kernel
theorem dX10_keptBy_57 : decode cX10_keptBy 57 = .ok (.iaload, 1) := by decide +kernel
theorem dX10_keptBy_58 : decode cX10_keptBy 58 = .ok (.iconst 1, 1) := by decide +kernel
theorem dX10_keptBy_59 : decode cX10_keptBy 59 = .ok (.iadd, 1) := by decide +kernel
theorem dX10_keptBy_45 : decode cX10_keptBy 45 = .ok (.ldc_w 361, 3) := by decide +kernel
theorem dX10_keptBy_48 : decode cX10_keptBy 48 = .ok (.goto 12, 3) := by decide +kernel
set_option maxHeartbeats 4000000 in
set_option maxRecDepth 100000 in
theorem k_X10_keptBy_0 (l : Launch) (V : GV) (z : Nat → Nat) (a1 : Int32) (a2 : Int32) (a3 : Int32) (fz26 : Nat → Int32) (fz25 : Nat → Int32) (pz0_0 : Int32) (pz0_5 : Int32) (pz0_6 : Int32) (pz0_7 : Int32) (pz0_8 : Int32) (pz0_9 : Int32) (pz0_10 : Int32) (pz0_11 : Int32) (pz0_12 : Int32) (pz0_13 : Int32) (pz0_14 : Int32) (pz0_18 : Int32) (pz0_19 : Int32) (pz0_22 : Int32) (pz0_23 : Int32) (pz0_29 : Int32) (fz1 : Nat → Int32) (ba1 : iv 0 9999 a1) (ba2 : iv 0 3 a2) (tfz26 : ∀ j, iv 0 268435456 (fz26 j)) (tfz25 : ∀ j, iv (-1) 9999 (fz25 j)) (bpz0_5 : iv 0 900 pz0_5) (bpz0_6 : iv 0 900 pz0_6) (bpz0_7 : iv 0 900 pz0_7) (bpz0_8 : iv 0 900 pz0_8) (bpz0_10 : iv 0 999 pz0_10) (bpz0_11 : iv 0 4 pz0_11) (bpz0_12 : iv 0 900 pz0_12) (bpz0_13 : iv 0 4 pz0_13) (bpz0_14 : iv (-1) 900 pz0_14) (bpz0_18 : iv 0 2 pz0_18) (bpz0_22 : iv 0 9999 pz0_22) (bpz0_29 : iv 0 10000 pz0_29) (tfz1 : ivT tA fz1) : Ct l V yX10_keptBy (.code yX10_keptBy cX10_keptBy 5 (some .int)) 4 [.ref (z 0), .int a1, .int a2, .int a3] [(z 26, aI V 10000 fz26), (z 25, aI V 40000 fz25), (z 0, .inr (10, mo z pz0_0 pz0_5 pz0_6 pz0_7 pz0_8 pz0_9 pz0_10 pz0_11 pz0_12 pz0_13 pz0_14 pz0_18 pz0_19 pz0_22 pz0_23 pz0_29)), (z 1, aI V 3075 fz1)] 0 0 (QI V (fun (r : Int32) (w : va_W) => iv (-1) 268435456 r ∧ r = kN fz25 fz26 fz1 a1 a2 a3 ∧ w = [(z 26, aI V 10000 fz26), (z 25, aI V 40000 fz25), (z 0, .inr (10, mo z pz0_0 pz0_5 pz0_6 pz0_7 pz0_8 pz0_9 pz0_10 pz0_11 pz0_12 pz0_13 pz0_14 pz0_18 pz0_19 pz0_22 pz0_23 pz0_29)), (z 1, aI V 3075 fz1)])) := by
  refine Ct.of (by decide) (Nat.le_of_ble_eq_true rfl) (fun p e s m below meth c A ls hx hb hr hml hown hlk hnm hg hP hK hD hE hA hS hl => ?_)
  have hl : lv_has ls 5 [(0, .ref (z 0)), (1, .int a1), (2, .int a2), (3, .int a3)] := hl
  refine lv_aload_n hx hb dX10_keptBy_0 rfl (lv_at hl 0 rfl) ?_
  refine va_get (ci := 10) (v := .ref (z 25)) (C := RX10) (T := TX10) (N := 40) hx hb hg inX10 hown hK hP 2 rfl rfl 25 (by decide) (hg _ q_6_9) (fun _ h9 => h9) rfl dX10_keptBy_1 ?_
  refine lv_iconst (v := 4) hx hb dX10_keptBy_4 (by decide) ?_
  refine lv_iload_n hx hb dX10_keptBy_5 rfl (lv_at hl 1 rfl) ?_
  refine lv_imul hx hb dX10_keptBy_6 ?_
  refine lv_topi (fun x_1 ex_1 => ?_)
  have bx_1 : iv 0 39996 x_1 := by rw [ex_1]; exact iv_cmul (iv_c (4 : Int32) (a := 4) (b := 4) (by decide)) ba1 (by decide)
  refine lv_iload_n hx hb dX10_keptBy_7 rfl (lv_at hl 2 rfl) ?_
  refine lv_iadd hx hb dX10_keptBy_8 ?_
  refine lv_topi (fun x_2 ex_2 => ?_)
  have bx_2 : iv 0 39999 x_2 := by rw [ex_2]; exact iv_add bx_1 ba2 (by decide)
  refine va_iald hx hb hK hP 1 0 rfl rfl (iv_in bx_2 (by decide)) dX10_keptBy_9 ?_
  refine lv_topi (fun x_3 ex_3 => ?_)
  have bx_3 : iv (-1) 9999 x_3 := by rw [ex_3]; exact tfz25 _
  refine lv_istore (lv' := [(4, .int x_3), (0, .ref (z 0)), (1, .int a1), (2, .int a2), (3, .int a3)]) hx hb dX10_keptBy_10 hl (by decide) rfl (fun ls hl => ?_)
  refine lv_iload hx hb dX10_keptBy_12 (lv_at hl 0 rfl) ?_
  refine lv_iconst (v := (-1)) hx hb dX10_keptBy_14 (by decide) ?_
  refine lv_icmp_eq (tgt := 28) hx hb dX10_keptBy_15 (by decide) (fun c_4 => ?_) (fun c_4 => ?_)
  · have b_5 : iv (-1) (-1) x_3 := iv_q c_4 (iv_c ((-1) : Int32) (a := (-1)) (b := (-1)) (by decide))
    refine lv_iconst (v := (-1)) hx hb dX10_keptBy_28 (by decide) ?_
    refine lv_goto (tgt := 60) hx hb dX10_keptBy_29 (by decide) ?_
    exact fiI hx hb hr hlk hK hP hD hS dX10_keptBy_60 (Nat.le_of_ble_eq_true rfl) (Nat.le_of_ble_eq_true rfl) (⟨(iv_c ((-1) : Int32) (by decide)), (kN_a ex_1 ex_2 ex_3 c_4), rfl⟩)
  · have b_6 : iv 0 9999 x_3 := iv_n0 c_4 bx_3 (iv_c ((-1) : Int32) (a := (-1)) (b := (-1)) (by decide)) (by decide)
    refine lv_aload_n hx hb dX10_keptBy_18 rfl (lv_at hl 1 rfl) ?_
    refine lv_iload hx hb dX10_keptBy_19 (lv_at hl 0 rfl) ?_
    refine jnI (wr := [(z 26, aI V 10000 fz26), (z 25, aI V 40000 fz25)]) (rnV (rest := []) ⟨hx, hb, hml, hown, hg⟩ (k_X10_leastIn_0 l V z x_3 pz0_0 pz0_5 pz0_6 pz0_7 pz0_8 pz0_9 pz0_10 pz0_11 pz0_12 pz0_13 pz0_14 pz0_18 pz0_19 pz0_22 pz0_23 pz0_29 fz1 b_6 bpz0_5 bpz0_6 bpz0_7 bpz0_8 bpz0_10 bpz0_11 bpz0_12 bpz0_13 bpz0_14 bpz0_18 bpz0_22 bpz0_29 tfz1) mt_X10_leastIn q_8_0 ⟨Nat.le_of_ble_eq_true rfl, Nat.le_of_ble_eq_true rfl⟩ hK hP hD hS hA hE [2, 3] rfl rfl 2 rfl rfl rfl rfl hl.1 rfl (Nat.le_of_ble_eq_true rfl) dX10_keptBy_21 ⟨Nat.le_of_ble_eq_true rfl, Nat.le_of_ble_eq_true rfl⟩) hP hD hS hA [2, 3] [0, 1] rfl rfl rfl (by decide) (fun r_7 w H locs hw hP hD hS => ?_)
    obtain ⟨br_7, er_7, rfl⟩ := hw
    have hP : va_P V.1 vwCl [(z 26, aI V 10000 fz26), (z 25, aI V 40000 fz25), (z 0, .inr (10, mo z pz0_0 pz0_5 pz0_6 pz0_7 pz0_8 pz0_9 pz0_10 pz0_11 pz0_12 pz0_13 pz0_14 pz0_18 pz0_19 pz0_22 pz0_23 pz0_29)), (z 1, aI V 3075 fz1)] H := hP
    have hD := cpD hP hD
    refine lv_iload_n hx hb dX10_keptBy_24 rfl (lv_at hl 4 rfl) ?_
    refine lv_icmp_ge (tgt := 32) hx hb dX10_keptBy_25 (by decide) (fun c_8 => ?_) (fun c_8 => ?_)
    · have b_9 : iv (-2147483648) 4 a3 := iv_e1 c_8 (iv_top a3) br_7 (by decide)
      refine lv_aload_n hx hb dX10_keptBy_32 rfl (lv_at hl 1 rfl) ?_
      refine va_get (ci := 10) (v := .ref (z 26)) (C := RX10) (T := TX10) (N := 40) hx hb hg inX10 hown hK hP 2 rfl rfl 26 (by decide) (hg _ q_6_10) (fun _ h9 => h9) rfl dX10_keptBy_33 ?_
      refine lv_iload hx hb dX10_keptBy_36 (lv_at hl 0 rfl) ?_
      refine va_iald hx hb hK hP 0 0 rfl rfl (iv_in b_6 (by decide)) dX10_keptBy_38 ?_
      refine lv_topi (fun x_10 ex_10 => ?_)
      have bx_10 : iv 0 268435456 x_10 := by rw [ex_10]; exact tfz26 _
      refine lv_ldcw (v := 268435456) hx hb hown (hg _ q_7_202) dX10_keptBy_39 ?_
      refine lv_icmp_ne (tgt := 51) hx hb dX10_keptBy_42 (by decide) (fun c_11 => ?_) (fun c_11 => ?_)
      · have b_12 : iv 0 268435455 x_10 := iv_n1 c_11 bx_10 (iv_c (268435456 : Int32) (a := 268435456) (b := 268435456) (by decide)) (by decide)
        refine lv_aload_n hx hb dX10_keptBy_51 rfl (lv_at hl 1 rfl) ?_
        refine va_get (ci := 10) (v := .ref (z 26)) (C := RX10) (T := TX10) (N := 40) hx hb hg inX10 hown hK hP 2 rfl rfl 26 (by decide) (hg _ q_6_10) (fun _ h9 => h9) rfl dX10_keptBy_52 ?_
        refine lv_iload hx hb dX10_keptBy_55 (lv_at hl 0 rfl) ?_
        refine va_iald hx hb hK hP 0 0 rfl rfl (iv_in b_6 (by decide)) dX10_keptBy_57 ?_
        refine tpi (y := x_10) ex_10.symm ?_
        refine lv_iconst (v := 1) hx hb dX10_keptBy_58 (by decide) ?_
        refine lv_iadd hx hb dX10_keptBy_59 ?_
        refine lv_topi (fun x_13 ex_13 => ?_)
        have bx_13 : iv 1 268435456 x_13 := by rw [ex_13]; exact iv_add b_12 (iv_c (1 : Int32) (a := 1) (b := 1) (by decide)) (by decide)
        exact fiI hx hb hr hlk hK hP hD hS dX10_keptBy_60 (Nat.le_of_ble_eq_true rfl) (Nat.le_of_ble_eq_true rfl) (⟨(iv_w bx_13 (by decide)), (kN_d ex_1 ex_2 ex_3 c_4 er_7 (Int32.not_lt.mpr c_8) ex_10 c_11 ex_13), rfl⟩)
      · have b_14 : iv 268435456 268435456 x_10 := iv_q c_11 (iv_c (268435456 : Int32) (a := 268435456) (b := 268435456) (by decide))
        refine lv_ldcw (v := 268435456) hx hb hown (hg _ q_7_202) dX10_keptBy_45 ?_
        refine lv_goto (tgt := 60) hx hb dX10_keptBy_48 (by decide) ?_
        exact fiI hx hb hr hlk hK hP hD hS dX10_keptBy_60 (Nat.le_of_ble_eq_true rfl) (Nat.le_of_ble_eq_true rfl) (⟨(iv_c (268435456 : Int32) (by decide)), (kN_c ex_1 ex_2 ex_3 c_4 er_7 (Int32.not_lt.mpr c_8) ex_10 c_11), rfl⟩)
    · have b_15 : iv 1 2147483647 a3 := iv_l2 (Int32.not_le.mp c_8) br_7 (iv_top a3) (by decide)
      refine lv_iconst (v := (-1)) hx hb dX10_keptBy_28 (by decide) ?_
      refine lv_goto (tgt := 60) hx hb dX10_keptBy_29 (by decide) ?_
      exact fiI hx hb hr hlk hK hP hD hS dX10_keptBy_60 (Nat.le_of_ble_eq_true rfl) (Nat.le_of_ble_eq_true rfl) (⟨(iv_c ((-1) : Int32) (by decide)), (kN_b ex_1 ex_2 ex_3 er_7 (Int32.not_le.mp c_8)), rfl⟩)
