theorem dX9_round_0 : decode cX9_round 0 = .ok (.iload_n 1, 1) := by decide +kernel
theorem dX9_round_1 : decode cX9_round 1 = .ok (.ifCond .eq 11, 3) := by decide +kernel
theorem dX9_round_12 : decode cX9_round 12 = .ok (.aload_n 0, 1) := by decide +kernel
theorem dX9_round_13 : decode cX9_round 13 = .ok (.getfield 41, 3) := by decide +kernel
theorem dX9_round_16 : decode cX9_round 16 = .ok (.aload_n 0, 1) := by decide +kernel
theorem dX9_round_17 : decode cX9_round 17 = .ok (.getfield 34, 3) := by decide +kernel
theorem dX9_round_20 : decode cX9_round 20 = .ok (.aload_n 0, 1) := by decide +kernel
theorem dX9_round_21 : decode cX9_round 21 = .ok (.getfield 113, 3) := by decide +kernel
theorem dX9_round_24 : decode cX9_round 24 = .ok (.aload_n 0, 1) := by decide +kernel
theorem dX9_round_25 : decode cX9_round 25 = .ok (.getfield 116, 3) := by decide +kernel
theorem dX9_round_28 : decode cX9_round 28 = .ok (.invokevirtual 227, 3) := by decide +kernel
theorem dX9_round_31 : decode cX9_round 31 = .ok (.iload_n 1, 1) := by decide +kernel
theorem dX9_round_32 : decode cX9_round 32 = .ok (.ifCond .ne 13, 3) := by decide +kernel
theorem dX9_round_35 : decode cX9_round 35 = .ok (.aload_n 0, 1) := by decide +kernel
theorem dX9_round_36 : decode cX9_round 36 = .ok (.getfield 41, 3) := by decide +kernel
theorem dX9_round_39 : decode cX9_round 39 = .ok (.getfield 231, 3) := by decide +kernel
theorem dX9_round_42 : decode cX9_round 42 = .ok (.goto 10, 3) := by decide +kernel
theorem dX9_round_52 : decode cX9_round 52 = .ok (.ireturn, 1) := by decide +kernel
theorem dX9_round_4 : decode cX9_round 4 = .ok (.iload_n 1, 1) := by decide +kernel
theorem dX9_round_5 : decode cX9_round 5 = .ok (.iconst 1, 1) := by decide +kernel
theorem dX9_round_6 : decode cX9_round 6 = .ok (.if_icmp .eq 6, 3) := by decide +kernel
theorem dX9_round_45 : decode cX9_round 45 = .ok (.aload_n 0, 1) := by decide +kernel
theorem dX9_round_46 : decode cX9_round 46 = .ok (.getfield 41, 3) := by decide +kernel
theorem dX9_round_49 : decode cX9_round 49 = .ok (.getfield 234, 3) := by decide +kernel
theorem dX9_round_9 : decode cX9_round 9 = .ok (.bipush (-2), 2) := by decide +kernel
theorem dX9_round_11 : decode cX9_round 11 = .ok (.ireturn, 1) := by decide +kernel
set_option maxHeartbeats 4000000 in
set_option maxRecDepth 100000 in
theorem k_X9_round_0 (l : Launch) (V : GV) (y : Nat → Nat) (D9 : Nat → Int32) (a1 : Int32) (py0_1 : Int32) (o10 : Value) (o11 : Value) (py0_12 : Int32) (py0_13 : Int32) (py0_14 : Int32) (py2_0 : Int32) (py2_1 : Int32) (py2_2 : Int32) (py2_3 : Int32) (py2_4 : Int32) (py2_5 : Int32) (py2_13 : Int32) (py2_14 : Int32) (py2_15 : Int32) (py2_16 : Int32) (py2_17 : Int32) (fy3 : Nat → Int32) (fy9 : Nat → Int32) (fy20 : Nat → Int32) (fy21 : Nat → Int32) (fy22 : Nat → Int32) (py25_0 : Int32) (py25_1 : Int32) (bpy0_1 : iv 0 900 py0_1) (bpy0_12 : iv 0 9999 py0_12) (bpy0_13 : iv 0 9 py0_13) (bpy2_1 : iv 0 4 py2_1) (bpy2_2 : iv 0 4 py2_2) (bpy2_3 : iv 0 8 py2_3) (bpy2_4 : iv 0 9999 py2_4) (bpy2_5 : iv 0 9 py2_5) (bpy2_13 : iv 0 900 py2_13) (bpy2_14 : iv 0 900 py2_14) (bpy2_15 : iv 0 900 py2_15) (bpy2_16 : iv 0 900 py2_16) (bpy2_17 : iv 0 900 py2_17) (tfy20 : ∀ j, iv 0 10 (fy20 j)) (hL9 : LW D9 fy3 fy9 py2_14 py2_15 py2_16 py2_17) (hK9 : KN D9 fy20) : Ct l V yX9_round (.code yX9_round cX9_round 2 (some .int)) 7 [.ref (y 0), .int a1] [(y 0, .inr (9, o9_rirrrrrrrrvviii (y 1) py0_1 (y 2) (y 10) (y 19) (y 25) (y 26) (y 30) (y 31) (y 32) o10 o11 py0_12 py0_13 py0_14)), (y 2, .inr (1, o1_iiiiiirrrrrrriiiii py2_0 py2_1 py2_2 py2_3 py2_4 py2_5 (y 3) (y 4) (y 5) (y 6) (y 7) (y 8) (y 9) py2_13 py2_14 py2_15 py2_16 py2_17)), (y 3, aI V 4 fy3), (y 9, aI V 900 fy9), (y 19, .inr (4, o4_rrrrrr (y 2) (y 20) (y 21) (y 22) (y 23) (y 24))), (y 20, aI V 2000 fy20), (y 21, aI V 6 fy21), (y 22, aI V 64 fy22), (y 25, .inr (0, [.int py25_0, .int py25_1]))] 0 0 (QI V (fun (r : Int32) (w : va_W) => ∃ (g0 : Nat → Int32) (g1 : Nat → Int32) (g2 : Nat → Int32) (v3 : Int32) (v4 : Int32), (∀ j, iv 0 10 (g0 j)) ∧ KN D9 g0 ∧ w = [(y 0, .inr (9, o9_rirrrrrrrrvviii (y 1) py0_1 (y 2) (y 10) (y 19) (y 25) (y 26) (y 30) (y 31) (y 32) o10 o11 py0_12 py0_13 py0_14)), (y 2, .inr (1, o1_iiiiiirrrrrrriiiii py2_0 py2_1 py2_2 py2_3 py2_4 py2_5 (y 3) (y 4) (y 5) (y 6) (y 7) (y 8) (y 9) py2_13 py2_14 py2_15 py2_16 py2_17)), (y 3, aI V 4 fy3), (y 9, aI V 900 fy9), (y 19, .inr (4, o4_rrrrrr (y 2) (y 20) (y 21) (y 22) (y 23) (y 24))), (y 20, aI V 2000 g0), (y 21, aI V 6 g1), (y 22, aI V 64 g2), (y 25, .inr (0, [.int v3, .int v4]))])) := by
  refine Ct.of (by decide) (Nat.le_of_ble_eq_true rfl) (fun p e s m below meth c A ls hx hb hr hml hown hlk hnm hg hP hK hD hE hA hS hl => ?_)
  have hl : lv_has ls 2 [(0, .ref (y 0)), (1, .int a1)] := hl
  refine lv_iload_n hx hb dX9_round_0 rfl (lv_at hl 1 rfl) ?_
  refine lv_if_eq (tgt := 12) hx hb dX9_round_1 (by decide) (fun c_1 => ?_) (fun c_1 => ?_)
  · have b_2 : iv 0 0 a1 := iv_q c_1 (iv_c (0 : Int32) (a := 0) (b := 0) (by decide))
    refine lv_aload_n hx hb dX9_round_12 rfl (lv_at hl 0 rfl) ?_
    refine va_get (ci := 9) (v := .ref (y 25)) (C := RX9) (T := TX9) (N := 15) hx hb hg inX9 hown hK hP 0 rfl rfl 5 (by decide) (hg _ q_2_41) (fun _ h9 => h9) rfl dX9_round_13 ?_
    refine lv_aload_n hx hb dX9_round_16 rfl (lv_at hl 0 rfl) ?_
    refine va_get (ci := 9) (v := .ref (y 19)) (C := RX9) (T := TX9) (N := 15) hx hb hg inX9 hown hK hP 0 rfl rfl 4 (by decide) (hg _ q_2_40) (fun _ h9 => h9) rfl dX9_round_17 ?_
    refine lv_aload_n hx hb dX9_round_20 rfl (lv_at hl 0 rfl) ?_
    refine va_get (ci := 9) (v := .int py0_12) (C := RX9) (T := TX9) (N := 15) hx hb hg inX9 hown hK hP 0 rfl rfl 12 (by decide) (hg _ q_2_48) (fun _ h9 => h9) rfl dX9_round_21 ?_
    refine lv_aload_n hx hb dX9_round_24 rfl (lv_at hl 0 rfl) ?_
    refine va_get (ci := 9) (v := .int py0_13) (C := RX9) (T := TX9) (N := 15) hx hb hg inX9 hown hK hP 0 rfl rfl 13 (by decide) (hg _ q_2_49) (fun _ h9 => h9) rfl dX9_round_25 ?_
    refine jnV (wr := [(y 0, .inr (9, o9_rirrrrrrrrvviii (y 1) py0_1 (y 2) (y 10) (y 19) (y 25) (y 26) (y 30) (y 31) (y 32) o10 o11 py0_12 py0_13 py0_14))]) (rnV (rest := []) ⟨hx, hb, hml, hown, hg⟩ (k_X0_follow_0 l V y D9 py0_12 py0_13 fy3 fy9 fy20 fy21 fy22 py25_0 py25_1 py2_0 py2_1 py2_2 py2_3 py2_4 py2_5 py2_13 py2_14 py2_15 py2_16 py2_17 bpy0_12 bpy0_13 tfy20 bpy2_1 bpy2_2 bpy2_3 bpy2_4 bpy2_5 bpy2_13 bpy2_14 bpy2_15 bpy2_16 bpy2_17 hL9 hK9) mt_X0_follow q_4_22 ⟨Nat.le_of_ble_eq_true rfl, Nat.le_of_ble_eq_true rfl⟩ hK hP hD hS hA hE [2, 3, 4, 5, 6, 7, 8, 1] rfl rfl 8 rfl rfl rfl rfl hl.1 rfl (Nat.le_of_ble_eq_true rfl) dX9_round_28 ⟨Nat.le_of_ble_eq_true rfl, Nat.le_of_ble_eq_true rfl⟩) hP hD hS hA [2, 3, 4, 5, 6, 7, 8, 1] [0] rfl rfl rfl (by decide) (fun  w H locs hw hP hD hS => ?_)
    obtain ⟨f_3, f_4, f_5, v_6, v_7, tf_3, kn_8, rfl⟩ := hw
    have hP : va_P V.1 vwCl [(y 0, .inr (9, o9_rirrrrrrrrvviii (y 1) py0_1 (y 2) (y 10) (y 19) (y 25) (y 26) (y 30) (y 31) (y 32) o10 o11 py0_12 py0_13 py0_14)), (y 3, aI V 4 fy3), (y 9, aI V 900 fy9), (y 19, .inr (4, o4_rrrrrr (y 2) (y 20) (y 21) (y 22) (y 23) (y 24))), (y 20, aI V 2000 f_3), (y 21, aI V 6 f_4), (y 22, aI V 64 f_5), (y 25, .inr (0, [.int v_6, .int v_7])), (y 2, .inr (1, o1_iiiiiirrrrrrriiiii py2_0 py2_1 py2_2 py2_3 py2_4 py2_5 (y 3) (y 4) (y 5) (y 6) (y 7) (y 8) (y 9) py2_13 py2_14 py2_15 py2_16 py2_17))] H := hP
    have hD := cpD hP hD
    refine lv_iload_n hx hb dX9_round_31 rfl (lv_at hl 1 rfl) ?_
    refine lv_if_ne (tgt := 45) hx hb dX9_round_32 (by decide) (fun c_9 => absurd (iv_eqp b_2 (iv_c (0 : Int32) (a := 0) (b := 0) (by decide))) c_9) (fun _ => ?_)
    refine lv_aload_n hx hb dX9_round_35 rfl (lv_at hl 0 rfl) ?_
    refine va_get (ci := 9) (v := .ref (y 25)) (C := RX9) (T := TX9) (N := 15) hx hb hg inX9 hown hK hP 0 rfl rfl 5 (by decide) (hg _ q_2_41) (fun _ h9 => h9) rfl dX9_round_36 ?_
    refine va_get (ci := 0) (v := .int v_6) (C := RX0) (T := TX0) (N := 2) hx hb hg inX0 hown hK hP 7 rfl rfl 0 (by decide) (hg _ q_1_197) (fun _ h9 => h9) rfl dX9_round_39 ?_
    refine lv_goto (tgt := 52) hx hb dX9_round_42 (by decide) ?_
    have hP := subP (ws' := [(y 0, .inr (9, o9_rirrrrrrrrvviii (y 1) py0_1 (y 2) (y 10) (y 19) (y 25) (y 26) (y 30) (y 31) (y 32) o10 o11 py0_12 py0_13 py0_14)), (y 2, .inr (1, o1_iiiiiirrrrrrriiiii py2_0 py2_1 py2_2 py2_3 py2_4 py2_5 (y 3) (y 4) (y 5) (y 6) (y 7) (y 8) (y 9) py2_13 py2_14 py2_15 py2_16 py2_17)), (y 3, aI V 4 fy3), (y 9, aI V 900 fy9), (y 19, .inr (4, o4_rrrrrr (y 2) (y 20) (y 21) (y 22) (y 23) (y 24))), (y 20, aI V 2000 f_3), (y 21, aI V 6 f_4), (y 22, aI V 64 f_5), (y 25, .inr (0, [.int v_6, .int v_7]))]) hP [0, 8, 1, 2, 3, 4, 5, 6, 7] rfl
    have hD := subD hP hD [0, 8, 1, 2, 3, 4, 5, 6, 7] rfl rfl
    exact fiI hx hb hr hlk hK hP hD hS dX9_round_52 (Nat.le_of_ble_eq_true rfl) (Nat.le_of_ble_eq_true rfl) (⟨f_3, f_4, f_5, v_6, v_7, tf_3, kn_8, rfl⟩)
  · refine lv_iload_n hx hb dX9_round_4 rfl (lv_at hl 1 rfl) ?_
    refine lv_iconst (v := 1) hx hb dX9_round_5 (by decide) ?_
    refine lv_icmp_eq (tgt := 12) hx hb dX9_round_6 (by decide) (fun c_10 => ?_) (fun c_10 => ?_)
    · have b_11 : iv 1 1 a1 := iv_q c_10 (iv_c (1 : Int32) (a := 1) (b := 1) (by decide))
      refine lv_aload_n hx hb dX9_round_12 rfl (lv_at hl 0 rfl) ?_
      refine va_get (ci := 9) (v := .ref (y 25)) (C := RX9) (T := TX9) (N := 15) hx hb hg inX9 hown hK hP 0 rfl rfl 5 (by decide) (hg _ q_2_41) (fun _ h9 => h9) rfl dX9_round_13 ?_
      refine lv_aload_n hx hb dX9_round_16 rfl (lv_at hl 0 rfl) ?_
      refine va_get (ci := 9) (v := .ref (y 19)) (C := RX9) (T := TX9) (N := 15) hx hb hg inX9 hown hK hP 0 rfl rfl 4 (by decide) (hg _ q_2_40) (fun _ h9 => h9) rfl dX9_round_17 ?_
      refine lv_aload_n hx hb dX9_round_20 rfl (lv_at hl 0 rfl) ?_
      refine va_get (ci := 9) (v := .int py0_12) (C := RX9) (T := TX9) (N := 15) hx hb hg inX9 hown hK hP 0 rfl rfl 12 (by decide) (hg _ q_2_48) (fun _ h9 => h9) rfl dX9_round_21 ?_
      refine lv_aload_n hx hb dX9_round_24 rfl (lv_at hl 0 rfl) ?_
      refine va_get (ci := 9) (v := .int py0_13) (C := RX9) (T := TX9) (N := 15) hx hb hg inX9 hown hK hP 0 rfl rfl 13 (by decide) (hg _ q_2_49) (fun _ h9 => h9) rfl dX9_round_25 ?_
      refine jnV (wr := [(y 0, .inr (9, o9_rirrrrrrrrvviii (y 1) py0_1 (y 2) (y 10) (y 19) (y 25) (y 26) (y 30) (y 31) (y 32) o10 o11 py0_12 py0_13 py0_14))]) (rnV (rest := []) ⟨hx, hb, hml, hown, hg⟩ (k_X0_follow_0 l V y D9 py0_12 py0_13 fy3 fy9 fy20 fy21 fy22 py25_0 py25_1 py2_0 py2_1 py2_2 py2_3 py2_4 py2_5 py2_13 py2_14 py2_15 py2_16 py2_17 bpy0_12 bpy0_13 tfy20 bpy2_1 bpy2_2 bpy2_3 bpy2_4 bpy2_5 bpy2_13 bpy2_14 bpy2_15 bpy2_16 bpy2_17 hL9 hK9) mt_X0_follow q_4_22 ⟨Nat.le_of_ble_eq_true rfl, Nat.le_of_ble_eq_true rfl⟩ hK hP hD hS hA hE [2, 3, 4, 5, 6, 7, 8, 1] rfl rfl 8 rfl rfl rfl rfl hl.1 rfl (Nat.le_of_ble_eq_true rfl) dX9_round_28 ⟨Nat.le_of_ble_eq_true rfl, Nat.le_of_ble_eq_true rfl⟩) hP hD hS hA [2, 3, 4, 5, 6, 7, 8, 1] [0] rfl rfl rfl (by decide) (fun  w H locs hw hP hD hS => ?_)
      obtain ⟨f_12, f_13, f_14, v_15, v_16, tf_12, kn_17, rfl⟩ := hw
      have hP : va_P V.1 vwCl [(y 0, .inr (9, o9_rirrrrrrrrvviii (y 1) py0_1 (y 2) (y 10) (y 19) (y 25) (y 26) (y 30) (y 31) (y 32) o10 o11 py0_12 py0_13 py0_14)), (y 3, aI V 4 fy3), (y 9, aI V 900 fy9), (y 19, .inr (4, o4_rrrrrr (y 2) (y 20) (y 21) (y 22) (y 23) (y 24))), (y 20, aI V 2000 f_12), (y 21, aI V 6 f_13), (y 22, aI V 64 f_14), (y 25, .inr (0, [.int v_15, .int v_16])), (y 2, .inr (1, o1_iiiiiirrrrrrriiiii py2_0 py2_1 py2_2 py2_3 py2_4 py2_5 (y 3) (y 4) (y 5) (y 6) (y 7) (y 8) (y 9) py2_13 py2_14 py2_15 py2_16 py2_17))] H := hP
      have hD := cpD hP hD
      refine lv_iload_n hx hb dX9_round_31 rfl (lv_at hl 1 rfl) ?_
      refine lv_if_ne (tgt := 45) hx hb dX9_round_32 (by decide) (fun _ => ?_) (fun c_18 => absurd c_18 (iv_ne b_11 (iv_c (0 : Int32) (a := 0) (b := 0) (by decide)) (by decide)))
      refine lv_aload_n hx hb dX9_round_45 rfl (lv_at hl 0 rfl) ?_
      refine va_get (ci := 9) (v := .ref (y 25)) (C := RX9) (T := TX9) (N := 15) hx hb hg inX9 hown hK hP 0 rfl rfl 5 (by decide) (hg _ q_2_41) (fun _ h9 => h9) rfl dX9_round_46 ?_
      refine va_get (ci := 0) (v := .int v_16) (C := RX0) (T := TX0) (N := 2) hx hb hg inX0 hown hK hP 7 rfl rfl 1 (by decide) (hg _ q_1_199) (fun _ h9 => h9) rfl dX9_round_49 ?_
      have hP := subP (ws' := [(y 0, .inr (9, o9_rirrrrrrrrvviii (y 1) py0_1 (y 2) (y 10) (y 19) (y 25) (y 26) (y 30) (y 31) (y 32) o10 o11 py0_12 py0_13 py0_14)), (y 2, .inr (1, o1_iiiiiirrrrrrriiiii py2_0 py2_1 py2_2 py2_3 py2_4 py2_5 (y 3) (y 4) (y 5) (y 6) (y 7) (y 8) (y 9) py2_13 py2_14 py2_15 py2_16 py2_17)), (y 3, aI V 4 fy3), (y 9, aI V 900 fy9), (y 19, .inr (4, o4_rrrrrr (y 2) (y 20) (y 21) (y 22) (y 23) (y 24))), (y 20, aI V 2000 f_12), (y 21, aI V 6 f_13), (y 22, aI V 64 f_14), (y 25, .inr (0, [.int v_15, .int v_16]))]) hP [0, 8, 1, 2, 3, 4, 5, 6, 7] rfl
      have hD := subD hP hD [0, 8, 1, 2, 3, 4, 5, 6, 7] rfl rfl
      exact fiI hx hb hr hlk hK hP hD hS dX9_round_52 (Nat.le_of_ble_eq_true rfl) (Nat.le_of_ble_eq_true rfl) (⟨f_12, f_13, f_14, v_15, v_16, tf_12, kn_17, rfl⟩)
    · refine lv_bipush (v := (-2)) hx hb dX9_round_9 (by decide) ?_
      exact fiI hx hb hr hlk hK hP hD hS dX9_round_11 (Nat.le_of_ble_eq_true rfl) (Nat.le_of_ble_eq_true rfl) (⟨fy20, fy21, fy22, py25_0, py25_1, tfy20, hK9, rfl⟩)
theorem dX9_bare_0 : decode cX9_bare 0 = .ok (.aload_n 0, 1) := by decide +kernel
theorem dX9_bare_1 : decode cX9_bare 1 = .ok (.getfield 41, 3) := by decide +kernel
theorem dX9_bare_4 : decode cX9_bare 4 = .ok (.aload_n 0, 1) := by decide +kernel
theorem dX9_bare_5 : decode cX9_bare 5 = .ok (.getfield 34, 3) := by decide +kernel
theorem dX9_bare_8 : decode cX9_bare 8 = .ok (.aload_n 0, 1) := by decide +kernel
theorem dX9_bare_9 : decode cX9_bare 9 = .ok (.getfield 113, 3) := by decide +kernel
theorem dX9_bare_12 : decode cX9_bare 12 = .ok (.aload_n 0, 1) := by decide +kernel
theorem dX9_bare_13 : decode cX9_bare 13 = .ok (.getfield 116, 3) := by decide +kernel
theorem dX9_bare_16 : decode cX9_bare 16 = .ok (.invokevirtual 227, 3) := by decide +kernel
theorem dX9_bare_19 : decode cX9_bare 19 = .ok (.aload_n 0, 1) := by decide +kernel
theorem dX9_bare_20 : decode cX9_bare 20 = .ok (.getfield 113, 3) := by decide +kernel
theorem dX9_bare_23 : decode cX9_bare 23 = .ok (.istore_n 1, 1) := by decide +kernel
theorem dX9_bare_24 : decode cX9_bare 24 = .ok (.iconst 0, 1) := by decide +kernel
theorem dX9_bare_25 : decode cX9_bare 25 = .ok (.istore_n 2, 1) := by decide +kernel
theorem dX9_bare_26 : decode cX9_bare 26 = .ok (.iload_n 2, 1) := by decide +kernel
theorem dX9_bare_27 : decode cX9_bare 27 = .ok (.aload_n 0, 1) := by decide +kernel
theorem dX9_bare_28 : decode cX9_bare 28 = .ok (.getfield 41, 3) := by decide +kernel
theorem dX9_bare_31 : decode cX9_bare 31 = .ok (.getfield 231, 3) := by decide +kernel
theorem dX9_bare_34 : decode cX9_bare 34 = .ok (.aload_n 0, 1) := by decide +kernel
theorem dX9_bare_35 : decode cX9_bare 35 = .ok (.getfield 41, 3) := by decide +kernel
theorem dX9_bare_38 : decode cX9_bare 38 = .ok (.getfield 234, 3) := by decide +kernel
theorem dX9_bare_41 : decode cX9_bare 41 = .ok (.iadd, 1) := by decide +kernel
theorem dX9_bare_42 : decode cX9_bare 42 = .ok (.if_icmp .ge 32, 3) := by decide +kernel
theorem dX9_bare_74 : decode cX9_bare 74 = .ok (.iconst (-1), 1) := by decide +kernel
theorem dX9_bare_75 : decode cX9_bare 75 = .ok (.ireturn, 1) := by decide +kernel
theorem dX9_bare_45 : decode cX9_bare 45 = .ok (.iload_n 1, 1) := by decide +kernel
theorem dX9_bare_46 : decode cX9_bare 46 = .ok (.invokestatic 216, 3) := by decide +kernel
theorem dX9_bare_49 : decode cX9_bare 49 = .ok (.ifCond .ne 5, 3) := by decide +kernel
theorem dX9_bare_54 : decode cX9_bare 54 = .ok (.aload_n 0, 1) := by decide +kernel
theorem dX9_bare_55 : decode cX9_bare 55 = .ok (.getfield 34, 3) := by decide +kernel
theorem dX9_bare_58 : decode cX9_bare 58 = .ok (.iload_n 1, 1) := by decide +kernel
theorem dX9_bare_59 : decode cX9_bare 59 = .ok (.aload_n 0, 1) := by decide +kernel
theorem dX9_bare_60 : decode cX9_bare 60 = .ok (.getfield 116, 3) := by decide +kernel
theorem dX9_bare_63 : decode cX9_bare 63 = .ok (.iconst 0, 1) := by decide +kernel
theorem dX9_bare_64 : decode cX9_bare 64 = .ok (.invokevirtual 155, 3) := by decide +kernel
theorem dX9_bare_67 : decode cX9_bare 67 = .ok (.istore_n 1, 1) := by decide +kernel
theorem dX9_bare_68 : decode cX9_bare 68 = .ok (.iinc 2 1, 3) := by decide +kernel
theorem dX9_bare_71 : decode cX9_bare 71 = .ok (.goto (-45), 3) := by decide +kernel
theorem dX9_bare_52 : decode cX9_bare 52 = .ok (.iload_n 2, 1) := by decide +kernel
theorem dX9_bare_53 : decode cX9_bare 53 = .ok (.ireturn, 1) := by decide +kernel
set_option maxHeartbeats 4000000 in
set_option maxRecDepth 100000 in
theorem k_X9_bare_0 (l : Launch) (V : GV) (y : Nat → Nat) (D9 : Nat → Int32) (py0_1 : Int32) (o10 : Value) (o11 : Value) (py0_12 : Int32) (py0_13 : Int32) (py0_14 : Int32) (py2_0 : Int32) (py2_1 : Int32) (py2_2 : Int32) (py2_3 : Int32) (py2_4 : Int32) (py2_5 : Int32) (py2_13 : Int32) (py2_14 : Int32) (py2_15 : Int32) (py2_16 : Int32) (py2_17 : Int32) (fy3 : Nat → Int32) (fy9 : Nat → Int32) (fy20 : Nat → Int32) (fy21 : Nat → Int32) (fy22 : Nat → Int32) (py25_0 : Int32) (py25_1 : Int32) (bpy0_1 : iv 0 900 py0_1) (bpy0_12 : iv 0 9999 py0_12) (bpy0_13 : iv 0 9 py0_13) (bpy2_1 : iv 0 4 py2_1) (bpy2_2 : iv 0 4 py2_2) (bpy2_3 : iv 0 8 py2_3) (bpy2_4 : iv 0 9999 py2_4) (bpy2_5 : iv 0 9 py2_5) (bpy2_13 : iv 0 900 py2_13) (bpy2_14 : iv 0 900 py2_14) (bpy2_15 : iv 0 900 py2_15) (bpy2_16 : iv 0 900 py2_16) (bpy2_17 : iv 0 900 py2_17) (tfy20 : ∀ j, iv 0 10 (fy20 j)) (hL9 : LW D9 fy3 fy9 py2_14 py2_15 py2_16 py2_17) (hK9 : KN D9 fy20) : Ct l V yX9_bare (.code yX9_bare cX9_bare 3 (some .int)) 7 [.ref (y 0)] [(y 0, .inr (9, o9_rirrrrrrrrvviii (y 1) py0_1 (y 2) (y 10) (y 19) (y 25) (y 26) (y 30) (y 31) (y 32) o10 o11 py0_12 py0_13 py0_14)), (y 2, .inr (1, o1_iiiiiirrrrrrriiiii py2_0 py2_1 py2_2 py2_3 py2_4 py2_5 (y 3) (y 4) (y 5) (y 6) (y 7) (y 8) (y 9) py2_13 py2_14 py2_15 py2_16 py2_17)), (y 3, aI V 4 fy3), (y 9, aI V 900 fy9), (y 19, .inr (4, o4_rrrrrr (y 2) (y 20) (y 21) (y 22) (y 23) (y 24))), (y 20, aI V 2000 fy20), (y 21, aI V 6 fy21), (y 22, aI V 64 fy22), (y 25, .inr (0, [.int py25_0, .int py25_1]))] 0 0 (QI V (fun (r : Int32) (w : va_W) => ∃ (g0 : Nat → Int32) (g1 : Nat → Int32) (g2 : Nat → Int32) (v3 : Int32) (v4 : Int32), (∀ j, iv 0 10 (g0 j)) ∧ iv (-1) 2147483646 r ∧ KN D9 g0 ∧ w = [(y 0, .inr (9, o9_rirrrrrrrrvviii (y 1) py0_1 (y 2) (y 10) (y 19) (y 25) (y 26) (y 30) (y 31) (y 32) o10 o11 py0_12 py0_13 py0_14)), (y 2, .inr (1, o1_iiiiiirrrrrrriiiii py2_0 py2_1 py2_2 py2_3 py2_4 py2_5 (y 3) (y 4) (y 5) (y 6) (y 7) (y 8) (y 9) py2_13 py2_14 py2_15 py2_16 py2_17)), (y 3, aI V 4 fy3), (y 9, aI V 900 fy9), (y 19, .inr (4, o4_rrrrrr (y 2) (y 20) (y 21) (y 22) (y 23) (y 24))), (y 20, aI V 2000 g0), (y 21, aI V 6 g1), (y 22, aI V 64 g2), (y 25, .inr (0, [.int v3, .int v4]))])) := by
  refine Ct.of (by decide) (Nat.le_of_ble_eq_true rfl) (fun p e s m below meth c A ls hx hb hr hml hown hlk hnm hg hP hK hD hE hA hS hl => ?_)
  have hl : lv_has ls 3 [(0, .ref (y 0))] := hl
  refine lv_aload_n hx hb dX9_bare_0 rfl (lv_at hl 0 rfl) ?_
  refine va_get (ci := 9) (v := .ref (y 25)) (C := RX9) (T := TX9) (N := 15) hx hb hg inX9 hown hK hP 0 rfl rfl 5 (by decide) (hg _ q_2_41) (fun _ h9 => h9) rfl dX9_bare_1 ?_
  refine lv_aload_n hx hb dX9_bare_4 rfl (lv_at hl 0 rfl) ?_
  refine va_get (ci := 9) (v := .ref (y 19)) (C := RX9) (T := TX9) (N := 15) hx hb hg inX9 hown hK hP 0 rfl rfl 4 (by decide) (hg _ q_2_40) (fun _ h9 => h9) rfl dX9_bare_5 ?_
  refine lv_aload_n hx hb dX9_bare_8 rfl (lv_at hl 0 rfl) ?_
  refine va_get (ci := 9) (v := .int py0_12) (C := RX9) (T := TX9) (N := 15) hx hb hg inX9 hown hK hP 0 rfl rfl 12 (by decide) (hg _ q_2_48) (fun _ h9 => h9) rfl dX9_bare_9 ?_
  refine lv_aload_n hx hb dX9_bare_12 rfl (lv_at hl 0 rfl) ?_
  refine va_get (ci := 9) (v := .int py0_13) (C := RX9) (T := TX9) (N := 15) hx hb hg inX9 hown hK hP 0 rfl rfl 13 (by decide) (hg _ q_2_49) (fun _ h9 => h9) rfl dX9_bare_13 ?_
  refine jnV (wr := [(y 0, .inr (9, o9_rirrrrrrrrvviii (y 1) py0_1 (y 2) (y 10) (y 19) (y 25) (y 26) (y 30) (y 31) (y 32) o10 o11 py0_12 py0_13 py0_14))]) (rnV (rest := []) ⟨hx, hb, hml, hown, hg⟩ (k_X0_follow_0 l V y D9 py0_12 py0_13 fy3 fy9 fy20 fy21 fy22 py25_0 py25_1 py2_0 py2_1 py2_2 py2_3 py2_4 py2_5 py2_13 py2_14 py2_15 py2_16 py2_17 bpy0_12 bpy0_13 tfy20 bpy2_1 bpy2_2 bpy2_3 bpy2_4 bpy2_5 bpy2_13 bpy2_14 bpy2_15 bpy2_16 bpy2_17 hL9 hK9) mt_X0_follow q_4_22 ⟨Nat.le_of_ble_eq_true rfl, Nat.le_of_ble_eq_true rfl⟩ hK hP hD hS hA hE [2, 3, 4, 5, 6, 7, 8, 1] rfl rfl 8 rfl rfl rfl rfl hl.1 rfl (Nat.le_of_ble_eq_true rfl) dX9_bare_16 ⟨Nat.le_of_ble_eq_true rfl, Nat.le_of_ble_eq_true rfl⟩) hP hD hS hA [2, 3, 4, 5, 6, 7, 8, 1] [0] rfl rfl rfl (by decide) (fun  w H locs hw hP hD hS => ?_)
  obtain ⟨f_1, f_2, f_3, v_4, v_5, tf_1, kn_6, rfl⟩ := hw
  have hP : va_P V.1 vwCl [(y 0, .inr (9, o9_rirrrrrrrrvviii (y 1) py0_1 (y 2) (y 10) (y 19) (y 25) (y 26) (y 30) (y 31) (y 32) o10 o11 py0_12 py0_13 py0_14)), (y 3, aI V 4 fy3), (y 9, aI V 900 fy9), (y 19, .inr (4, o4_rrrrrr (y 2) (y 20) (y 21) (y 22) (y 23) (y 24))), (y 20, aI V 2000 f_1), (y 21, aI V 6 f_2), (y 22, aI V 64 f_3), (y 25, .inr (0, [.int v_4, .int v_5])), (y 2, .inr (1, o1_iiiiiirrrrrrriiiii py2_0 py2_1 py2_2 py2_3 py2_4 py2_5 (y 3) (y 4) (y 5) (y 6) (y 7) (y 8) (y 9) py2_13 py2_14 py2_15 py2_16 py2_17))] H := hP
  have hD := cpD hP hD
  refine lv_aload_n hx hb dX9_bare_19 rfl (lv_at hl 0 rfl) ?_
  refine va_get (ci := 9) (v := .int py0_12) (C := RX9) (T := TX9) (N := 15) hx hb hg inX9 hown hK hP 0 rfl rfl 12 (by decide) (hg _ q_2_48) (fun _ h9 => h9) rfl dX9_bare_20 ?_
  refine lv_istore_n (lv' := [(1, .int py0_12), (0, .ref (y 0))]) hx hb dX9_bare_23 rfl hl (by decide) rfl (fun ls hl => ?_)
  refine lv_iconst (v := 0) hx hb dX9_bare_24 (by decide) ?_
  refine lv_istore_n (lv' := [(2, .int 0), (1, .int py0_12), (0, .ref (y 0))]) hx hb dX9_bare_25 rfl hl (by decide) rfl (fun ls hl => ?_)
  refine loopF (X := fun (n_12 : Nat) (H : Heap) (locs : List Loc) (ls : Array Slot) => ∃ (u_7 : Int32) (u_8 : Int32) (f_9 : Nat → Int32) (f_10 : Nat → Int32) (f_11 : Nat → Int32), (iv 0 2147483647 u_7) ∧ (iv 0 9999 u_8) ∧ (∀ j, iv 0 10 (f_9 j)) ∧ KN D9 f_9 ∧ n_12 = (2147483647 - (u_7 : Int32).toInt).toNat ∧ va_P V.1 vwCl [(y 0, .inr (9, o9_rirrrrrrrrvviii (y 1) py0_1 (y 2) (y 10) (y 19) (y 25) (y 26) (y 30) (y 31) (y 32) o10 o11 py0_12 py0_13 py0_14)), (y 3, aI V 4 fy3), (y 9, aI V 900 fy9), (y 19, .inr (4, o4_rrrrrr (y 2) (y 20) (y 21) (y 22) (y 23) (y 24))), (y 20, aI V 2000 f_9), (y 21, aI V 6 f_10), (y 22, aI V 64 f_11), (y 25, .inr (0, [.int v_4, .int v_5])), (y 2, .inr (1, o1_iiiiiirrrrrrriiiii py2_0 py2_1 py2_2 py2_3 py2_4 py2_5 (y 3) (y 4) (y 5) (y 6) (y 7) (y 8) (y 9) py2_13 py2_14 py2_15 py2_16 py2_17))] H ∧ va_D A [(y 0, .inr (9, o9_rirrrrrrrrvviii (y 1) py0_1 (y 2) (y 10) (y 19) (y 25) (y 26) (y 30) (y 31) (y 32) o10 o11 py0_12 py0_13 py0_14)), (y 3, aI V 4 fy3), (y 9, aI V 900 fy9), (y 19, .inr (4, o4_rrrrrr (y 2) (y 20) (y 21) (y 22) (y 23) (y 24))), (y 20, aI V 2000 f_9), (y 21, aI V 6 f_10), (y 22, aI V 64 f_11), (y 25, .inr (0, [.int v_4, .int v_5])), (y 2, .inr (1, o1_iiiiiirrrrrrriiiii py2_0 py2_1 py2_2 py2_3 py2_4 py2_5 (y 3) (y 4) (y 5) (y 6) (y 7) (y 8) (y 9) py2_13 py2_14 py2_15 py2_16 py2_17))] ∧ va_S A s.heap H locs ∧ lv_has ls 3 [(2, .int u_7), (1, .int u_8), (0, .ref (y 0))]) (g := fun ls => F0 m 26 ls []) (fun n_12 H locs ls hX ihn_12 => ?_) _ ⟨0, py0_12, f_1, f_2, f_3, (iv_c (0 : Int32) (by decide)), bpy0_12, tf_1, kn_6, rfl, hP, hD, hS, lv_sub hl [0, 1, 2] rfl⟩
  obtain ⟨u_7, u_8, f_9, f_10, f_11, bu_7, bu_8, tf_9, knn_12, en_12, hP, hD, hS, hl⟩ := hX
  refine lv_iload_n hx hb dX9_bare_26 rfl (lv_at hl 0 rfl) ?_
  refine lv_aload_n hx hb dX9_bare_27 rfl (lv_at hl 2 rfl) ?_
  refine va_get (ci := 9) (v := .ref (y 25)) (C := RX9) (T := TX9) (N := 15) hx hb hg inX9 hown hK hP 0 rfl rfl 5 (by decide) (hg _ q_2_41) (fun _ h9 => h9) rfl dX9_bare_28 ?_
  refine va_get (ci := 0) (v := .int v_4) (C := RX0) (T := TX0) (N := 2) hx hb hg inX0 hown hK hP 7 rfl rfl 0 (by decide) (hg _ q_1_197) (fun _ h9 => h9) rfl dX9_bare_31 ?_
  refine lv_aload_n hx hb dX9_bare_34 rfl (lv_at hl 2 rfl) ?_
  refine va_get (ci := 9) (v := .ref (y 25)) (C := RX9) (T := TX9) (N := 15) hx hb hg inX9 hown hK hP 0 rfl rfl 5 (by decide) (hg _ q_2_41) (fun _ h9 => h9) rfl dX9_bare_35 ?_
  refine va_get (ci := 0) (v := .int v_5) (C := RX0) (T := TX0) (N := 2) hx hb hg inX0 hown hK hP 7 rfl rfl 1 (by decide) (hg _ q_1_199) (fun _ h9 => h9) rfl dX9_bare_38 ?_
  refine lv_iadd hx hb dX9_bare_41 ?_
  refine lv_topi (fun x_13 ex_13 => ?_)
  refine lv_icmp_ge (tgt := 74) hx hb dX9_bare_42 (by decide) (fun c_14 => ?_) (fun c_14 => ?_)
  · refine lv_iconst (v := (-1)) hx hb dX9_bare_74 (by decide) ?_
    have hP := subP (ws' := [(y 0, .inr (9, o9_rirrrrrrrrvviii (y 1) py0_1 (y 2) (y 10) (y 19) (y 25) (y 26) (y 30) (y 31) (y 32) o10 o11 py0_12 py0_13 py0_14)), (y 2, .inr (1, o1_iiiiiirrrrrrriiiii py2_0 py2_1 py2_2 py2_3 py2_4 py2_5 (y 3) (y 4) (y 5) (y 6) (y 7) (y 8) (y 9) py2_13 py2_14 py2_15 py2_16 py2_17)), (y 3, aI V 4 fy3), (y 9, aI V 900 fy9), (y 19, .inr (4, o4_rrrrrr (y 2) (y 20) (y 21) (y 22) (y 23) (y 24))), (y 20, aI V 2000 f_9), (y 21, aI V 6 f_10), (y 22, aI V 64 f_11), (y 25, .inr (0, [.int v_4, .int v_5]))]) hP [0, 8, 1, 2, 3, 4, 5, 6, 7] rfl
    have hD := subD hP hD [0, 8, 1, 2, 3, 4, 5, 6, 7] rfl rfl
    exact fiI hx hb hr hlk hK hP hD hS dX9_bare_75 (Nat.le_of_ble_eq_true rfl) (Nat.le_of_ble_eq_true rfl) (⟨f_9, f_10, f_11, v_4, v_5, tf_9, (iv_c ((-1) : Int32) (by decide)), knn_12, rfl⟩)
  · have b_15 : iv 0 2147483646 u_7 := iv_l1 (Int32.not_le.mp c_14) bu_7 (iv_top x_13) (by decide)
    have b_16 : iv 1 2147483647 x_13 := iv_l2 (Int32.not_le.mp c_14) bu_7 (iv_top x_13) (by decide)
    refine lv_iload_n hx hb dX9_bare_45 rfl (lv_at hl 1 rfl) ?_
    refine jnI (wr := [(y 0, .inr (9, o9_rirrrrrrrrvviii (y 1) py0_1 (y 2) (y 10) (y 19) (y 25) (y 26) (y 30) (y 31) (y 32) o10 o11 py0_12 py0_13 py0_14)), (y 3, aI V 4 fy3), (y 9, aI V 900 fy9), (y 19, .inr (4, o4_rrrrrr (y 2) (y 20) (y 21) (y 22) (y 23) (y 24))), (y 20, aI V 2000 f_9), (y 21, aI V 6 f_10), (y 22, aI V 64 f_11), (y 25, .inr (0, [.int v_4, .int v_5])), (y 2, .inr (1, o1_iiiiiirrrrrrriiiii py2_0 py2_1 py2_2 py2_3 py2_4 py2_5 (y 3) (y 4) (y 5) (y 6) (y 7) (y 8) (y 9) py2_13 py2_14 py2_15 py2_16 py2_17))]) (rnS (rest := []) ⟨hx, hb, hml, hown, hg⟩ (k_X9_stacksTogether_0 l V u_8 bu_8) mt_X9_stacksTogether q_3_239 ⟨Nat.le_of_ble_eq_true rfl, Nat.le_of_ble_eq_true rfl⟩ hK hP hD hS hA hE [] rfl rfl rfl hl.1 rfl (Nat.le_of_ble_eq_true rfl) dX9_bare_46 ⟨Nat.le_of_ble_eq_true rfl, Nat.le_of_ble_eq_true rfl⟩) hP hD hS hA [] [0, 1, 2, 3, 4, 5, 6, 7, 8] rfl rfl rfl (by decide) (fun r_17 w H locs hw hP hD hS => ?_)
    obtain ⟨er_17, et_18, rfl⟩ := hw
    have hP : va_P V.1 vwCl [(y 0, .inr (9, o9_rirrrrrrrrvviii (y 1) py0_1 (y 2) (y 10) (y 19) (y 25) (y 26) (y 30) (y 31) (y 32) o10 o11 py0_12 py0_13 py0_14)), (y 3, aI V 4 fy3), (y 9, aI V 900 fy9), (y 19, .inr (4, o4_rrrrrr (y 2) (y 20) (y 21) (y 22) (y 23) (y 24))), (y 20, aI V 2000 f_9), (y 21, aI V 6 f_10), (y 22, aI V 64 f_11), (y 25, .inr (0, [.int v_4, .int v_5])), (y 2, .inr (1, o1_iiiiiirrrrrrriiiii py2_0 py2_1 py2_2 py2_3 py2_4 py2_5 (y 3) (y 4) (y 5) (y 6) (y 7) (y 8) (y 9) py2_13 py2_14 py2_15 py2_16 py2_17))] H := hP
    have hD := cpD hP hD
    refine lv_if_ne (tgt := 54) hx hb dX9_bare_49 (by decide) (fun c_19 => ?_) (fun c_19 => ?_)
    · refine lv_aload_n hx hb dX9_bare_54 rfl (lv_at hl 2 rfl) ?_
      refine va_get (ci := 9) (v := .ref (y 19)) (C := RX9) (T := TX9) (N := 15) hx hb hg inX9 hown hK hP 0 rfl rfl 4 (by decide) (hg _ q_2_40) (fun _ h9 => h9) rfl dX9_bare_55 ?_
      refine lv_iload_n hx hb dX9_bare_58 rfl (lv_at hl 1 rfl) ?_
      refine lv_aload_n hx hb dX9_bare_59 rfl (lv_at hl 2 rfl) ?_
      refine va_get (ci := 9) (v := .int py0_13) (C := RX9) (T := TX9) (N := 15) hx hb hg inX9 hown hK hP 0 rfl rfl 13 (by decide) (hg _ q_2_49) (fun _ h9 => h9) rfl dX9_bare_60 ?_
      refine lv_iconst (v := 0) hx hb dX9_bare_63 (by decide) ?_
      refine jnI (wr := [(y 0, .inr (9, o9_rirrrrrrrrvviii (y 1) py0_1 (y 2) (y 10) (y 19) (y 25) (y 26) (y 30) (y 31) (y 32) o10 o11 py0_12 py0_13 py0_14)), (y 25, .inr (0, [.int v_4, .int v_5]))]) (rnV (rest := []) ⟨hx, hb, hml, hown, hg⟩ (k_X4_behind_0 l V y u_8 py0_13 0 fy3 fy9 f_9 f_10 f_11 py2_0 py2_1 py2_2 py2_3 py2_4 py2_5 py2_13 py2_14 py2_15 py2_16 py2_17 bu_8 bpy0_13 tf_9 bpy2_1 bpy2_2 bpy2_3 bpy2_4 bpy2_5 bpy2_13 bpy2_14 bpy2_15 bpy2_16 bpy2_17) mt_X4_behind q_3_145 ⟨Nat.le_of_ble_eq_true rfl, Nat.le_of_ble_eq_true rfl⟩ hK hP hD hS hA hE [1, 2, 3, 4, 5, 6, 8] rfl rfl 3 rfl rfl rfl rfl hl.1 rfl (Nat.le_of_ble_eq_true rfl) dX9_bare_64 ⟨Nat.le_of_ble_eq_true rfl, Nat.le_of_ble_eq_true rfl⟩) hP hD hS hA [1, 2, 3, 4, 5, 6, 8] [0, 7] rfl rfl rfl (by decide) (fun r_20 w H locs hw hP hD hS => ?_)
      obtain ⟨f_21, f_22, f_23, tf_21, br_20, g_24, rfl⟩ := hw
      have qkn_25 := g_24 D9 hL9 knn_12
      have er_20 : r_20 = bhS D9 u_8 py0_13 (0 : Int32) (py2_1 : Int32).toNatClampNeg := qkn_25.1
      have kn_25 := qkn_25.2
      have hP : va_P V.1 vwCl [(y 0, .inr (9, o9_rirrrrrrrrvviii (y 1) py0_1 (y 2) (y 10) (y 19) (y 25) (y 26) (y 30) (y 31) (y 32) o10 o11 py0_12 py0_13 py0_14)), (y 25, .inr (0, [.int v_4, .int v_5])), (y 3, aI V 4 fy3), (y 9, aI V 900 fy9), (y 19, .inr (4, o4_rrrrrr (y 2) (y 20) (y 21) (y 22) (y 23) (y 24))), (y 20, aI V 2000 f_21), (y 21, aI V 6 f_22), (y 22, aI V 64 f_23), (y 2, .inr (1, o1_iiiiiirrrrrrriiiii py2_0 py2_1 py2_2 py2_3 py2_4 py2_5 (y 3) (y 4) (y 5) (y 6) (y 7) (y 8) (y 9) py2_13 py2_14 py2_15 py2_16 py2_17))] H := hP
      have hD := cpD hP hD
      refine lv_istore_n (lv' := [(1, .int r_20), (2, .int u_7), (0, .ref (y 0))]) hx hb dX9_bare_67 rfl hl (by decide) rfl (fun ls hl => ?_)
      obtain ⟨x_26, ex_26⟩ : ∃ z9 : Int32, z9 = u_7 + 1 := ⟨_, rfl⟩
      have bx_26 : iv 1 2147483647 x_26 := by rw [ex_26]; exact iv_add b_15 (iv_c (1 : Int32) (a := 1) (b := 1) (by decide)) (by decide)
      refine lv_iinc (v := x_26) (lv' := [(2, .int x_26), (1, .int r_20), (0, .ref (y 0))]) hx hb dX9_bare_68 hl (k := 1) rfl (by rw [ex_26]; rfl) (by decide) rfl (fun ls hl => ?_)
      refine lv_goto (tgt := 26) hx hb dX9_bare_71 (by decide) ?_
      have hP := subP (ws' := [(y 0, .inr (9, o9_rirrrrrrrrvviii (y 1) py0_1 (y 2) (y 10) (y 19) (y 25) (y 26) (y 30) (y 31) (y 32) o10 o11 py0_12 py0_13 py0_14)), (y 3, aI V 4 fy3), (y 9, aI V 900 fy9), (y 19, .inr (4, o4_rrrrrr (y 2) (y 20) (y 21) (y 22) (y 23) (y 24))), (y 20, aI V 2000 f_21), (y 21, aI V 6 f_22), (y 22, aI V 64 f_23), (y 25, .inr (0, [.int v_4, .int v_5])), (y 2, .inr (1, o1_iiiiiirrrrrrriiiii py2_0 py2_1 py2_2 py2_3 py2_4 py2_5 (y 3) (y 4) (y 5) (y 6) (y 7) (y 8) (y 9) py2_13 py2_14 py2_15 py2_16 py2_17))]) hP [0, 2, 3, 4, 5, 6, 7, 1, 8] rfl
      have hD := subD hP hD [0, 2, 3, 4, 5, 6, 7, 1, 8] rfl rfl
      exact ihn_12 _ _ _ _ (by rw [en_12, ex_26]; exact mu_up b_15 (by decide)) ⟨x_26, r_20, f_21, f_22, f_23, (iv_w bx_26 (by decide)), br_20, tf_21, kn_25, rfl, hP, hD, hS, lv_sub hl [0, 1, 2] rfl⟩
    · have b_27 : iv 0 0 r_17 := iv_q c_19 (iv_c (0 : Int32) (a := 0) (b := 0) (by decide))
      refine lv_iload_n hx hb dX9_bare_52 rfl (lv_at hl 0 rfl) ?_
      have hP := subP (ws' := [(y 0, .inr (9, o9_rirrrrrrrrvviii (y 1) py0_1 (y 2) (y 10) (y 19) (y 25) (y 26) (y 30) (y 31) (y 32) o10 o11 py0_12 py0_13 py0_14)), (y 2, .inr (1, o1_iiiiiirrrrrrriiiii py2_0 py2_1 py2_2 py2_3 py2_4 py2_5 (y 3) (y 4) (y 5) (y 6) (y 7) (y 8) (y 9) py2_13 py2_14 py2_15 py2_16 py2_17)), (y 3, aI V 4 fy3), (y 9, aI V 900 fy9), (y 19, .inr (4, o4_rrrrrr (y 2) (y 20) (y 21) (y 22) (y 23) (y 24))), (y 20, aI V 2000 f_9), (y 21, aI V 6 f_10), (y 22, aI V 64 f_11), (y 25, .inr (0, [.int v_4, .int v_5]))]) hP [0, 8, 1, 2, 3, 4, 5, 6, 7] rfl
      have hD := subD hP hD [0, 8, 1, 2, 3, 4, 5, 6, 7] rfl rfl
      exact fiI hx hb hr hlk hK hP hD hS dX9_bare_53 (Nat.le_of_ble_eq_true rfl) (Nat.le_of_ble_eq_true rfl) (⟨f_9, f_10, f_11, v_4, v_5, tf_9, (iv_w b_15 (by decide)), knn_12, rfl⟩)
theorem dJ7_fill_53178_0 : decode cJ7_fill_53178 0 = .ok (.iconst 0, 1) := by decide +kernel
theorem dJ7_fill_53178_1 : decode cJ7_fill_53178 1 = .ok (.istore_n 2, 1) := by decide +kernel
theorem dJ7_fill_53178_2 : decode cJ7_fill_53178 2 = .ok (.aload_n 0, 1) := by decide +kernel
theorem dJ7_fill_53178_3 : decode cJ7_fill_53178 3 = .ok (.arraylength, 1) := by decide +kernel
theorem dJ7_fill_53178_4 : decode cJ7_fill_53178 4 = .ok (.istore_n 3, 1) := by decide +kernel
theorem dJ7_fill_53178_5 : decode cJ7_fill_53178 5 = .ok (.iload_n 2, 1) := by decide +kernel
theorem dJ7_fill_53178_6 : decode cJ7_fill_53178 6 = .ok (.iload_n 3, 1) := by decide +kernel
theorem dJ7_fill_53178_7 : decode cJ7_fill_53178 7 = .ok (.if_icmp .ge 13, 3) := by decide +kernel
theorem dJ7_fill_53178_20 : decode cJ7_fill_53178 20 = .ok (.return_, 1) := by decide +kernel
theorem dJ7_fill_53178_10 : decode cJ7_fill_53178 10 = .ok (.aload_n 0, 1) := by decide +kernel
theorem dJ7_fill_53178_11 : decode cJ7_fill_53178 11 = .ok (.iload_n 2, 1) := by decide +kernel
theorem dJ7_fill_53178_12 : decode cJ7_fill_53178 12 = .ok (.iload_n 1, 1) := by decide +kernel
theorem dJ7_fill_53178_13 : decode cJ7_fill_53178 13 = .ok (.iastore, 1) := by decide +kernel
theorem dJ7_fill_53178_14 : decode cJ7_fill_53178 14 = .ok (.iinc 2 1, 3) := by decide +kernel
theorem dJ7_fill_53178_17 : decode cJ7_fill_53178 17 = .ok (.goto (-12), 3) := by decide +kernel
set_option maxHeartbeats 4000000 in
set_option maxRecDepth 100000 in
theorem k_J7_fill_53178_0 (l : Launch) (V : GV) (y : Nat → Nat) (a1 : Int32) (fy20 : Nat → Int32) (fy23 : Nat → Int32) (ba1 : iv 0 0 a1) (tfy20 : ∀ j, iv 0 10 (fy20 j)) : Ct l V yJ7_fill_53178 (.code yJ7_fill_53178 cJ7_fill_53178 4 none) 1 [.ref (y 23), .int a1] [(y 20, aI V 2000 fy20), (y 23, aI V 10 fy23)] 0 0 (QV V (fun (w : va_W) => ∃ (g0 : Nat → Int32), w = [(y 20, aI V 2000 fy20), (y 23, aI V 10 g0)])) := by
  refine Ct.of (by decide) (Nat.le_of_ble_eq_true rfl) (fun p e s m below meth c A ls hx hb hr hml hown hlk hnm hg hP hK hD hE hA hS hl => ?_)
  have hl : lv_has ls 4 [(0, .ref (y 23)), (1, .int a1)] := hl
  refine lv_iconst (v := 0) hx hb dJ7_fill_53178_0 (by decide) ?_
  refine lv_istore_n (lv' := [(2, .int 0), (0, .ref (y 23)), (1, .int a1)]) hx hb dJ7_fill_53178_1 rfl hl (by decide) rfl (fun ls hl => ?_)
  refine lv_aload_n hx hb dJ7_fill_53178_2 rfl (lv_at hl 1 rfl) ?_
  refine va_alen (v := 10) hx hb hK hP 1 0 rfl rfl rfl dJ7_fill_53178_3 ?_
  refine lv_istore_n (lv' := [(3, .int 10), (2, .int 0), (0, .ref (y 23)), (1, .int a1)]) hx hb dJ7_fill_53178_4 rfl hl (by decide) rfl (fun ls hl => ?_)
  refine loopF (X := fun (n_3 : Nat) (H : Heap) (locs : List Loc) (ls : Array Slot) => ∃ (u_1 : Int32) (f_2 : Nat → Int32), (iv 0 2147483647 u_1) ∧ (True) ∧ n_3 = (2147483647 - (u_1 : Int32).toInt).toNat ∧ va_P V.1 vwCl [(y 20, aI V 2000 fy20), (y 23, aI V 10 f_2)] H ∧ va_D A [(y 20, aI V 2000 fy20), (y 23, aI V 10 f_2)] ∧ va_S A s.heap H locs ∧ lv_has ls 4 [(3, .int 10), (2, .int u_1), (0, .ref (y 23)), (1, .int a1)]) (g := fun ls => F0 m 5 ls []) (fun n_3 H locs ls hX ihn_3 => ?_) _ ⟨0, fy23, (iv_c (0 : Int32) (by decide)), trivial, rfl, hP, hD, hS, lv_sub hl [0, 1, 2, 3] rfl⟩
  obtain ⟨u_1, f_2, bu_1, inn_3_0, en_3, hP, hD, hS, hl⟩ := hX
  refine lv_iload_n hx hb dJ7_fill_53178_5 rfl (lv_at hl 1 rfl) ?_
  refine lv_iload_n hx hb dJ7_fill_53178_6 rfl (lv_at hl 0 rfl) ?_
  refine lv_icmp_ge (tgt := 20) hx hb dJ7_fill_53178_7 (by decide) (fun c_4 => ?_) (fun c_4 => ?_)
  · have b_5 : iv 10 2147483647 u_1 := iv_e2 c_4 (iv_c (10 : Int32) (a := 10) (b := 10) (by decide)) bu_1 (by decide)
    exact fiV hx hb hr hlk hK hP hD hS dJ7_fill_53178_20 (Nat.le_of_ble_eq_true rfl) (Nat.le_of_ble_eq_true rfl) (⟨f_2, rfl⟩)
  · have b_6 : iv 0 9 u_1 := iv_l1 (Int32.not_le.mp c_4) bu_1 (iv_c (10 : Int32) (a := 10) (b := 10) (by decide)) (by decide)
    refine lv_aload_n hx hb dJ7_fill_53178_10 rfl (lv_at hl 2 rfl) ?_
    refine lv_iload_n hx hb dJ7_fill_53178_11 rfl (lv_at hl 1 rfl) ?_
    refine lv_iload_n hx hb dJ7_fill_53178_12 rfl (lv_at hl 3 rfl) ?_
    refine va_iast hx hb hK hP hD hS 1 0 rfl rfl (iv_in b_6 (by decide)) dJ7_fill_53178_13 (fun H locs hP hD hS => ?_)
    obtain ⟨f_7, hP, hD⟩ : ∃ f_7 : Nat → Int32, va_P V.1 vwCl [(y 20, aI V 2000 fy20), (y 23, aI V 10 f_7)] H ∧ va_D A [(y 20, aI V 2000 fy20), (y 23, aI V 10 f_7)] := ⟨_, hP, hD⟩
    obtain ⟨x_8, ex_8⟩ : ∃ z9 : Int32, z9 = u_1 + 1 := ⟨_, rfl⟩
    have bx_8 : iv 1 10 x_8 := by rw [ex_8]; exact iv_add b_6 (iv_c (1 : Int32) (a := 1) (b := 1) (by decide)) (by decide)
    refine lv_iinc (v := x_8) (lv' := [(2, .int x_8), (3, .int 10), (0, .ref (y 23)), (1, .int a1)]) hx hb dJ7_fill_53178_14 hl (k := 1) rfl (by rw [ex_8]; rfl) (by decide) rfl (fun ls hl => ?_)
    refine lv_goto (tgt := 5) hx hb dJ7_fill_53178_17 (by decide) ?_
    exact ihn_3 _ _ _ _ (by rw [en_3, ex_8]; exact mu_up b_6 (by decide)) ⟨x_8, f_7, (iv_w bx_8 (by decide)), trivial, rfl, hP, hD, hS, lv_sub hl [1, 0, 2, 3] rfl⟩
set_option maxHeartbeats 4000000 in
set_option maxRecDepth 100000 in
theorem k_J7_fill_53178_1 (l : Launch) (V : GV) (y : Nat → Nat) (a1 : Int32) (fy24 : Nat → Int32) (fy20 : Nat → Int32) (ba1 : iv 0 0 a1) (tfy20 : ∀ j, iv 0 10 (fy20 j)) : Ct l V yJ7_fill_53178 (.code yJ7_fill_53178 cJ7_fill_53178 4 none) 1 [.ref (y 24), .int a1] [(y 24, aI V 10 fy24), (y 20, aI V 2000 fy20)] 0 0 (QV V (fun (w : va_W) => ∃ (g0 : Nat → Int32), w = [(y 24, aI V 10 g0), (y 20, aI V 2000 fy20)])) := by
  refine Ct.of (by decide) (Nat.le_of_ble_eq_true rfl) (fun p e s m below meth c A ls hx hb hr hml hown hlk hnm hg hP hK hD hE hA hS hl => ?_)
  have hl : lv_has ls 4 [(0, .ref (y 24)), (1, .int a1)] := hl
  refine lv_iconst (v := 0) hx hb dJ7_fill_53178_0 (by decide) ?_
  refine lv_istore_n (lv' := [(2, .int 0), (0, .ref (y 24)), (1, .int a1)]) hx hb dJ7_fill_53178_1 rfl hl (by decide) rfl (fun ls hl => ?_)
  refine lv_aload_n hx hb dJ7_fill_53178_2 rfl (lv_at hl 1 rfl) ?_
  refine va_alen (v := 10) hx hb hK hP 0 0 rfl rfl rfl dJ7_fill_53178_3 ?_
  refine lv_istore_n (lv' := [(3, .int 10), (2, .int 0), (0, .ref (y 24)), (1, .int a1)]) hx hb dJ7_fill_53178_4 rfl hl (by decide) rfl (fun ls hl => ?_)
  refine loopF (X := fun (n_3 : Nat) (H : Heap) (locs : List Loc) (ls : Array Slot) => ∃ (u_1 : Int32) (f_2 : Nat → Int32), (iv 0 2147483647 u_1) ∧ (True) ∧ n_3 = (2147483647 - (u_1 : Int32).toInt).toNat ∧ va_P V.1 vwCl [(y 24, aI V 10 f_2), (y 20, aI V 2000 fy20)] H ∧ va_D A [(y 24, aI V 10 f_2), (y 20, aI V 2000 fy20)] ∧ va_S A s.heap H locs ∧ lv_has ls 4 [(3, .int 10), (2, .int u_1), (0, .ref (y 24)), (1, .int a1)]) (g := fun ls => F0 m 5 ls []) (fun n_3 H locs ls hX ihn_3 => ?_) _ ⟨0, fy24, (iv_c (0 : Int32) (by decide)), trivial, rfl, hP, hD, hS, lv_sub hl [0, 1, 2, 3] rfl⟩
  obtain ⟨u_1, f_2, bu_1, inn_3_0, en_3, hP, hD, hS, hl⟩ := hX
  refine lv_iload_n hx hb dJ7_fill_53178_5 rfl (lv_at hl 1 rfl) ?_
  refine lv_iload_n hx hb dJ7_fill_53178_6 rfl (lv_at hl 0 rfl) ?_
  refine lv_icmp_ge (tgt := 20) hx hb dJ7_fill_53178_7 (by decide) (fun c_4 => ?_) (fun c_4 => ?_)
  · have b_5 : iv 10 2147483647 u_1 := iv_e2 c_4 (iv_c (10 : Int32) (a := 10) (b := 10) (by decide)) bu_1 (by decide)
    exact fiV hx hb hr hlk hK hP hD hS dJ7_fill_53178_20 (Nat.le_of_ble_eq_true rfl) (Nat.le_of_ble_eq_true rfl) (⟨f_2, rfl⟩)
  · have b_6 : iv 0 9 u_1 := iv_l1 (Int32.not_le.mp c_4) bu_1 (iv_c (10 : Int32) (a := 10) (b := 10) (by decide)) (by decide)
    refine lv_aload_n hx hb dJ7_fill_53178_10 rfl (lv_at hl 2 rfl) ?_
    refine lv_iload_n hx hb dJ7_fill_53178_11 rfl (lv_at hl 1 rfl) ?_
    refine lv_iload_n hx hb dJ7_fill_53178_12 rfl (lv_at hl 3 rfl) ?_
    refine va_iast hx hb hK hP hD hS 0 0 rfl rfl (iv_in b_6 (by decide)) dJ7_fill_53178_13 (fun H locs hP hD hS => ?_)
    obtain ⟨f_7, hP, hD⟩ : ∃ f_7 : Nat → Int32, va_P V.1 vwCl [(y 24, aI V 10 f_7), (y 20, aI V 2000 fy20)] H ∧ va_D A [(y 24, aI V 10 f_7), (y 20, aI V 2000 fy20)] := ⟨_, hP, hD⟩
    obtain ⟨x_8, ex_8⟩ : ∃ z9 : Int32, z9 = u_1 + 1 := ⟨_, rfl⟩
    have bx_8 : iv 1 10 x_8 := by rw [ex_8]; exact iv_add b_6 (iv_c (1 : Int32) (a := 1) (b := 1) (by decide)) (by decide)
    refine lv_iinc (v := x_8) (lv' := [(2, .int x_8), (3, .int 10), (0, .ref (y 24)), (1, .int a1)]) hx hb dJ7_fill_53178_14 hl (k := 1) rfl (by rw [ex_8]; rfl) (by decide) rfl (fun ls hl => ?_)
    refine lv_goto (tgt := 5) hx hb dJ7_fill_53178_17 (by decide) ?_
    exact ihn_3 _ _ _ _ (by rw [en_3, ex_8]; exact mu_up b_6 (by decide)) ⟨x_8, f_7, (iv_w bx_8 (by decide)), trivial, rfl, hP, hD, hS, lv_sub hl [1, 0, 2, 3] rfl⟩
theorem dX4_howManyStay_0 : decode cX4_howManyStay 0 = .ok (.aload_n 0, 1) := by decide +kernel
theorem q_1_175 : Cond.fieldLink "BeaconDelay$Laws" 21 "BeaconDelay$Laws" "staying" "[I" ∈ gw := gw_1 (i := 175) (by decide +kernel) rfl
theorem dX4_howManyStay_1 : decode cX4_howManyStay 1 = .ok (.getfield 21, 3) := by decide +kernel
theorem dX4_howManyStay_4 : decode cX4_howManyStay 4 = .ok (.iconst 0, 1) := by decide +kernel
theorem q_3_109 : Cond.code yJ7_fill_53178 prog_20_method_103_code 4 none ∈ gw := gw_3 (i := 109) (rfl) rfl
theorem q_1_17 : Cond.initialized "java/util/Arrays" ∈ gw := gw_1 (i := 17) (by decide +kernel) rfl
theorem q_3_108 : Cond.static yJ7_fill_53178 ∈ gw := gw_3 (i := 108) (by decide +kernel) rfl
theorem mt_J7_fill_53178 : MtS yJ7_fill_53178 cJ7_fill_53178 4 none 2 := ⟨⟨q_3_109, q_1_17, by decide +kernel, by decide +kernel, by decide +kernel⟩, q_3_108⟩
theorem q_3_107 : Cond.methodLink "BeaconDelay$Laws" 31 yJ7_fill_53178 ∈ gw := gw_3 (i := 107) (by decide +kernel) rfl
theorem dX4_howManyStay_5 : decode cX4_howManyStay 5 = .ok (.invokestatic 31, 3) := by decide +kernel
theorem dX4_howManyStay_8 : decode cX4_howManyStay 8 = .ok (.aload_n 0, 1) := by decide +kernel
theorem dX4_howManyStay_9 : decode cX4_howManyStay 9 = .ok (.getfield 21, 3) := by decide +kernel
theorem dX4_howManyStay_12 : decode cX4_howManyStay 12 = .ok (.iconst 0, 1) := by decide +kernel
theorem dX4_howManyStay_13 : decode cX4_howManyStay 13 = .ok (.iconst 1, 1) := by decide +kernel
theorem dX4_howManyStay_14 : decode cX4_howManyStay 14 = .ok (.iastore, 1) := by decide +kernel
theorem dX4_howManyStay_15 : decode cX4_howManyStay 15 = .ok (.iconst 1, 1) := by decide +kernel
theorem dX4_howManyStay_16 : decode cX4_howManyStay 16 = .ok (.istore_n 2, 1) := by decide +kernel
theorem dX4_howManyStay_17 : decode cX4_howManyStay 17 = .ok (.iconst 0, 1) := by decide +kernel
theorem dX4_howManyStay_18 : decode cX4_howManyStay 18 = .ok (.istore_n 3, 1) := by decide +kernel
theorem dX4_howManyStay_19 : decode cX4_howManyStay 19 = .ok (.iload_n 3, 1) := by decide +kernel
theorem dX4_howManyStay_20 : decode cX4_howManyStay 20 = .ok (.aload_n 0, 1) := by decide +kernel
theorem dX4_howManyStay_21 : decode cX4_howManyStay 21 = .ok (.getfield 27, 3) := by decide +kernel
theorem dX4_howManyStay_24 : decode cX4_howManyStay 24 = .ok (.getfield 37, 3) := by decide +kernel
theorem dX4_howManyStay_27 : decode cX4_howManyStay 27 = .ok (.if_icmp .ge 124, 3) := by decide +kernel
theorem dX4_howManyStay_151 : decode cX4_howManyStay 151 = .ok (.iload_n 2, 1) := by decide +kernel
theorem dX4_howManyStay_152 : decode cX4_howManyStay 152 = .ok (.ireturn, 1) := by decide +kernel
theorem dX4_howManyStay_30 : decode cX4_howManyStay 30 = .ok (.aload_n 0, 1) := by decide +kernel
theorem q_1_176 : Cond.fieldLink "BeaconDelay$Laws" 24 "BeaconDelay$Laws" "stayingEast" "[I" ∈ gw := gw_1 (i := 176) (by decide +kernel) rfl
theorem dX4_howManyStay_31 : decode cX4_howManyStay 31 = .ok (.getfield 24, 3) := by decide +kernel
theorem dX4_howManyStay_34 : decode cX4_howManyStay 34 = .ok (.iconst 0, 1) := by decide +kernel
theorem dX4_howManyStay_35 : decode cX4_howManyStay 35 = .ok (.invokestatic 31, 3) := by decide +kernel
theorem dX4_howManyStay_38 : decode cX4_howManyStay 38 = .ok (.iconst 0, 1) := by decide +kernel
theorem dX4_howManyStay_39 : decode cX4_howManyStay 39 = .ok (.istore_n 2, 1) := by decide +kernel
theorem dX4_howManyStay_40 : decode cX4_howManyStay 40 = .ok (.iconst 0, 1) := by decide +kernel
theorem dX4_howManyStay_41 : decode cX4_howManyStay 41 = .ok (.istore 4, 2) := by decide +kernel
theorem dX4_howManyStay_43 : decode cX4_howManyStay 43 = .ok (.iload 4, 2) := by decide +kernel
theorem dX4_howManyStay_45 : decode cX4_howManyStay 45 = .ok (.bipush 100, 2) := by decide +kernel
theorem dX4_howManyStay_47 : decode cX4_howManyStay 47 = .ok (.if_icmp .ge 83, 3) := by decide +kernel
theorem dX4_howManyStay_130 : decode cX4_howManyStay 130 = .ok (.aload_n 0, 1) := by decide +kernel
theorem dX4_howManyStay_131 : decode cX4_howManyStay 131 = .ok (.getfield 24, 3) := by decide +kernel
theorem dX4_howManyStay_134 : decode cX4_howManyStay 134 = .ok (.iconst 0, 1) := by decide +kernel
theorem dX4_howManyStay_135 : decode cX4_howManyStay 135 = .ok (.aload_n 0, 1) := by decide +kernel
theorem dX4_howManyStay_136 : decode cX4_howManyStay 136 = .ok (.getfield 21, 3) := by decide +kernel
theorem dX4_howManyStay_139 : decode cX4_howManyStay 139 = .ok (.iconst 0, 1) := by decide +kernel
theorem dX4_howManyStay_140 : decode cX4_howManyStay 140 = .ok (.bipush 10, 2) := by decide +kernel
theorem q_4_44 : Cond.methodLink "BeaconDelay$Laws" 91 arraycopyName ∈ gw := gw_4 (i := 44) (by decide +kernel) rfl
theorem dX4_howManyStay_142 : decode cX4_howManyStay 142 = .ok (.invokestatic 91, 3) := by decide +kernel
theorem dX4_howManyStay_145 : decode cX4_howManyStay 145 = .ok (.iinc 3 1, 3) := by decide +kernel
theorem dX4_howManyStay_148 : decode cX4_howManyStay 148 = .ok (.goto (-129), 3) := by decide +kernel
theorem dX4_howManyStay_50 : decode cX4_howManyStay 50 = .ok (.iload 4, 2) := by decide +kernel
theorem dX4_howManyStay_52 : decode cX4_howManyStay 52 = .ok (.bipush 10, 2) := by decide +kernel
theorem dX4_howManyStay_54 : decode cX4_howManyStay 54 = .ok (.idiv, 1) := by decide +kernel
theorem dX4_howManyStay_55 : decode cX4_howManyStay 55 = .ok (.istore 5, 2) := by decide +kernel
theorem dX4_howManyStay_57 : decode cX4_howManyStay 57 = .ok (.iload 4, 2) := by decide +kernel
theorem dX4_howManyStay_59 : decode cX4_howManyStay 59 = .ok (.bipush 10, 2) := by decide +kernel
theorem dX4_howManyStay_61 : decode cX4_howManyStay 61 = .ok (.irem, 1) := by decide +kernel
theorem dX4_howManyStay_62 : decode cX4_howManyStay 62 = .ok (.istore 6, 2) := by decide +kernel
theorem dX4_howManyStay_64 : decode cX4_howManyStay 64 = .ok (.aload_n 0, 1) := by decide +kernel
theorem dX4_howManyStay_65 : decode cX4_howManyStay 65 = .ok (.getfield 21, 3) := by decide +kernel
theorem dX4_howManyStay_68 : decode cX4_howManyStay 68 = .ok (.iload 5, 2) := by decide +kernel
theorem dX4_howManyStay_70 : decode cX4_howManyStay 70 = .ok (.iaload, 1) := by decide +kernel
theorem dX4_howManyStay_71 : decode cX4_howManyStay 71 = .ok (.ifCond .eq 53, 3) := by decide +kernel
theorem dX4_howManyStay_124 : decode cX4_howManyStay 124 = .ok (.iinc 4 1, 3) := by decide +kernel
theorem dX4_howManyStay_127 : decode cX4_howManyStay 127 = .ok (.goto (-84), 3) := by decide +kernel
theorem dX4_howManyStay_74 : decode cX4_howManyStay 74 = .ok (.aload_n 0, 1) := by decide +kernel
theorem dX4_howManyStay_75 : decode cX4_howManyStay 75 = .ok (.iload_n 1, 1) := by decide +kernel
theorem dX4_howManyStay_76 : decode cX4_howManyStay 76 = .ok (.iload_n 3, 1) := by decide +kernel
theorem dX4_howManyStay_77 : decode cX4_howManyStay 77 = .ok (.iload 6, 2) := by decide +kernel
theorem dX4_howManyStay_79 : decode cX4_howManyStay 79 = .ok (.iconst 2, 1) := by decide +kernel
theorem dX4_howManyStay_80 : decode cX4_howManyStay 80 = .ok (.idiv, 1) := by decide +kernel
theorem dX4_howManyStay_81 : decode cX4_howManyStay 81 = .ok (.iload 5, 2) := by decide +kernel
theorem dX4_howManyStay_83 : decode cX4_howManyStay 83 = .ok (.iconst 2, 1) := by decide +kernel
theorem dX4_howManyStay_84 : decode cX4_howManyStay 84 = .ok (.idiv, 1) := by decide +kernel
theorem dX4_howManyStay_85 : decode cX4_howManyStay 85 = .ok (.iload 5, 2) := by decide +kernel
theorem dX4_howManyStay_87 : decode cX4_howManyStay 87 = .ok (.iconst 2, 1) := by decide +kernel
theorem dX4_howManyStay_88 : decode cX4_howManyStay 88 = .ok (.irem, 1) := by decide +kernel
theorem dX4_howManyStay_89 : decode cX4_howManyStay 89 = .ok (.invokevirtual 46, 3) := by decide +kernel
theorem dX4_howManyStay_92 : decode cX4_howManyStay 92 = .ok (.iload 6, 2) := by decide +kernel
theorem dX4_howManyStay_94 : decode cX4_howManyStay 94 = .ok (.if_icmp .ne 30, 3) := by decide +kernel
theorem dX4_howManyStay_97 : decode cX4_howManyStay 97 = .ok (.aload_n 0, 1) := by decide +kernel
theorem dX4_howManyStay_98 : decode cX4_howManyStay 98 = .ok (.getfield 24, 3) := by decide +kernel
theorem dX4_howManyStay_101 : decode cX4_howManyStay 101 = .ok (.iload 6, 2) := by decide +kernel
theorem dX4_howManyStay_103 : decode cX4_howManyStay 103 = .ok (.dup2, 1) := by decide +kernel
theorem dX4_howManyStay_104 : decode cX4_howManyStay 104 = .ok (.iaload, 1) := by decide +kernel
theorem dX4_howManyStay_105 : decode cX4_howManyStay 105 = .ok (.aload_n 0, 1) := by decide +kernel
theorem dX4_howManyStay_106 : decode cX4_howManyStay 106 = .ok (.getfield 21, 3) := by decide +kernel
theorem dX4_howManyStay_109 : decode cX4_howManyStay 109 = .ok (.iload 5, 2) := by decide +kernel
theorem dX4_howManyStay_111 : decode cX4_howManyStay 111 = .ok (.iaload, 1) := by decide +kernel
theorem dX4_howManyStay_112 : decode cX4_howManyStay 112 = .ok (.iadd, 1) := by decide +kernel
theorem dX4_howManyStay_113 : decode cX4_howManyStay 113 = .ok (.iastore, 1) := by decide +kernel
theorem dX4_howManyStay_114 : decode cX4_howManyStay 114 = .ok (.iload_n 2, 1) := by decide +kernel
theorem dX4_howManyStay_115 : decode cX4_howManyStay 115 = .ok (.aload_n 0, 1) := by decide +kernel
theorem dX4_howManyStay_116 : decode cX4_howManyStay 116 = .ok (.getfield 21, 3) := by decide +kernel
theorem dX4_howManyStay_119 : decode cX4_howManyStay 119 = .ok (.iload 5, 2) := by decide +kernel
theorem dX4_howManyStay_121 : decode cX4_howManyStay 121 = .ok (.iaload, 1) := by decide +kernel
theorem dX4_howManyStay_122 : decode cX4_howManyStay 122 = .ok (.iadd, 1) := by decide +kernel
theorem dX4_howManyStay_123 : decode cX4_howManyStay 123 = .ok (.istore_n 2, 1) := by decide +kernel
set_option maxHeartbeats 4000000 in
set_option maxRecDepth 100000 in
theorem k_X4_howManyStay_0 (l : Launch) (V : GV) (y : Nat → Nat) (D9 : Nat → Int32) (a1 : Int32) (py2_0 : Int32) (py2_1 : Int32) (py2_2 : Int32) (py2_3 : Int32) (py2_4 : Int32) (py2_5 : Int32) (py2_13 : Int32) (py2_14 : Int32) (py2_15 : Int32) (py2_16 : Int32) (py2_17 : Int32) (fy3 : Nat → Int32) (fy9 : Nat → Int32) (fy20 : Nat → Int32) (fy21 : Nat → Int32) (fy22 : Nat → Int32) (fy23 : Nat → Int32) (fy24 : Nat → Int32) (ba1 : iv 0 9 a1) (bpy2_1 : iv 0 4 py2_1) (bpy2_2 : iv 0 4 py2_2) (bpy2_3 : iv 0 8 py2_3) (bpy2_4 : iv 0 9999 py2_4) (bpy2_5 : iv 0 9 py2_5) (bpy2_13 : iv 0 900 py2_13) (bpy2_14 : iv 0 900 py2_14) (bpy2_15 : iv 0 900 py2_15) (bpy2_16 : iv 0 900 py2_16) (bpy2_17 : iv 0 900 py2_17) (tfy20 : ∀ j, iv 0 10 (fy20 j)) (hL9 : LW D9 fy3 fy9 py2_14 py2_15 py2_16 py2_17) (hK9 : KN D9 fy20) : Ct l V yX4_howManyStay (.code yX4_howManyStay cX4_howManyStay 7 (some .int)) 5 [.ref (y 19), .int a1] [(y 2, .inr (1, o1_iiiiiirrrrrrriiiii py2_0 py2_1 py2_2 py2_3 py2_4 py2_5 (y 3) (y 4) (y 5) (y 6) (y 7) (y 8) (y 9) py2_13 py2_14 py2_15 py2_16 py2_17)), (y 3, aI V 4 fy3), (y 9, aI V 900 fy9), (y 19, .inr (4, o4_rrrrrr (y 2) (y 20) (y 21) (y 22) (y 23) (y 24))), (y 20, aI V 2000 fy20), (y 21, aI V 6 fy21), (y 22, aI V 64 fy22), (y 23, aI V 10 fy23), (y 24, aI V 10 fy24)] 0 0 (QI V (fun (r : Int32) (w : va_W) => ∃ (g0 : Nat → Int32) (g1 : Nat → Int32) (g2 : Nat → Int32) (g3 : Nat → Int32) (g4 : Nat → Int32), (∀ j, iv 0 10 (g0 j)) ∧ KN D9 g0 ∧ w = [(y 2, .inr (1, o1_iiiiiirrrrrrriiiii py2_0 py2_1 py2_2 py2_3 py2_4 py2_5 (y 3) (y 4) (y 5) (y 6) (y 7) (y 8) (y 9) py2_13 py2_14 py2_15 py2_16 py2_17)), (y 3, aI V 4 fy3), (y 9, aI V 900 fy9), (y 19, .inr (4, o4_rrrrrr (y 2) (y 20) (y 21) (y 22) (y 23) (y 24))), (y 20, aI V 2000 g0), (y 21, aI V 6 g1), (y 22, aI V 64 g2), (y 23, aI V 10 g3), (y 24, aI V 10 g4)])) := by
  refine Ct.of (by decide) (Nat.le_of_ble_eq_true rfl) (fun p e s m below meth c A ls hx hb hr hml hown hlk hnm hg hP hK hD hE hA hS hl => ?_)
  have hl : lv_has ls 7 [(0, .ref (y 19)), (1, .int a1)] := hl
  refine lv_aload_n hx hb dX4_howManyStay_0 rfl (lv_at hl 0 rfl) ?_
  refine va_get (ci := 4) (v := .ref (y 23)) (C := RX4) (T := TX4) (N := 6) hx hb hg inX4 hown hK hP 3 rfl rfl 4 (by decide) (hg _ q_1_175) (fun _ h9 => h9) rfl dX4_howManyStay_1 ?_
  refine lv_iconst (v := 0) hx hb dX4_howManyStay_4 (by decide) ?_
  refine jnV (wr := [(y 2, .inr (1, o1_iiiiiirrrrrrriiiii py2_0 py2_1 py2_2 py2_3 py2_4 py2_5 (y 3) (y 4) (y 5) (y 6) (y 7) (y 8) (y 9) py2_13 py2_14 py2_15 py2_16 py2_17)), (y 3, aI V 4 fy3), (y 9, aI V 900 fy9), (y 19, .inr (4, o4_rrrrrr (y 2) (y 20) (y 21) (y 22) (y 23) (y 24))), (y 21, aI V 6 fy21), (y 22, aI V 64 fy22), (y 24, aI V 10 fy24)]) (rnS (rest := []) ⟨hx, hb, hml, hown, hg⟩ (k_J7_fill_53178_0 l V y 0 fy20 fy23 (iv_c (0 : Int32) (by decide)) tfy20) mt_J7_fill_53178 q_3_107 ⟨Nat.le_of_ble_eq_true rfl, Nat.le_of_ble_eq_true rfl⟩ hK hP hD hS hA hE [4, 7] rfl rfl rfl hl.1 rfl (Nat.le_of_ble_eq_true rfl) dX4_howManyStay_5 ⟨Nat.le_of_ble_eq_true rfl, Nat.le_of_ble_eq_true rfl⟩) hP hD hS hA [4, 7] [0, 1, 2, 3, 5, 6, 8] rfl rfl rfl (by decide) (fun  w H locs hw hP hD hS => ?_)
  obtain ⟨f_1, rfl⟩ := hw
  have hP : va_P V.1 vwCl [(y 2, .inr (1, o1_iiiiiirrrrrrriiiii py2_0 py2_1 py2_2 py2_3 py2_4 py2_5 (y 3) (y 4) (y 5) (y 6) (y 7) (y 8) (y 9) py2_13 py2_14 py2_15 py2_16 py2_17)), (y 3, aI V 4 fy3), (y 9, aI V 900 fy9), (y 19, .inr (4, o4_rrrrrr (y 2) (y 20) (y 21) (y 22) (y 23) (y 24))), (y 21, aI V 6 fy21), (y 22, aI V 64 fy22), (y 24, aI V 10 fy24), (y 20, aI V 2000 fy20), (y 23, aI V 10 f_1)] H := hP
  have hD := cpD hP hD
  refine lv_aload_n hx hb dX4_howManyStay_8 rfl (lv_at hl 0 rfl) ?_
  refine va_get (ci := 4) (v := .ref (y 23)) (C := RX4) (T := TX4) (N := 6) hx hb hg inX4 hown hK hP 3 rfl rfl 4 (by decide) (hg _ q_1_175) (fun _ h9 => h9) rfl dX4_howManyStay_9 ?_
  refine lv_iconst (v := 0) hx hb dX4_howManyStay_12 (by decide) ?_
  refine lv_iconst (v := 1) hx hb dX4_howManyStay_13 (by decide) ?_
  refine va_iast hx hb hK hP hD hS 8 0 rfl rfl (vin (by decide +kernel)) dX4_howManyStay_14 (fun H locs hP hD hS => ?_)
  obtain ⟨f_2, hP, hD⟩ : ∃ f_2 : Nat → Int32, va_P V.1 vwCl [(y 2, .inr (1, o1_iiiiiirrrrrrriiiii py2_0 py2_1 py2_2 py2_3 py2_4 py2_5 (y 3) (y 4) (y 5) (y 6) (y 7) (y 8) (y 9) py2_13 py2_14 py2_15 py2_16 py2_17)), (y 3, aI V 4 fy3), (y 9, aI V 900 fy9), (y 19, .inr (4, o4_rrrrrr (y 2) (y 20) (y 21) (y 22) (y 23) (y 24))), (y 21, aI V 6 fy21), (y 22, aI V 64 fy22), (y 24, aI V 10 fy24), (y 20, aI V 2000 fy20), (y 23, aI V 10 f_2)] H ∧ va_D A [(y 2, .inr (1, o1_iiiiiirrrrrrriiiii py2_0 py2_1 py2_2 py2_3 py2_4 py2_5 (y 3) (y 4) (y 5) (y 6) (y 7) (y 8) (y 9) py2_13 py2_14 py2_15 py2_16 py2_17)), (y 3, aI V 4 fy3), (y 9, aI V 900 fy9), (y 19, .inr (4, o4_rrrrrr (y 2) (y 20) (y 21) (y 22) (y 23) (y 24))), (y 21, aI V 6 fy21), (y 22, aI V 64 fy22), (y 24, aI V 10 fy24), (y 20, aI V 2000 fy20), (y 23, aI V 10 f_2)] := ⟨_, hP, hD⟩
  refine lv_iconst (v := 1) hx hb dX4_howManyStay_15 (by decide) ?_
  refine lv_istore_n (lv' := [(2, .int 1), (0, .ref (y 19)), (1, .int a1)]) hx hb dX4_howManyStay_16 rfl hl (by decide) rfl (fun ls hl => ?_)
  refine lv_iconst (v := 0) hx hb dX4_howManyStay_17 (by decide) ?_
  refine lv_istore_n (lv' := [(3, .int 0), (2, .int 1), (0, .ref (y 19)), (1, .int a1)]) hx hb dX4_howManyStay_18 rfl hl (by decide) rfl (fun ls hl => ?_)
  refine loopF (X := fun (n_10 : Nat) (H : Heap) (locs : List Loc) (ls : Array Slot) => ∃ (u_3 : Int32) (u_4 : Int32) (f_5 : Nat → Int32) (f_6 : Nat → Int32) (f_7 : Nat → Int32) (f_8 : Nat → Int32) (f_9 : Nat → Int32), (iv 0 2147483647 u_3) ∧ (∀ j, iv 0 10 (f_8 j)) ∧ KN D9 f_8 ∧ n_10 = (2147483647 - (u_3 : Int32).toInt).toNat ∧ va_P V.1 vwCl [(y 2, .inr (1, o1_iiiiiirrrrrrriiiii py2_0 py2_1 py2_2 py2_3 py2_4 py2_5 (y 3) (y 4) (y 5) (y 6) (y 7) (y 8) (y 9) py2_13 py2_14 py2_15 py2_16 py2_17)), (y 3, aI V 4 fy3), (y 9, aI V 900 fy9), (y 19, .inr (4, o4_rrrrrr (y 2) (y 20) (y 21) (y 22) (y 23) (y 24))), (y 21, aI V 6 f_5), (y 22, aI V 64 f_6), (y 24, aI V 10 f_7), (y 20, aI V 2000 f_8), (y 23, aI V 10 f_9)] H ∧ va_D A [(y 2, .inr (1, o1_iiiiiirrrrrrriiiii py2_0 py2_1 py2_2 py2_3 py2_4 py2_5 (y 3) (y 4) (y 5) (y 6) (y 7) (y 8) (y 9) py2_13 py2_14 py2_15 py2_16 py2_17)), (y 3, aI V 4 fy3), (y 9, aI V 900 fy9), (y 19, .inr (4, o4_rrrrrr (y 2) (y 20) (y 21) (y 22) (y 23) (y 24))), (y 21, aI V 6 f_5), (y 22, aI V 64 f_6), (y 24, aI V 10 f_7), (y 20, aI V 2000 f_8), (y 23, aI V 10 f_9)] ∧ va_S A s.heap H locs ∧ lv_has ls 7 [(3, .int u_3), (2, .int u_4), (0, .ref (y 19)), (1, .int a1)]) (g := fun ls => F0 m 19 ls []) (fun n_10 H locs ls hX ihn_10 => ?_) _ ⟨0, 1, fy21, fy22, fy24, fy20, f_2, (iv_c (0 : Int32) (by decide)), tfy20, hK9, rfl, hP, hD, hS, lv_sub hl [0, 1, 2, 3] rfl⟩
  obtain ⟨u_3, u_4, f_5, f_6, f_7, f_8, f_9, bu_3, tf_8, knn_10, en_10, hP, hD, hS, hl⟩ := hX
  refine lv_iload_n hx hb dX4_howManyStay_19 rfl (lv_at hl 0 rfl) ?_
  refine lv_aload_n hx hb dX4_howManyStay_20 rfl (lv_at hl 2 rfl) ?_
  refine va_get (ci := 4) (v := .ref (y 2)) (C := RX4) (T := TX4) (N := 6) hx hb hg inX4 hown hK hP 3 rfl rfl 0 (by decide) (hg _ q_1_171) (fun _ h9 => h9) rfl dX4_howManyStay_21 ?_
  refine va_get (ci := 1) (v := .int py2_1) (C := RX1) (T := TX1) (N := 18) hx hb hg inX1 hown hK hP 0 rfl rfl 1 (by decide) (hg _ q_1_39) (fun _ h9 => h9) rfl dX4_howManyStay_24 ?_
  refine lv_icmp_ge (tgt := 151) hx hb dX4_howManyStay_27 (by decide) (fun c_11 => ?_) (fun c_11 => ?_)
  · refine lv_iload_n hx hb dX4_howManyStay_151 rfl (lv_at hl 1 rfl) ?_
    have hP := subP (ws' := [(y 2, .inr (1, o1_iiiiiirrrrrrriiiii py2_0 py2_1 py2_2 py2_3 py2_4 py2_5 (y 3) (y 4) (y 5) (y 6) (y 7) (y 8) (y 9) py2_13 py2_14 py2_15 py2_16 py2_17)), (y 3, aI V 4 fy3), (y 9, aI V 900 fy9), (y 19, .inr (4, o4_rrrrrr (y 2) (y 20) (y 21) (y 22) (y 23) (y 24))), (y 20, aI V 2000 f_8), (y 21, aI V 6 f_5), (y 22, aI V 64 f_6), (y 23, aI V 10 f_9), (y 24, aI V 10 f_7)]) hP [0, 1, 2, 3, 7, 4, 5, 8, 6] rfl
    have hD := subD hP hD [0, 1, 2, 3, 7, 4, 5, 8, 6] rfl rfl
    exact fiI hx hb hr hlk hK hP hD hS dX4_howManyStay_152 (Nat.le_of_ble_eq_true rfl) (Nat.le_of_ble_eq_true rfl) (⟨f_8, f_5, f_6, f_9, f_7, tf_8, knn_10, rfl⟩)
  · have b_12 : iv 0 3 u_3 := iv_l1 (Int32.not_le.mp c_11) bu_3 bpy2_1 (by decide)
    have b_13 : iv 1 4 py2_1 := iv_l2 (Int32.not_le.mp c_11) bu_3 bpy2_1 (by decide)
    refine lv_aload_n hx hb dX4_howManyStay_30 rfl (lv_at hl 2 rfl) ?_
    refine va_get (ci := 4) (v := .ref (y 24)) (C := RX4) (T := TX4) (N := 6) hx hb hg inX4 hown hK hP 3 rfl rfl 5 (by decide) (hg _ q_1_176) (fun _ h9 => h9) rfl dX4_howManyStay_31 ?_
    refine lv_iconst (v := 0) hx hb dX4_howManyStay_34 (by decide) ?_
    refine jnV (wr := [(y 2, .inr (1, o1_iiiiiirrrrrrriiiii py2_0 py2_1 py2_2 py2_3 py2_4 py2_5 (y 3) (y 4) (y 5) (y 6) (y 7) (y 8) (y 9) py2_13 py2_14 py2_15 py2_16 py2_17)), (y 3, aI V 4 fy3), (y 9, aI V 900 fy9), (y 19, .inr (4, o4_rrrrrr (y 2) (y 20) (y 21) (y 22) (y 23) (y 24))), (y 21, aI V 6 f_5), (y 22, aI V 64 f_6), (y 23, aI V 10 f_9)]) (rnS (rest := []) ⟨hx, hb, hml, hown, hg⟩ (k_J7_fill_53178_1 l V y 0 f_7 f_8 (iv_c (0 : Int32) (by decide)) tf_8) mt_J7_fill_53178 q_3_107 ⟨Nat.le_of_ble_eq_true rfl, Nat.le_of_ble_eq_true rfl⟩ hK hP hD hS hA hE [6, 7] rfl rfl rfl hl.1 rfl (Nat.le_of_ble_eq_true rfl) dX4_howManyStay_35 ⟨Nat.le_of_ble_eq_true rfl, Nat.le_of_ble_eq_true rfl⟩) hP hD hS hA [6, 7] [0, 1, 2, 3, 4, 5, 8] rfl rfl rfl (by decide) (fun  w H locs hw hP hD hS => ?_)
    obtain ⟨f_14, rfl⟩ := hw
    have hP : va_P V.1 vwCl [(y 2, .inr (1, o1_iiiiiirrrrrrriiiii py2_0 py2_1 py2_2 py2_3 py2_4 py2_5 (y 3) (y 4) (y 5) (y 6) (y 7) (y 8) (y 9) py2_13 py2_14 py2_15 py2_16 py2_17)), (y 3, aI V 4 fy3), (y 9, aI V 900 fy9), (y 19, .inr (4, o4_rrrrrr (y 2) (y 20) (y 21) (y 22) (y 23) (y 24))), (y 21, aI V 6 f_5), (y 22, aI V 64 f_6), (y 23, aI V 10 f_9), (y 24, aI V 10 f_14), (y 20, aI V 2000 f_8)] H := hP
    have hD := cpD hP hD
    refine lv_iconst (v := 0) hx hb dX4_howManyStay_38 (by decide) ?_
    refine lv_istore_n (lv' := [(2, .int 0), (3, .int u_3), (0, .ref (y 19)), (1, .int a1)]) hx hb dX4_howManyStay_39 rfl hl (by decide) rfl (fun ls hl => ?_)
    refine lv_iconst (v := 0) hx hb dX4_howManyStay_40 (by decide) ?_
    refine lv_istore (lv' := [(4, .int 0), (2, .int 0), (3, .int u_3), (0, .ref (y 19)), (1, .int a1)]) hx hb dX4_howManyStay_41 hl (by decide) rfl (fun ls hl => ?_)
    refine loopF (X := fun (n_21 : Nat) (H : Heap) (locs : List Loc) (ls : Array Slot) => ∃ (u_15 : Int32) (u_16 : Int32) (f_17 : Nat → Int32) (f_18 : Nat → Int32) (f_19 : Nat → Int32) (f_20 : Nat → Int32), (iv 0 2147483647 u_15) ∧ (∀ j, iv 0 10 (f_20 j)) ∧ KN D9 f_20 ∧ n_21 = (2147483647 - (u_15 : Int32).toInt).toNat ∧ va_P V.1 vwCl [(y 2, .inr (1, o1_iiiiiirrrrrrriiiii py2_0 py2_1 py2_2 py2_3 py2_4 py2_5 (y 3) (y 4) (y 5) (y 6) (y 7) (y 8) (y 9) py2_13 py2_14 py2_15 py2_16 py2_17)), (y 3, aI V 4 fy3), (y 9, aI V 900 fy9), (y 19, .inr (4, o4_rrrrrr (y 2) (y 20) (y 21) (y 22) (y 23) (y 24))), (y 21, aI V 6 f_17), (y 22, aI V 64 f_18), (y 23, aI V 10 f_9), (y 24, aI V 10 f_19), (y 20, aI V 2000 f_20)] H ∧ va_D A [(y 2, .inr (1, o1_iiiiiirrrrrrriiiii py2_0 py2_1 py2_2 py2_3 py2_4 py2_5 (y 3) (y 4) (y 5) (y 6) (y 7) (y 8) (y 9) py2_13 py2_14 py2_15 py2_16 py2_17)), (y 3, aI V 4 fy3), (y 9, aI V 900 fy9), (y 19, .inr (4, o4_rrrrrr (y 2) (y 20) (y 21) (y 22) (y 23) (y 24))), (y 21, aI V 6 f_17), (y 22, aI V 64 f_18), (y 23, aI V 10 f_9), (y 24, aI V 10 f_19), (y 20, aI V 2000 f_20)] ∧ va_S A s.heap H locs ∧ lv_has ls 7 [(4, .int u_15), (2, .int u_16), (3, .int u_3), (0, .ref (y 19)), (1, .int a1)]) (g := fun ls => F0 m 43 ls []) (fun n_21 H locs ls hX ihn_21 => ?_) _ ⟨0, 0, f_5, f_6, f_14, f_8, (iv_c (0 : Int32) (by decide)), tf_8, knn_10, rfl, hP, hD, hS, lv_sub hl [0, 1, 2, 3, 4] rfl⟩
    obtain ⟨u_15, u_16, f_17, f_18, f_19, f_20, bu_15, tf_20, knn_21, en_21, hP, hD, hS, hl⟩ := hX
    refine lv_iload hx hb dX4_howManyStay_43 (lv_at hl 0 rfl) ?_
    refine lv_bipush (v := 100) hx hb dX4_howManyStay_45 (by decide) ?_
    refine lv_icmp_ge (tgt := 130) hx hb dX4_howManyStay_47 (by decide) (fun c_22 => ?_) (fun c_22 => ?_)
    · have b_23 : iv 100 2147483647 u_15 := iv_e2 c_22 (iv_c (100 : Int32) (a := 100) (b := 100) (by decide)) bu_15 (by decide)
      refine lv_aload_n hx hb dX4_howManyStay_130 rfl (lv_at hl 3 rfl) ?_
      refine va_get (ci := 4) (v := .ref (y 24)) (C := RX4) (T := TX4) (N := 6) hx hb hg inX4 hown hK hP 3 rfl rfl 5 (by decide) (hg _ q_1_176) (fun _ h9 => h9) rfl dX4_howManyStay_131 ?_
      refine lv_iconst (v := 0) hx hb dX4_howManyStay_134 (by decide) ?_
      refine lv_aload_n hx hb dX4_howManyStay_135 rfl (lv_at hl 3 rfl) ?_
      refine va_get (ci := 4) (v := .ref (y 23)) (C := RX4) (T := TX4) (N := 6) hx hb hg inX4 hown hK hP 3 rfl rfl 4 (by decide) (hg _ q_1_175) (fun _ h9 => h9) rfl dX4_howManyStay_136 ?_
      refine lv_iconst (v := 0) hx hb dX4_howManyStay_139 (by decide) ?_
      refine lv_bipush (v := 10) hx hb dX4_howManyStay_140 (by decide) ?_
      refine va_copyi hx hb (hml.trans hl.1.symm) hown (hg _ q_4_44) (hg _ q_3_102) (hg _ q_3_101) (hg _ q_1_16) hK hP hD hS 7 6 0 0 rfl rfl rfl rfl rfl (by decide) (by decide) (by decide) (by decide) (by decide) (fun _ _ => rfl) (Nat.le_of_ble_eq_true rfl) (by decide +kernel) dX4_howManyStay_142 (fun H locs hP hD hS => ?_)
      obtain ⟨f_24, ef_24, hP, hD⟩ : ∃ f_24 : Nat → Int32, f_24 = va_cpy f_19 f_9 (0 : Int32).toNatClampNeg (0 : Int32).toNatClampNeg (10 : Int32).toNatClampNeg ∧ va_P V.1 vwCl [(y 2, .inr (1, o1_iiiiiirrrrrrriiiii py2_0 py2_1 py2_2 py2_3 py2_4 py2_5 (y 3) (y 4) (y 5) (y 6) (y 7) (y 8) (y 9) py2_13 py2_14 py2_15 py2_16 py2_17)), (y 3, aI V 4 fy3), (y 9, aI V 900 fy9), (y 19, .inr (4, o4_rrrrrr (y 2) (y 20) (y 21) (y 22) (y 23) (y 24))), (y 21, aI V 6 f_17), (y 22, aI V 64 f_18), (y 23, aI V 10 f_24), (y 24, aI V 10 f_19), (y 20, aI V 2000 f_20)] H ∧ va_D A [(y 2, .inr (1, o1_iiiiiirrrrrrriiiii py2_0 py2_1 py2_2 py2_3 py2_4 py2_5 (y 3) (y 4) (y 5) (y 6) (y 7) (y 8) (y 9) py2_13 py2_14 py2_15 py2_16 py2_17)), (y 3, aI V 4 fy3), (y 9, aI V 900 fy9), (y 19, .inr (4, o4_rrrrrr (y 2) (y 20) (y 21) (y 22) (y 23) (y 24))), (y 21, aI V 6 f_17), (y 22, aI V 64 f_18), (y 23, aI V 10 f_24), (y 24, aI V 10 f_19), (y 20, aI V 2000 f_20)] := ⟨_, rfl, hP, hD⟩
      obtain ⟨x_25, ex_25⟩ : ∃ z9 : Int32, z9 = u_3 + 1 := ⟨_, rfl⟩
      have bx_25 : iv 1 4 x_25 := by rw [ex_25]; exact iv_add b_12 (iv_c (1 : Int32) (a := 1) (b := 1) (by decide)) (by decide)
      refine lv_iinc (v := x_25) (lv' := [(3, .int x_25), (4, .int u_15), (2, .int u_16), (0, .ref (y 19)), (1, .int a1)]) hx hb dX4_howManyStay_145 hl (k := 2) rfl (by rw [ex_25]; rfl) (by decide) rfl (fun ls hl => ?_)
      refine lv_goto (tgt := 19) hx hb dX4_howManyStay_148 (by decide) ?_
      have hP := subP (ws' := [(y 2, .inr (1, o1_iiiiiirrrrrrriiiii py2_0 py2_1 py2_2 py2_3 py2_4 py2_5 (y 3) (y 4) (y 5) (y 6) (y 7) (y 8) (y 9) py2_13 py2_14 py2_15 py2_16 py2_17)), (y 3, aI V 4 fy3), (y 9, aI V 900 fy9), (y 19, .inr (4, o4_rrrrrr (y 2) (y 20) (y 21) (y 22) (y 23) (y 24))), (y 21, aI V 6 f_17), (y 22, aI V 64 f_18), (y 24, aI V 10 f_19), (y 20, aI V 2000 f_20), (y 23, aI V 10 f_24)]) hP [0, 1, 2, 3, 4, 5, 7, 8, 6] rfl
      have hD := subD hP hD [0, 1, 2, 3, 4, 5, 7, 8, 6] rfl rfl
      exact ihn_10 _ _ _ _ (by rw [en_10, ex_25]; exact mu_up b_12 (by decide)) ⟨x_25, u_16, f_17, f_18, f_19, f_20, f_24, (iv_w bx_25 (by decide)), tf_20, knn_21, rfl, hP, hD, hS, lv_sub hl [0, 2, 3, 4] rfl⟩
    · have b_26 : iv 0 99 u_15 := iv_l1 (Int32.not_le.mp c_22) bu_15 (iv_c (100 : Int32) (a := 100) (b := 100) (by decide)) (by decide)
      refine lv_iload hx hb dX4_howManyStay_50 (lv_at hl 0 rfl) ?_
      refine lv_bipush (v := 10) hx hb dX4_howManyStay_52 (by decide) ?_
      refine lv_idiv hx hb dX4_howManyStay_54 (by decide) ?_
      refine lv_topi (fun x_27 ex_27 => ?_)
      have bx_27 : iv 0 9 x_27 := by rw [ex_27]; exact iv_divp b_26 (k := 10) (by decide) (by decide)
      refine lv_istore (lv' := [(5, .int x_27), (4, .int u_15), (2, .int u_16), (3, .int u_3), (0, .ref (y 19)), (1, .int a1)]) hx hb dX4_howManyStay_55 hl (by decide) rfl (fun ls hl => ?_)
      refine lv_iload hx hb dX4_howManyStay_57 (lv_at hl 1 rfl) ?_
      refine lv_bipush (v := 10) hx hb dX4_howManyStay_59 (by decide) ?_
      refine lv_irem hx hb dX4_howManyStay_61 (by decide) ?_
      refine lv_topi (fun x_28 ex_28 => ?_)
      have bx_28 : iv 0 9 x_28 := by rw [ex_28]; exact iv_remp b_26 (k := 10) (by decide) (by decide)
      refine lv_istore (lv' := [(6, .int x_28), (5, .int x_27), (4, .int u_15), (2, .int u_16), (3, .int u_3), (0, .ref (y 19)), (1, .int a1)]) hx hb dX4_howManyStay_62 hl (by decide) rfl (fun ls hl => ?_)
      refine lv_aload_n hx hb dX4_howManyStay_64 rfl (lv_at hl 5 rfl) ?_
      refine va_get (ci := 4) (v := .ref (y 23)) (C := RX4) (T := TX4) (N := 6) hx hb hg inX4 hown hK hP 3 rfl rfl 4 (by decide) (hg _ q_1_175) (fun _ h9 => h9) rfl dX4_howManyStay_65 ?_
      refine lv_iload hx hb dX4_howManyStay_68 (lv_at hl 1 rfl) ?_
      refine va_iald hx hb hK hP 6 0 rfl rfl (iv_in bx_27 (by decide)) dX4_howManyStay_70 ?_
      refine lv_topi (fun x_29 ex_29 => ?_)
      refine lv_if_eq (tgt := 124) hx hb dX4_howManyStay_71 (by decide) (fun c_30 => ?_) (fun c_30 => ?_)
      · have b_31 : iv 0 0 x_29 := iv_q c_30 (iv_c (0 : Int32) (a := 0) (b := 0) (by decide))
        obtain ⟨x_32, ex_32⟩ : ∃ z9 : Int32, z9 = u_15 + 1 := ⟨_, rfl⟩
        have bx_32 : iv 1 100 x_32 := by rw [ex_32]; exact iv_add b_26 (iv_c (1 : Int32) (a := 1) (b := 1) (by decide)) (by decide)
        refine lv_iinc (v := x_32) (lv' := [(4, .int x_32), (6, .int x_28), (5, .int x_27), (2, .int u_16), (3, .int u_3), (0, .ref (y 19)), (1, .int a1)]) hx hb dX4_howManyStay_124 hl (k := 2) rfl (by rw [ex_32]; rfl) (by decide) rfl (fun ls hl => ?_)
        refine lv_goto (tgt := 43) hx hb dX4_howManyStay_127 (by decide) ?_
        exact ihn_21 _ _ _ _ (by rw [en_21, ex_32]; exact mu_up b_26 (by decide)) ⟨x_32, u_16, f_17, f_18, f_19, f_20, (iv_w bx_32 (by decide)), tf_20, knn_21, rfl, hP, hD, hS, lv_sub hl [0, 3, 4, 5, 6] rfl⟩
      · refine lv_aload_n hx hb dX4_howManyStay_74 rfl (lv_at hl 5 rfl) ?_
        refine lv_iload_n hx hb dX4_howManyStay_75 rfl (lv_at hl 6 rfl) ?_
        refine lv_iload_n hx hb dX4_howManyStay_76 rfl (lv_at hl 4 rfl) ?_
        refine lv_iload hx hb dX4_howManyStay_77 (lv_at hl 0 rfl) ?_
        refine lv_iconst (v := 2) hx hb dX4_howManyStay_79 (by decide) ?_
        refine lv_idiv hx hb dX4_howManyStay_80 (by decide) ?_
        refine lv_topi (fun x_33 ex_33 => ?_)
        have bx_33 : iv 0 4 x_33 := by rw [ex_33]; exact iv_divp bx_28 (k := 2) (by decide) (by decide)
        refine lv_iload hx hb dX4_howManyStay_81 (lv_at hl 1 rfl) ?_
        refine lv_iconst (v := 2) hx hb dX4_howManyStay_83 (by decide) ?_
        refine lv_idiv hx hb dX4_howManyStay_84 (by decide) ?_
        refine lv_topi (fun x_34 ex_34 => ?_)
        have bx_34 : iv 0 4 x_34 := by rw [ex_34]; exact iv_divp bx_27 (k := 2) (by decide) (by decide)
        refine lv_iload hx hb dX4_howManyStay_85 (lv_at hl 1 rfl) ?_
        refine lv_iconst (v := 2) hx hb dX4_howManyStay_87 (by decide) ?_
        refine lv_irem hx hb dX4_howManyStay_88 (by decide) ?_
        refine lv_topi (fun x_35 ex_35 => ?_)
        have bx_35 : iv 0 1 x_35 := by rw [ex_35]; exact iv_remp bx_27 (k := 2) (by decide) (by decide)
        refine jnI (wr := [(y 23, aI V 10 f_9), (y 24, aI V 10 f_19)]) (rnV (rest := []) ⟨hx, hb, hml, hown, hg⟩ (k_X4_digitBehind_0 l V y a1 u_3 x_33 x_34 x_35 fy3 fy9 f_20 f_17 f_18 py2_0 py2_1 py2_2 py2_3 py2_4 py2_5 py2_13 py2_14 py2_15 py2_16 py2_17 ba1 b_12 bx_33 bx_34 bx_35 tf_20 (iv_w b_13 (by decide)) bpy2_2 bpy2_3 bpy2_4 bpy2_5 bpy2_13 bpy2_14 bpy2_15 bpy2_16 bpy2_17) mt_X4_digitBehind q_3_150 ⟨Nat.le_of_ble_eq_true rfl, Nat.le_of_ble_eq_true rfl⟩ hK hP hD hS hA hE [1, 2, 3, 8, 4, 5, 0] rfl rfl 3 rfl rfl rfl rfl hl.1 rfl (Nat.le_of_ble_eq_true rfl) dX4_howManyStay_89 ⟨Nat.le_of_ble_eq_true rfl, Nat.le_of_ble_eq_true rfl⟩) hP hD hS hA [1, 2, 3, 8, 4, 5, 0] [6, 7] rfl rfl rfl (by decide) (fun r_36 w H locs hw hP hD hS => ?_)
        obtain ⟨f_37, f_38, f_39, tf_37, br_36, g_40, rfl⟩ := hw
        have qkn_41 := g_40 D9 hL9 knn_21
        have er_36 : r_36 = D9 (plF a1 u_3 x_33 x_34 x_35).toNatClampNeg := qkn_41.1
        have kn_41 := qkn_41.2
        have hP : va_P V.1 vwCl [(y 23, aI V 10 f_9), (y 24, aI V 10 f_19), (y 3, aI V 4 fy3), (y 9, aI V 900 fy9), (y 19, .inr (4, o4_rrrrrr (y 2) (y 20) (y 21) (y 22) (y 23) (y 24))), (y 20, aI V 2000 f_37), (y 21, aI V 6 f_38), (y 22, aI V 64 f_39), (y 2, .inr (1, o1_iiiiiirrrrrrriiiii py2_0 py2_1 py2_2 py2_3 py2_4 py2_5 (y 3) (y 4) (y 5) (y 6) (y 7) (y 8) (y 9) py2_13 py2_14 py2_15 py2_16 py2_17))] H := hP
        have hD := cpD hP hD
        refine lv_iload hx hb dX4_howManyStay_92 (lv_at hl 0 rfl) ?_
        refine lv_icmp_ne (tgt := 124) hx hb dX4_howManyStay_94 (by decide) (fun c_42 => ?_) (fun c_42 => ?_)
        · obtain ⟨x_43, ex_43⟩ : ∃ z9 : Int32, z9 = u_15 + 1 := ⟨_, rfl⟩
          have bx_43 : iv 1 100 x_43 := by rw [ex_43]; exact iv_add b_26 (iv_c (1 : Int32) (a := 1) (b := 1) (by decide)) (by decide)
          refine lv_iinc (v := x_43) (lv' := [(4, .int x_43), (6, .int x_28), (5, .int x_27), (2, .int u_16), (3, .int u_3), (0, .ref (y 19)), (1, .int a1)]) hx hb dX4_howManyStay_124 hl (k := 2) rfl (by rw [ex_43]; rfl) (by decide) rfl (fun ls hl => ?_)
          refine lv_goto (tgt := 43) hx hb dX4_howManyStay_127 (by decide) ?_
          have hP := subP (ws' := [(y 2, .inr (1, o1_iiiiiirrrrrrriiiii py2_0 py2_1 py2_2 py2_3 py2_4 py2_5 (y 3) (y 4) (y 5) (y 6) (y 7) (y 8) (y 9) py2_13 py2_14 py2_15 py2_16 py2_17)), (y 3, aI V 4 fy3), (y 9, aI V 900 fy9), (y 19, .inr (4, o4_rrrrrr (y 2) (y 20) (y 21) (y 22) (y 23) (y 24))), (y 21, aI V 6 f_38), (y 22, aI V 64 f_39), (y 23, aI V 10 f_9), (y 24, aI V 10 f_19), (y 20, aI V 2000 f_37)]) hP [8, 2, 3, 4, 6, 7, 0, 1, 5] rfl
          have hD := subD hP hD [8, 2, 3, 4, 6, 7, 0, 1, 5] rfl rfl
          exact ihn_21 _ _ _ _ (by rw [en_21, ex_43]; exact mu_up b_26 (by decide)) ⟨x_43, u_16, f_38, f_39, f_19, f_37, (iv_w bx_43 (by decide)), tf_37, kn_41, rfl, hP, hD, hS, lv_sub hl [0, 3, 4, 5, 6] rfl⟩
        · refine lv_aload_n hx hb dX4_howManyStay_97 rfl (lv_at hl 5 rfl) ?_
          refine va_get (ci := 4) (v := .ref (y 24)) (C := RX4) (T := TX4) (N := 6) hx hb hg inX4 hown hK hP 4 rfl rfl 5 (by decide) (hg _ q_1_176) (fun _ h9 => h9) rfl dX4_howManyStay_98 ?_
          refine lv_iload hx hb dX4_howManyStay_101 (lv_at hl 0 rfl) ?_
          refine lv_dup2_11 hx hb dX4_howManyStay_103 rfl rfl ?_
          refine va_iald hx hb hK hP 1 0 rfl rfl (iv_in bx_28 (by decide)) dX4_howManyStay_104 ?_
          refine lv_topi (fun x_44 ex_44 => ?_)
          refine lv_aload_n hx hb dX4_howManyStay_105 rfl (lv_at hl 5 rfl) ?_
          refine va_get (ci := 4) (v := .ref (y 23)) (C := RX4) (T := TX4) (N := 6) hx hb hg inX4 hown hK hP 4 rfl rfl 4 (by decide) (hg _ q_1_175) (fun _ h9 => h9) rfl dX4_howManyStay_106 ?_
          refine lv_iload hx hb dX4_howManyStay_109 (lv_at hl 1 rfl) ?_
          refine va_iald hx hb hK hP 0 0 rfl rfl (iv_in bx_27 (by decide)) dX4_howManyStay_111 ?_
          refine lv_topi (fun x_45 ex_45 => ?_)
          refine lv_iadd hx hb dX4_howManyStay_112 ?_
          refine lv_topi (fun x_46 ex_46 => ?_)
          refine va_iast hx hb hK hP hD hS 1 0 rfl rfl (iv_in bx_28 (by decide)) dX4_howManyStay_113 (fun H locs hP hD hS => ?_)
          obtain ⟨f_47, hP, hD⟩ : ∃ f_47 : Nat → Int32, va_P V.1 vwCl [(y 23, aI V 10 f_9), (y 24, aI V 10 f_47), (y 3, aI V 4 fy3), (y 9, aI V 900 fy9), (y 19, .inr (4, o4_rrrrrr (y 2) (y 20) (y 21) (y 22) (y 23) (y 24))), (y 20, aI V 2000 f_37), (y 21, aI V 6 f_38), (y 22, aI V 64 f_39), (y 2, .inr (1, o1_iiiiiirrrrrrriiiii py2_0 py2_1 py2_2 py2_3 py2_4 py2_5 (y 3) (y 4) (y 5) (y 6) (y 7) (y 8) (y 9) py2_13 py2_14 py2_15 py2_16 py2_17))] H ∧ va_D A [(y 23, aI V 10 f_9), (y 24, aI V 10 f_47), (y 3, aI V 4 fy3), (y 9, aI V 900 fy9), (y 19, .inr (4, o4_rrrrrr (y 2) (y 20) (y 21) (y 22) (y 23) (y 24))), (y 20, aI V 2000 f_37), (y 21, aI V 6 f_38), (y 22, aI V 64 f_39), (y 2, .inr (1, o1_iiiiiirrrrrrriiiii py2_0 py2_1 py2_2 py2_3 py2_4 py2_5 (y 3) (y 4) (y 5) (y 6) (y 7) (y 8) (y 9) py2_13 py2_14 py2_15 py2_16 py2_17))] := ⟨_, hP, hD⟩
          refine lv_iload_n hx hb dX4_howManyStay_114 rfl (lv_at hl 3 rfl) ?_
          refine lv_aload_n hx hb dX4_howManyStay_115 rfl (lv_at hl 5 rfl) ?_
          refine va_get (ci := 4) (v := .ref (y 23)) (C := RX4) (T := TX4) (N := 6) hx hb hg inX4 hown hK hP 4 rfl rfl 4 (by decide) (hg _ q_1_175) (fun _ h9 => h9) rfl dX4_howManyStay_116 ?_
          refine lv_iload hx hb dX4_howManyStay_119 (lv_at hl 1 rfl) ?_
          refine va_iald hx hb hK hP 0 0 rfl rfl (iv_in bx_27 (by decide)) dX4_howManyStay_121 ?_
          refine lv_topi (fun x_48 ex_48 => ?_)
          refine lv_iadd hx hb dX4_howManyStay_122 ?_
          refine lv_topi (fun x_49 ex_49 => ?_)
          refine lv_istore_n (lv' := [(2, .int x_49), (6, .int x_28), (5, .int x_27), (4, .int u_15), (3, .int u_3), (0, .ref (y 19)), (1, .int a1)]) hx hb dX4_howManyStay_123 rfl hl (by decide) rfl (fun ls hl => ?_)
          obtain ⟨x_50, ex_50⟩ : ∃ z9 : Int32, z9 = u_15 + 1 := ⟨_, rfl⟩
          have bx_50 : iv 1 100 x_50 := by rw [ex_50]; exact iv_add b_26 (iv_c (1 : Int32) (a := 1) (b := 1) (by decide)) (by decide)
          refine lv_iinc (v := x_50) (lv' := [(4, .int x_50), (2, .int x_49), (6, .int x_28), (5, .int x_27), (3, .int u_3), (0, .ref (y 19)), (1, .int a1)]) hx hb dX4_howManyStay_124 hl (k := 3) rfl (by rw [ex_50]; rfl) (by decide) rfl (fun ls hl => ?_)
          refine lv_goto (tgt := 43) hx hb dX4_howManyStay_127 (by decide) ?_
          have hP := subP (ws' := [(y 2, .inr (1, o1_iiiiiirrrrrrriiiii py2_0 py2_1 py2_2 py2_3 py2_4 py2_5 (y 3) (y 4) (y 5) (y 6) (y 7) (y 8) (y 9) py2_13 py2_14 py2_15 py2_16 py2_17)), (y 3, aI V 4 fy3), (y 9, aI V 900 fy9), (y 19, .inr (4, o4_rrrrrr (y 2) (y 20) (y 21) (y 22) (y 23) (y 24))), (y 21, aI V 6 f_38), (y 22, aI V 64 f_39), (y 23, aI V 10 f_9), (y 24, aI V 10 f_47), (y 20, aI V 2000 f_37)]) hP [8, 2, 3, 4, 6, 7, 0, 1, 5] rfl
          have hD := subD hP hD [8, 2, 3, 4, 6, 7, 0, 1, 5] rfl rfl
          exact ihn_21 _ _ _ _ (by rw [en_21, ex_50]; exact mu_up b_26 (by decide)) ⟨x_50, x_49, f_38, f_39, f_47, f_37, (iv_w bx_50 (by decide)), tf_37, kn_41, rfl, hP, hD, hS, lv_sub hl [0, 1, 4, 5, 6] rfl⟩
theorem dX9_rests_0 : decode cX9_rests 0 = .ok (.aload_n 0, 1) := by decide +kernel
theorem dX9_rests_1 : decode cX9_rests 1 = .ok (.getfield 34, 3) := by decide +kernel
theorem dX9_rests_4 : decode cX9_rests 4 = .ok (.aload_n 0, 1) := by decide +kernel
theorem dX9_rests_5 : decode cX9_rests 5 = .ok (.getfield 116, 3) := by decide +kernel
theorem q_4_43 : Cond.code yX4_howManyStay prog_6_method_8_code 7 (some FieldType.int) ∈ gw := gw_4 (i := 43) (rfl) rfl
theorem q_4_41 : Cond.instanceMethod yX4_howManyStay ∈ gw := gw_4 (i := 41) (by decide +kernel) rfl
theorem q_4_42 : Cond.selects "BeaconDelay$Laws" yX4_howManyStay yX4_howManyStay ∈ gw := gw_4 (i := 42) (by decide +kernel) rfl
theorem mt_X4_howManyStay : MtV yX4_howManyStay cX4_howManyStay 7 (some .int) 1 := ⟨⟨q_4_43, q_1_4, by decide +kernel, by decide +kernel, by decide +kernel⟩, q_4_41, q_4_42⟩
theorem q_4_40 : Cond.methodLink "BeaconDelay" 237 yX4_howManyStay ∈ gw := gw_4 (i := 40) (by decide +kernel) rfl
theorem dX9_rests_8 : decode cX9_rests 8 = .ok (.invokevirtual 237, 3) := by decide +kernel
theorem dX9_rests_11 : decode cX9_rests 11 = .ok (.ireturn, 1) := by decide +kernel
set_option maxHeartbeats 4000000 in
set_option maxRecDepth 100000 in
theorem k_X9_rests_0 (l : Launch) (V : GV) (y : Nat → Nat) (D9 : Nat → Int32) (py0_1 : Int32) (o10 : Value) (o11 : Value) (py0_12 : Int32) (py0_13 : Int32) (py0_14 : Int32) (py2_0 : Int32) (py2_1 : Int32) (py2_2 : Int32) (py2_3 : Int32) (py2_4 : Int32) (py2_5 : Int32) (py2_13 : Int32) (py2_14 : Int32) (py2_15 : Int32) (py2_16 : Int32) (py2_17 : Int32) (fy3 : Nat → Int32) (fy9 : Nat → Int32) (fy20 : Nat → Int32) (fy21 : Nat → Int32) (fy22 : Nat → Int32) (fy23 : Nat → Int32) (fy24 : Nat → Int32) (bpy0_1 : iv 0 900 py0_1) (bpy0_12 : iv 0 9999 py0_12) (bpy0_13 : iv 0 9 py0_13) (bpy2_1 : iv 0 4 py2_1) (bpy2_2 : iv 0 4 py2_2) (bpy2_3 : iv 0 8 py2_3) (bpy2_4 : iv 0 9999 py2_4) (bpy2_5 : iv 0 9 py2_5) (bpy2_13 : iv 0 900 py2_13) (bpy2_14 : iv 0 900 py2_14) (bpy2_15 : iv 0 900 py2_15) (bpy2_16 : iv 0 900 py2_16) (bpy2_17 : iv 0 900 py2_17) (tfy20 : ∀ j, iv 0 10 (fy20 j)) (hL9 : LW D9 fy3 fy9 py2_14 py2_15 py2_16 py2_17) (hK9 : KN D9 fy20) : Ct l V yX9_rests (.code yX9_rests cX9_rests 1 (some .int)) 6 [.ref (y 0)] [(y 0, .inr (9, o9_rirrrrrrrrvviii (y 1) py0_1 (y 2) (y 10) (y 19) (y 25) (y 26) (y 30) (y 31) (y 32) o10 o11 py0_12 py0_13 py0_14)), (y 2, .inr (1, o1_iiiiiirrrrrrriiiii py2_0 py2_1 py2_2 py2_3 py2_4 py2_5 (y 3) (y 4) (y 5) (y 6) (y 7) (y 8) (y 9) py2_13 py2_14 py2_15 py2_16 py2_17)), (y 3, aI V 4 fy3), (y 9, aI V 900 fy9), (y 19, .inr (4, o4_rrrrrr (y 2) (y 20) (y 21) (y 22) (y 23) (y 24))), (y 20, aI V 2000 fy20), (y 21, aI V 6 fy21), (y 22, aI V 64 fy22), (y 23, aI V 10 fy23), (y 24, aI V 10 fy24)] 0 0 (QI V (fun (r : Int32) (w : va_W) => ∃ (g0 : Nat → Int32) (g1 : Nat → Int32) (g2 : Nat → Int32) (g3 : Nat → Int32) (g4 : Nat → Int32), (∀ j, iv 0 10 (g0 j)) ∧ KN D9 g0 ∧ w = [(y 0, .inr (9, o9_rirrrrrrrrvviii (y 1) py0_1 (y 2) (y 10) (y 19) (y 25) (y 26) (y 30) (y 31) (y 32) o10 o11 py0_12 py0_13 py0_14)), (y 2, .inr (1, o1_iiiiiirrrrrrriiiii py2_0 py2_1 py2_2 py2_3 py2_4 py2_5 (y 3) (y 4) (y 5) (y 6) (y 7) (y 8) (y 9) py2_13 py2_14 py2_15 py2_16 py2_17)), (y 3, aI V 4 fy3), (y 9, aI V 900 fy9), (y 19, .inr (4, o4_rrrrrr (y 2) (y 20) (y 21) (y 22) (y 23) (y 24))), (y 20, aI V 2000 g0), (y 21, aI V 6 g1), (y 22, aI V 64 g2), (y 23, aI V 10 g3), (y 24, aI V 10 g4)])) := by
  refine Ct.of (by decide) (Nat.le_of_ble_eq_true rfl) (fun p e s m below meth c A ls hx hb hr hml hown hlk hnm hg hP hK hD hE hA hS hl => ?_)
  have hl : lv_has ls 1 [(0, .ref (y 0))] := hl
  refine lv_aload_n hx hb dX9_rests_0 rfl (lv_at hl 0 rfl) ?_
  refine va_get (ci := 9) (v := .ref (y 19)) (C := RX9) (T := TX9) (N := 15) hx hb hg inX9 hown hK hP 0 rfl rfl 4 (by decide) (hg _ q_2_40) (fun _ h9 => h9) rfl dX9_rests_1 ?_
  refine lv_aload_n hx hb dX9_rests_4 rfl (lv_at hl 0 rfl) ?_
  refine va_get (ci := 9) (v := .int py0_13) (C := RX9) (T := TX9) (N := 15) hx hb hg inX9 hown hK hP 0 rfl rfl 13 (by decide) (hg _ q_2_49) (fun _ h9 => h9) rfl dX9_rests_5 ?_
  refine jnI (wr := [(y 0, .inr (9, o9_rirrrrrrrrvviii (y 1) py0_1 (y 2) (y 10) (y 19) (y 25) (y 26) (y 30) (y 31) (y 32) o10 o11 py0_12 py0_13 py0_14))]) (rnV (rest := []) ⟨hx, hb, hml, hown, hg⟩ (k_X4_howManyStay_0 l V y D9 py0_13 py2_0 py2_1 py2_2 py2_3 py2_4 py2_5 py2_13 py2_14 py2_15 py2_16 py2_17 fy3 fy9 fy20 fy21 fy22 fy23 fy24 bpy0_13 bpy2_1 bpy2_2 bpy2_3 bpy2_4 bpy2_5 bpy2_13 bpy2_14 bpy2_15 bpy2_16 bpy2_17 tfy20 hL9 hK9) mt_X4_howManyStay q_4_40 ⟨Nat.le_of_ble_eq_true rfl, Nat.le_of_ble_eq_true rfl⟩ hK hP hD hS hA hE [1, 2, 3, 4, 5, 6, 7, 8, 9] rfl rfl 4 rfl rfl rfl rfl hl.1 rfl (Nat.le_of_ble_eq_true rfl) dX9_rests_8 ⟨Nat.le_of_ble_eq_true rfl, Nat.le_of_ble_eq_true rfl⟩) hP hD hS hA [1, 2, 3, 4, 5, 6, 7, 8, 9] [0] rfl rfl rfl (by decide) (fun r_1 w H locs hw hP hD hS => ?_)
  obtain ⟨f_2, f_3, f_4, f_5, f_6, tf_2, kn_7, rfl⟩ := hw
  have hP : va_P V.1 vwCl [(y 0, .inr (9, o9_rirrrrrrrrvviii (y 1) py0_1 (y 2) (y 10) (y 19) (y 25) (y 26) (y 30) (y 31) (y 32) o10 o11 py0_12 py0_13 py0_14)), (y 2, .inr (1, o1_iiiiiirrrrrrriiiii py2_0 py2_1 py2_2 py2_3 py2_4 py2_5 (y 3) (y 4) (y 5) (y 6) (y 7) (y 8) (y 9) py2_13 py2_14 py2_15 py2_16 py2_17)), (y 3, aI V 4 fy3), (y 9, aI V 900 fy9), (y 19, .inr (4, o4_rrrrrr (y 2) (y 20) (y 21) (y 22) (y 23) (y 24))), (y 20, aI V 2000 f_2), (y 21, aI V 6 f_3), (y 22, aI V 64 f_4), (y 23, aI V 10 f_5), (y 24, aI V 10 f_6)] H := hP
  have hD := cpD hP hD
  exact fiI hx hb hr hlk hK hP hD hS dX9_rests_11 (Nat.le_of_ble_eq_true rfl) (Nat.le_of_ble_eq_true rfl) (⟨f_2, f_3, f_4, f_5, f_6, tf_2, kn_7, rfl⟩)
theorem dX9_isSeen_0 : decode cX9_isSeen 0 = .ok (.iload_n 3, 1) := by decide +kernel
theorem dX9_isSeen_1 : decode cX9_isSeen 1 = .ok (.aload_n 0, 1) := by decide +kernel
theorem dX9_isSeen_2 : decode cX9_isSeen 2 = .ok (.getfield 113, 3) := by decide +kernel
theorem dX9_isSeen_5 : decode cX9_isSeen 5 = .ok (.iload_n 1, 1) := by decide +kernel
theorem dX9_isSeen_6 : decode cX9_isSeen 6 = .ok (.invokestatic 132, 3) := by decide +kernel
theorem dX9_isSeen_9 : decode cX9_isSeen 9 = .ok (.if_icmp .gt 18, 3) := by decide +kernel
theorem dX9_isSeen_27 : decode cX9_isSeen 27 = .ok (.iconst 0, 1) := by decide +kernel
theorem dX9_isSeen_28 : decode cX9_isSeen 28 = .ok (.ireturn, 1) := by decide +kernel
theorem dX9_isSeen_12 : decode cX9_isSeen 12 = .ok (.aload_n 0, 1) := by decide +kernel
theorem dX9_isSeen_13 : decode cX9_isSeen 13 = .ok (.getfield 113, 3) := by decide +kernel
theorem dX9_isSeen_16 : decode cX9_isSeen 16 = .ok (.iload_n 2, 1) := by decide +kernel
theorem dX9_isSeen_17 : decode cX9_isSeen 17 = .ok (.invokestatic 132, 3) := by decide +kernel
theorem dX9_isSeen_20 : decode cX9_isSeen 20 = .ok (.ifCond .le 7, 3) := by decide +kernel
theorem dX9_isSeen_23 : decode cX9_isSeen 23 = .ok (.iconst 1, 1) := by decide +kernel
theorem dX9_isSeen_24 : decode cX9_isSeen 24 = .ok (.goto 4, 3) := by decide +kernel
set_option maxHeartbeats 4000000 in
set_option maxRecDepth 100000 in
theorem k_X9_isSeen_0 (l : Launch) (V : GV) (y : Nat → Nat) (a1 : Int32) (a2 : Int32) (a3 : Int32) (py0_1 : Int32) (o10 : Value) (o11 : Value) (py0_12 : Int32) (py0_13 : Int32) (py0_14 : Int32) (ba1 : iv 0 3 a1) (ba2 : iv 0 3 a2) (bpy0_1 : iv 0 900 py0_1) (bpy0_12 : iv 0 9999 py0_12) (bpy0_13 : iv 0 9 py0_13) : Ct l V yX9_isSeen (.code yX9_isSeen cX9_isSeen 4 (some .boolean)) 2 [.ref (y 0), .int a1, .int a2, .int a3] [(y 0, .inr (9, o9_rirrrrrrrrvviii (y 1) py0_1 (y 2) (y 10) (y 19) (y 25) (y 26) (y 30) (y 31) (y 32) o10 o11 py0_12 py0_13 py0_14))] 0 0 (QI V (fun (r : Int32) (w : va_W) => iv 0 1 r ∧ w = [(y 0, .inr (9, o9_rirrrrrrrrvviii (y 1) py0_1 (y 2) (y 10) (y 19) (y 25) (y 26) (y 30) (y 31) (y 32) o10 o11 py0_12 py0_13 py0_14))])) := by
  refine Ct.of (by decide) (Nat.le_of_ble_eq_true rfl) (fun p e s m below meth c A ls hx hb hr hml hown hlk hnm hg hP hK hD hE hA hS hl => ?_)
  have hl : lv_has ls 4 [(0, .ref (y 0)), (1, .int a1), (2, .int a2), (3, .int a3)] := hl
  refine lv_iload_n hx hb dX9_isSeen_0 rfl (lv_at hl 3 rfl) ?_
  refine lv_aload_n hx hb dX9_isSeen_1 rfl (lv_at hl 0 rfl) ?_
  refine va_get (ci := 9) (v := .int py0_12) (C := RX9) (T := TX9) (N := 15) hx hb hg inX9 hown hK hP 0 rfl rfl 12 (by decide) (hg _ q_2_48) (fun _ h9 => h9) rfl dX9_isSeen_2 ?_
  refine lv_iload_n hx hb dX9_isSeen_5 rfl (lv_at hl 1 rfl) ?_
  refine jnI (wr := [(y 0, .inr (9, o9_rirrrrrrrrvviii (y 1) py0_1 (y 2) (y 10) (y 19) (y 25) (y 26) (y 30) (y 31) (y 32) o10 o11 py0_12 py0_13 py0_14))]) (rnS (rest := [.int a3]) ⟨hx, hb, hml, hown, hg⟩ (k_X9_stackIn_0 l V py0_12 a1 bpy0_12 (iv_w ba1 (by decide))) mt_X9_stackIn q_3_126 ⟨Nat.le_of_ble_eq_true rfl, Nat.le_of_ble_eq_true rfl⟩ hK hP hD hS hA hE [] rfl rfl rfl hl.1 rfl (Nat.le_of_ble_eq_true rfl) dX9_isSeen_6 ⟨Nat.le_of_ble_eq_true rfl, Nat.le_of_ble_eq_true rfl⟩) hP hD hS hA [] [0] rfl rfl rfl (by decide) (fun r_1 w H locs hw hP hD hS => ?_)
  obtain ⟨br_1, er_1, et_2, rfl⟩ := hw
  have hP : va_P V.1 vwCl [(y 0, .inr (9, o9_rirrrrrrrrvviii (y 1) py0_1 (y 2) (y 10) (y 19) (y 25) (y 26) (y 30) (y 31) (y 32) o10 o11 py0_12 py0_13 py0_14))] H := hP
  have hD := cpD hP hD
  refine lv_icmp_gt (tgt := 27) hx hb dX9_isSeen_9 (by decide) (fun c_3 => ?_) (fun c_3 => ?_)
  · have b_4 : iv 1 2147483647 a3 := iv_l2 c_3 br_1 (iv_top a3) (by decide)
    refine lv_iconst (v := 0) hx hb dX9_isSeen_27 (by decide) ?_
    exact fiZ rfl hx hb hr hlk hK hP hD hS dX9_isSeen_28 (Nat.le_of_ble_eq_true rfl) (Nat.le_of_ble_eq_true rfl) (⟨(iv_c (0 : Int32) (by decide)), rfl⟩)
  · have b_5 : iv (-2147483648) 4 a3 := iv_e1 (Int32.not_lt.mp c_3) (iv_top a3) br_1 (by decide)
    refine lv_aload_n hx hb dX9_isSeen_12 rfl (lv_at hl 0 rfl) ?_
    refine va_get (ci := 9) (v := .int py0_12) (C := RX9) (T := TX9) (N := 15) hx hb hg inX9 hown hK hP 0 rfl rfl 12 (by decide) (hg _ q_2_48) (fun _ h9 => h9) rfl dX9_isSeen_13 ?_
    refine lv_iload_n hx hb dX9_isSeen_16 rfl (lv_at hl 2 rfl) ?_
    refine jnI (wr := [(y 0, .inr (9, o9_rirrrrrrrrvviii (y 1) py0_1 (y 2) (y 10) (y 19) (y 25) (y 26) (y 30) (y 31) (y 32) o10 o11 py0_12 py0_13 py0_14))]) (rnS (rest := []) ⟨hx, hb, hml, hown, hg⟩ (k_X9_stackIn_0 l V py0_12 a2 bpy0_12 (iv_w ba2 (by decide))) mt_X9_stackIn q_3_126 ⟨Nat.le_of_ble_eq_true rfl, Nat.le_of_ble_eq_true rfl⟩ hK hP hD hS hA hE [] rfl rfl rfl hl.1 rfl (Nat.le_of_ble_eq_true rfl) dX9_isSeen_17 ⟨Nat.le_of_ble_eq_true rfl, Nat.le_of_ble_eq_true rfl⟩) hP hD hS hA [] [0] rfl rfl rfl (by decide) (fun r_6 w H locs hw hP hD hS => ?_)
    obtain ⟨br_6, er_6, et_7, rfl⟩ := hw
    have hP : va_P V.1 vwCl [(y 0, .inr (9, o9_rirrrrrrrrvviii (y 1) py0_1 (y 2) (y 10) (y 19) (y 25) (y 26) (y 30) (y 31) (y 32) o10 o11 py0_12 py0_13 py0_14))] H := hP
    have hD := cpD hP hD
    refine lv_if_le (tgt := 27) hx hb dX9_isSeen_20 (by decide) (fun c_8 => ?_) (fun c_8 => ?_)
    · have b_9 : iv 0 0 r_6 := iv_e1 c_8 br_6 (iv_c (0 : Int32) (a := 0) (b := 0) (by decide)) (by decide)
      refine lv_iconst (v := 0) hx hb dX9_isSeen_27 (by decide) ?_
      exact fiZ rfl hx hb hr hlk hK hP hD hS dX9_isSeen_28 (Nat.le_of_ble_eq_true rfl) (Nat.le_of_ble_eq_true rfl) (⟨(iv_c (0 : Int32) (by decide)), rfl⟩)
    · have b_10 : iv 1 4 r_6 := iv_l2 (Int32.not_le.mp c_8) (iv_c (0 : Int32) (a := 0) (b := 0) (by decide)) br_6 (by decide)
      refine lv_iconst (v := 1) hx hb dX9_isSeen_23 (by decide) ?_
      refine lv_goto (tgt := 28) hx hb dX9_isSeen_24 (by decide) ?_
      exact fiZ rfl hx hb hr hlk hK hP hD hS dX9_isSeen_28 (Nat.le_of_ble_eq_true rfl) (Nat.le_of_ble_eq_true rfl) (⟨(iv_c (1 : Int32) (by decide)), rfl⟩)
theorem dX9_litBy_0 : decode cX9_litBy 0 = .ok (.aload_n 0, 1) := by decide +kernel
theorem dX9_litBy_1 : decode cX9_litBy 1 = .ok (.getfield 113, 3) := by decide +kernel
theorem dX9_litBy_4 : decode cX9_litBy 4 = .ok (.iload_n 1, 1) := by decide +kernel
theorem dX9_litBy_5 : decode cX9_litBy 5 = .ok (.invokestatic 132, 3) := by decide +kernel
theorem dX9_litBy_8 : decode cX9_litBy 8 = .ok (.ifCond .ne 5, 3) := by decide +kernel
theorem dX9_litBy_13 : decode cX9_litBy 13 = .ok (.iconst 1, 1) := by decide +kernel
theorem dX9_litBy_14 : decode cX9_litBy 14 = .ok (.iload_n 1, 1) := by decide +kernel
theorem dX9_litBy_15 : decode cX9_litBy 15 = .ok (.ishl, 1) := by decide +kernel
theorem dX9_litBy_16 : decode cX9_litBy 16 = .ok (.istore_n 2, 1) := by decide +kernel
theorem dX9_litBy_17 : decode cX9_litBy 17 = .ok (.iload_n 1, 1) := by decide +kernel
theorem dX9_litBy_18 : decode cX9_litBy 18 = .ok (.istore_n 3, 1) := by decide +kernel
theorem dX9_litBy_19 : decode cX9_litBy 19 = .ok (.iload_n 3, 1) := by decide +kernel
theorem dX9_litBy_20 : decode cX9_litBy 20 = .ok (.iconst 1, 1) := by decide +kernel
theorem dX9_litBy_21 : decode cX9_litBy 21 = .ok (.iadd, 1) := by decide +kernel
theorem dX9_litBy_22 : decode cX9_litBy 22 = .ok (.aload_n 0, 1) := by decide +kernel
theorem dX9_litBy_23 : decode cX9_litBy 23 = .ok (.getfield 16, 3) := by decide +kernel
theorem dX9_litBy_26 : decode cX9_litBy 26 = .ok (.getfield 159, 3) := by decide +kernel
theorem dX9_litBy_29 : decode cX9_litBy 29 = .ok (.if_icmp .ge 39, 3) := by decide +kernel
theorem dX9_litBy_68 : decode cX9_litBy 68 = .ok (.iload_n 1, 1) := by decide +kernel
theorem dX9_litBy_69 : decode cX9_litBy 69 = .ok (.istore_n 3, 1) := by decide +kernel
theorem dX9_litBy_70 : decode cX9_litBy 70 = .ok (.iload_n 3, 1) := by decide +kernel
theorem dX9_litBy_71 : decode cX9_litBy 71 = .ok (.ifCond .le 37, 3) := by decide +kernel
theorem dX9_litBy_108 : decode cX9_litBy 108 = .ok (.iload_n 2, 1) := by decide +kernel
theorem dX9_litBy_109 : decode cX9_litBy 109 = .ok (.ireturn, 1) := by decide +kernel
theorem dX9_litBy_74 : decode cX9_litBy 74 = .ok (.aload_n 0, 1) := by decide +kernel
theorem dX9_litBy_75 : decode cX9_litBy 75 = .ok (.iload_n 3, 1) := by decide +kernel
theorem dX9_litBy_76 : decode cX9_litBy 76 = .ok (.iload_n 3, 1) := by decide +kernel
theorem dX9_litBy_77 : decode cX9_litBy 77 = .ok (.iconst 1, 1) := by decide +kernel
theorem dX9_litBy_78 : decode cX9_litBy 78 = .ok (.isub, 1) := by decide +kernel
theorem dX9_litBy_79 : decode cX9_litBy 79 = .ok (.aload_n 0, 1) := by decide +kernel
theorem dX9_litBy_80 : decode cX9_litBy 80 = .ok (.getfield 16, 3) := by decide +kernel
theorem dX9_litBy_83 : decode cX9_litBy 83 = .ok (.getfield 142, 3) := by decide +kernel
theorem dX9_litBy_86 : decode cX9_litBy 86 = .ok (.iload_n 3, 1) := by decide +kernel
theorem dX9_litBy_87 : decode cX9_litBy 87 = .ok (.iaload, 1) := by decide +kernel
theorem q_4_230 : Cond.code yX9_isSeen prog_1_method_47_code 4 (some FieldType.boolean) ∈ gw := gw_4 (i := 230) (rfl) rfl
theorem q_4_229 : Cond.instanceMethod yX9_isSeen ∈ gw := gw_4 (i := 229) (by decide +kernel) rfl
theorem q_s_40 : Cond.selects "BeaconDelay" yX9_isSeen yX9_isSeen ∈ gw := gw_s (i := 40) (by decide +kernel) rfl
theorem mt_X9_isSeen : MtV yX9_isSeen cX9_isSeen 4 (some .boolean) 3 := ⟨⟨q_4_230, q_1_1, by decide +kernel, by decide +kernel, by decide +kernel⟩, q_4_229, q_s_40⟩
theorem q_4_227 : Cond.methodLink "BeaconDelay" 298 yX9_isSeen ∈ gw := gw_4 (i := 227) (by decide +kernel) rfl
theorem dX9_litBy_88 : decode cX9_litBy 88 = .ok (.invokevirtual 298, 3) := by decide +kernel
theorem dX9_litBy_91 : decode cX9_litBy 91 = .ok (.ifCond .eq 17, 3) := by decide +kernel
theorem dX9_litBy_94 : decode cX9_litBy 94 = .ok (.iload_n 2, 1) := by decide +kernel
theorem dX9_litBy_95 : decode cX9_litBy 95 = .ok (.iconst 1, 1) := by decide +kernel
theorem dX9_litBy_96 : decode cX9_litBy 96 = .ok (.iload_n 3, 1) := by decide +kernel
theorem dX9_litBy_97 : decode cX9_litBy 97 = .ok (.iconst 1, 1) := by decide +kernel
theorem dX9_litBy_98 : decode cX9_litBy 98 = .ok (.isub, 1) := by decide +kernel
theorem dX9_litBy_99 : decode cX9_litBy 99 = .ok (.ishl, 1) := by decide +kernel
theorem dX9_litBy_100 : decode cX9_litBy 100 = .ok (.ior, 1) := by decide +kernel
theorem dX9_litBy_101 : decode cX9_litBy 101 = .ok (.istore_n 2, 1) := by decide +kernel
theorem dX9_litBy_102 : decode cX9_litBy 102 = .ok (.iinc 3 (-1), 3) := by decide +kernel
theorem dX9_litBy_105 : decode cX9_litBy 105 = .ok (.goto (-35), 3) := by decide +kernel
theorem dX9_litBy_32 : decode cX9_litBy 32 = .ok (.aload_n 0, 1) := by decide +kernel
theorem dX9_litBy_33 : decode cX9_litBy 33 = .ok (.iload_n 3, 1) := by decide +kernel
theorem dX9_litBy_34 : decode cX9_litBy 34 = .ok (.iload_n 3, 1) := by decide +kernel
theorem dX9_litBy_35 : decode cX9_litBy 35 = .ok (.iconst 1, 1) := by decide +kernel
theorem dX9_litBy_36 : decode cX9_litBy 36 = .ok (.iadd, 1) := by decide +kernel
theorem dX9_litBy_37 : decode cX9_litBy 37 = .ok (.aload_n 0, 1) := by decide +kernel
theorem dX9_litBy_38 : decode cX9_litBy 38 = .ok (.getfield 16, 3) := by decide +kernel
theorem dX9_litBy_41 : decode cX9_litBy 41 = .ok (.getfield 142, 3) := by decide +kernel
theorem dX9_litBy_44 : decode cX9_litBy 44 = .ok (.iload_n 3, 1) := by decide +kernel
theorem dX9_litBy_45 : decode cX9_litBy 45 = .ok (.iconst 1, 1) := by decide +kernel
theorem dX9_litBy_46 : decode cX9_litBy 46 = .ok (.iadd, 1) := by decide +kernel
theorem dX9_litBy_47 : decode cX9_litBy 47 = .ok (.iaload, 1) := by decide +kernel
theorem dX9_litBy_48 : decode cX9_litBy 48 = .ok (.invokevirtual 298, 3) := by decide +kernel
theorem dX9_litBy_51 : decode cX9_litBy 51 = .ok (.ifCond .eq 17, 3) := by decide +kernel
theorem dX9_litBy_54 : decode cX9_litBy 54 = .ok (.iload_n 2, 1) := by decide +kernel
theorem dX9_litBy_55 : decode cX9_litBy 55 = .ok (.iconst 1, 1) := by decide +kernel
theorem dX9_litBy_56 : decode cX9_litBy 56 = .ok (.iload_n 3, 1) := by decide +kernel
theorem dX9_litBy_57 : decode cX9_litBy 57 = .ok (.iconst 1, 1) := by decide +kernel
theorem dX9_litBy_58 : decode cX9_litBy 58 = .ok (.iadd, 1) := by decide +kernel
theorem dX9_litBy_59 : decode cX9_litBy 59 = .ok (.ishl, 1) := by decide +kernel
theorem dX9_litBy_60 : decode cX9_litBy 60 = .ok (.ior, 1) := by decide +kernel
theorem dX9_litBy_61 : decode cX9_litBy 61 = .ok (.istore_n 2, 1) := by decide +kernel
theorem dX9_litBy_62 : decode cX9_litBy 62 = .ok (.iinc 3 1, 3) := by decide +kernel
theorem dX9_litBy_65 : decode cX9_litBy 65 = .ok (.goto (-46), 3) := by decide +kernel
theorem dX9_litBy_11 : decode cX9_litBy 11 = .ok (.iconst 0, 1) := by decide +kernel
theorem dX9_litBy_12 : decode cX9_litBy 12 = .ok (.ireturn, 1) := by decide +kernel
set_option maxHeartbeats 4000000 in
set_option maxRecDepth 100000 in
theorem k_X9_litBy_0 (l : Launch) (V : GV) (y : Nat → Nat) (a1 : Int32) (fy4 : Nat → Int32) (py0_1 : Int32) (o10 : Value) (o11 : Value) (py0_12 : Int32) (py0_13 : Int32) (py0_14 : Int32) (py2_0 : Int32) (py2_1 : Int32) (py2_2 : Int32) (py2_3 : Int32) (py2_4 : Int32) (py2_5 : Int32) (py2_13 : Int32) (py2_14 : Int32) (py2_15 : Int32) (py2_16 : Int32) (py2_17 : Int32) (ba1 : iv 0 3 a1) (bpy0_1 : iv 0 900 py0_1) (bpy0_12 : iv 0 9999 py0_12) (bpy0_13 : iv 0 9 py0_13) (bpy2_1 : iv 0 4 py2_1) (bpy2_2 : iv 0 4 py2_2) (bpy2_3 : iv 0 8 py2_3) (bpy2_4 : iv 0 9999 py2_4) (bpy2_5 : iv 0 9 py2_5) (bpy2_13 : iv 0 900 py2_13) (bpy2_14 : iv 0 900 py2_14) (bpy2_15 : iv 0 900 py2_15) (bpy2_16 : iv 0 900 py2_16) (bpy2_17 : iv 0 900 py2_17) : Ct l V yX9_litBy (.code yX9_litBy cX9_litBy 4 (some .int)) 3 [.ref (y 0), .int a1] [(y 4, aI V 4 fy4), (y 0, .inr (9, o9_rirrrrrrrrvviii (y 1) py0_1 (y 2) (y 10) (y 19) (y 25) (y 26) (y 30) (y 31) (y 32) o10 o11 py0_12 py0_13 py0_14)), (y 2, .inr (1, o1_iiiiiirrrrrrriiiii py2_0 py2_1 py2_2 py2_3 py2_4 py2_5 (y 3) (y 4) (y 5) (y 6) (y 7) (y 8) (y 9) py2_13 py2_14 py2_15 py2_16 py2_17))] 0 0 (QI V (fun (r : Int32) (w : va_W) => w = [(y 4, aI V 4 fy4), (y 0, .inr (9, o9_rirrrrrrrrvviii (y 1) py0_1 (y 2) (y 10) (y 19) (y 25) (y 26) (y 30) (y 31) (y 32) o10 o11 py0_12 py0_13 py0_14)), (y 2, .inr (1, o1_iiiiiirrrrrrriiiii py2_0 py2_1 py2_2 py2_3 py2_4 py2_5 (y 3) (y 4) (y 5) (y 6) (y 7) (y 8) (y 9) py2_13 py2_14 py2_15 py2_16 py2_17))])) := by
  refine Ct.of (by decide) (Nat.le_of_ble_eq_true rfl) (fun p e s m below meth c A ls hx hb hr hml hown hlk hnm hg hP hK hD hE hA hS hl => ?_)
  have hl : lv_has ls 4 [(0, .ref (y 0)), (1, .int a1)] := hl
  refine lv_aload_n hx hb dX9_litBy_0 rfl (lv_at hl 0 rfl) ?_
  refine va_get (ci := 9) (v := .int py0_12) (C := RX9) (T := TX9) (N := 15) hx hb hg inX9 hown hK hP 1 rfl rfl 12 (by decide) (hg _ q_2_48) (fun _ h9 => h9) rfl dX9_litBy_1 ?_
  refine lv_iload_n hx hb dX9_litBy_4 rfl (lv_at hl 1 rfl) ?_
  refine jnI (wr := [(y 4, aI V 4 fy4), (y 0, .inr (9, o9_rirrrrrrrrvviii (y 1) py0_1 (y 2) (y 10) (y 19) (y 25) (y 26) (y 30) (y 31) (y 32) o10 o11 py0_12 py0_13 py0_14)), (y 2, .inr (1, o1_iiiiiirrrrrrriiiii py2_0 py2_1 py2_2 py2_3 py2_4 py2_5 (y 3) (y 4) (y 5) (y 6) (y 7) (y 8) (y 9) py2_13 py2_14 py2_15 py2_16 py2_17))]) (rnS (rest := []) ⟨hx, hb, hml, hown, hg⟩ (k_X9_stackIn_0 l V py0_12 a1 bpy0_12 (iv_w ba1 (by decide))) mt_X9_stackIn q_3_126 ⟨Nat.le_of_ble_eq_true rfl, Nat.le_of_ble_eq_true rfl⟩ hK hP hD hS hA hE [] rfl rfl rfl hl.1 rfl (Nat.le_of_ble_eq_true rfl) dX9_litBy_5 ⟨Nat.le_of_ble_eq_true rfl, Nat.le_of_ble_eq_true rfl⟩) hP hD hS hA [] [0, 1, 2] rfl rfl rfl (by decide) (fun r_1 w H locs hw hP hD hS => ?_)
  obtain ⟨br_1, er_1, et_2, rfl⟩ := hw
  have hP : va_P V.1 vwCl [(y 4, aI V 4 fy4), (y 0, .inr (9, o9_rirrrrrrrrvviii (y 1) py0_1 (y 2) (y 10) (y 19) (y 25) (y 26) (y 30) (y 31) (y 32) o10 o11 py0_12 py0_13 py0_14)), (y 2, .inr (1, o1_iiiiiirrrrrrriiiii py2_0 py2_1 py2_2 py2_3 py2_4 py2_5 (y 3) (y 4) (y 5) (y 6) (y 7) (y 8) (y 9) py2_13 py2_14 py2_15 py2_16 py2_17))] H := hP
  have hD := cpD hP hD
  refine lv_if_ne (tgt := 13) hx hb dX9_litBy_8 (by decide) (fun c_3 => ?_) (fun c_3 => ?_)
  · have b_4 : iv 1 4 r_1 := iv_n0 c_3 br_1 (iv_c (0 : Int32) (a := 0) (b := 0) (by decide)) (by decide)
    refine lv_iconst (v := 1) hx hb dX9_litBy_13 (by decide) ?_
    refine lv_iload_n hx hb dX9_litBy_14 rfl (lv_at hl 1 rfl) ?_
    refine lv_ishl hx hb dX9_litBy_15 ?_
    refine lv_topi (fun x_5 ex_5 => ?_)
    refine lv_istore_n (lv' := [(2, .int x_5), (0, .ref (y 0)), (1, .int a1)]) hx hb dX9_litBy_16 rfl hl (by decide) rfl (fun ls hl => ?_)
    refine lv_iload_n hx hb dX9_litBy_17 rfl (lv_at hl 2 rfl) ?_
    refine lv_istore_n (lv' := [(3, .int a1), (2, .int x_5), (0, .ref (y 0)), (1, .int a1)]) hx hb dX9_litBy_18 rfl hl (by decide) rfl (fun ls hl => ?_)
    refine loopF (X := fun (n_8 : Nat) (H : Heap) (locs : List Loc) (ls : Array Slot) => ∃ (u_6 : Int32) (u_7 : Int32), (iv 0 4 u_6) ∧ n_8 = (2147483647 - (u_6 : Int32).toInt).toNat ∧ va_P V.1 vwCl [(y 4, aI V 4 fy4), (y 0, .inr (9, o9_rirrrrrrrrvviii (y 1) py0_1 (y 2) (y 10) (y 19) (y 25) (y 26) (y 30) (y 31) (y 32) o10 o11 py0_12 py0_13 py0_14)), (y 2, .inr (1, o1_iiiiiirrrrrrriiiii py2_0 py2_1 py2_2 py2_3 py2_4 py2_5 (y 3) (y 4) (y 5) (y 6) (y 7) (y 8) (y 9) py2_13 py2_14 py2_15 py2_16 py2_17))] H ∧ va_D A [(y 4, aI V 4 fy4), (y 0, .inr (9, o9_rirrrrrrrrvviii (y 1) py0_1 (y 2) (y 10) (y 19) (y 25) (y 26) (y 30) (y 31) (y 32) o10 o11 py0_12 py0_13 py0_14)), (y 2, .inr (1, o1_iiiiiirrrrrrriiiii py2_0 py2_1 py2_2 py2_3 py2_4 py2_5 (y 3) (y 4) (y 5) (y 6) (y 7) (y 8) (y 9) py2_13 py2_14 py2_15 py2_16 py2_17))] ∧ va_S A s.heap H locs ∧ lv_has ls 4 [(3, .int u_6), (2, .int u_7), (0, .ref (y 0)), (1, .int a1)]) (g := fun ls => F0 m 19 ls []) (fun n_8 H locs ls hX ihn_8 => ?_) _ ⟨a1, x_5, (iv_w ba1 (by decide)), rfl, hP, hD, hS, lv_sub hl [0, 1, 2, 3] rfl⟩
    obtain ⟨u_6, u_7, bu_6, en_8, hP, hD, hS, hl⟩ := hX
    refine lv_iload_n hx hb dX9_litBy_19 rfl (lv_at hl 0 rfl) ?_
    refine lv_iconst (v := 1) hx hb dX9_litBy_20 (by decide) ?_
    refine lv_iadd hx hb dX9_litBy_21 ?_
    refine lv_topi (fun x_9 ex_9 => ?_)
    have bx_9 : iv 1 5 x_9 := by rw [ex_9]; exact iv_add bu_6 (iv_c (1 : Int32) (a := 1) (b := 1) (by decide)) (by decide)
    refine lv_aload_n hx hb dX9_litBy_22 rfl (lv_at hl 2 rfl) ?_
    refine va_get (ci := 9) (v := .ref (y 2)) (C := RX9) (T := TX9) (N := 15) hx hb hg inX9 hown hK hP 1 rfl rfl 2 (by decide) (hg _ q_2_38) (fun _ h9 => h9) rfl dX9_litBy_23 ?_
    refine va_get (ci := 1) (v := .int py2_1) (C := RX1) (T := TX1) (N := 18) hx hb hg inX1 hown hK hP 2 rfl rfl 1 (by decide) (hg _ q_1_41) (fun _ h9 => h9) rfl dX9_litBy_26 ?_
    refine lv_icmp_ge (tgt := 68) hx hb dX9_litBy_29 (by decide) (fun c_10 => ?_) (fun c_10 => ?_)
    · refine lv_iload_n hx hb dX9_litBy_68 rfl (lv_at hl 3 rfl) ?_
      refine lv_istore_n (lv' := [(3, .int a1), (2, .int u_7), (0, .ref (y 0)), (1, .int a1)]) hx hb dX9_litBy_69 rfl hl (by decide) rfl (fun ls hl => ?_)
      refine loopF (X := fun (n_13 : Nat) (H : Heap) (locs : List Loc) (ls : Array Slot) => ∃ (u_11 : Int32) (u_12 : Int32), (iv 0 3 u_11) ∧ n_13 = ((u_11 : Int32).toInt + 2147483648).toNat ∧ va_P V.1 vwCl [(y 4, aI V 4 fy4), (y 0, .inr (9, o9_rirrrrrrrrvviii (y 1) py0_1 (y 2) (y 10) (y 19) (y 25) (y 26) (y 30) (y 31) (y 32) o10 o11 py0_12 py0_13 py0_14)), (y 2, .inr (1, o1_iiiiiirrrrrrriiiii py2_0 py2_1 py2_2 py2_3 py2_4 py2_5 (y 3) (y 4) (y 5) (y 6) (y 7) (y 8) (y 9) py2_13 py2_14 py2_15 py2_16 py2_17))] H ∧ va_D A [(y 4, aI V 4 fy4), (y 0, .inr (9, o9_rirrrrrrrrvviii (y 1) py0_1 (y 2) (y 10) (y 19) (y 25) (y 26) (y 30) (y 31) (y 32) o10 o11 py0_12 py0_13 py0_14)), (y 2, .inr (1, o1_iiiiiirrrrrrriiiii py2_0 py2_1 py2_2 py2_3 py2_4 py2_5 (y 3) (y 4) (y 5) (y 6) (y 7) (y 8) (y 9) py2_13 py2_14 py2_15 py2_16 py2_17))] ∧ va_S A s.heap H locs ∧ lv_has ls 4 [(3, .int u_11), (2, .int u_12), (0, .ref (y 0)), (1, .int a1)]) (g := fun ls => F0 m 70 ls []) (fun n_13 H locs ls hX ihn_13 => ?_) _ ⟨a1, u_7, ba1, rfl, hP, hD, hS, lv_sub hl [0, 1, 2, 3] rfl⟩
      obtain ⟨u_11, u_12, bu_11, en_13, hP, hD, hS, hl⟩ := hX
      refine lv_iload_n hx hb dX9_litBy_70 rfl (lv_at hl 0 rfl) ?_
      refine lv_if_le (tgt := 108) hx hb dX9_litBy_71 (by decide) (fun c_14 => ?_) (fun c_14 => ?_)
      · have b_15 : iv 0 0 u_11 := iv_e1 c_14 bu_11 (iv_c (0 : Int32) (a := 0) (b := 0) (by decide)) (by decide)
        refine lv_iload_n hx hb dX9_litBy_108 rfl (lv_at hl 1 rfl) ?_
        exact fiI hx hb hr hlk hK hP hD hS dX9_litBy_109 (Nat.le_of_ble_eq_true rfl) (Nat.le_of_ble_eq_true rfl) (rfl)
      · have b_16 : iv 1 3 u_11 := iv_l2 (Int32.not_le.mp c_14) (iv_c (0 : Int32) (a := 0) (b := 0) (by decide)) bu_11 (by decide)
        refine lv_aload_n hx hb dX9_litBy_74 rfl (lv_at hl 2 rfl) ?_
        refine lv_iload_n hx hb dX9_litBy_75 rfl (lv_at hl 0 rfl) ?_
        refine lv_iload_n hx hb dX9_litBy_76 rfl (lv_at hl 0 rfl) ?_
        refine lv_iconst (v := 1) hx hb dX9_litBy_77 (by decide) ?_
        refine lv_isub hx hb dX9_litBy_78 ?_
        refine lv_topi (fun x_17 ex_17 => ?_)
        have bx_17 : iv 0 2 x_17 := by rw [ex_17]; exact iv_sub b_16 (iv_c (1 : Int32) (a := 1) (b := 1) (by decide)) (by decide)
        refine lv_aload_n hx hb dX9_litBy_79 rfl (lv_at hl 2 rfl) ?_
        refine va_get (ci := 9) (v := .ref (y 2)) (C := RX9) (T := TX9) (N := 15) hx hb hg inX9 hown hK hP 1 rfl rfl 2 (by decide) (hg _ q_2_38) (fun _ h9 => h9) rfl dX9_litBy_80 ?_
        refine va_get (ci := 1) (v := .ref (y 4)) (C := RX1) (T := TX1) (N := 18) hx hb hg inX1 hown hK hP 2 rfl rfl 7 (by decide) (hg _ q_1_60) (fun _ h9 => h9) rfl dX9_litBy_83 ?_
        refine lv_iload_n hx hb dX9_litBy_86 rfl (lv_at hl 0 rfl) ?_
        refine va_iald hx hb hK hP 0 0 rfl rfl (iv_in b_16 (by decide)) dX9_litBy_87 ?_
        refine lv_topi (fun x_18 ex_18 => ?_)
        refine jnI (wr := [(y 4, aI V 4 fy4), (y 2, .inr (1, o1_iiiiiirrrrrrriiiii py2_0 py2_1 py2_2 py2_3 py2_4 py2_5 (y 3) (y 4) (y 5) (y 6) (y 7) (y 8) (y 9) py2_13 py2_14 py2_15 py2_16 py2_17))]) (rnV (rest := []) ⟨hx, hb, hml, hown, hg⟩ (k_X9_isSeen_0 l V y u_11 x_17 x_18 py0_1 o10 o11 py0_12 py0_13 py0_14 (iv_w b_16 (by decide)) (iv_w bx_17 (by decide)) bpy0_1 bpy0_12 bpy0_13) mt_X9_isSeen q_4_227 ⟨Nat.le_of_ble_eq_true rfl, Nat.le_of_ble_eq_true rfl⟩ hK hP hD hS hA hE [1] rfl rfl 1 rfl rfl rfl rfl hl.1 rfl (Nat.le_of_ble_eq_true rfl) dX9_litBy_88 ⟨Nat.le_of_ble_eq_true rfl, Nat.le_of_ble_eq_true rfl⟩) hP hD hS hA [1] [0, 2] rfl rfl rfl (by decide) (fun r_19 w H locs hw hP hD hS => ?_)
        obtain ⟨br_19, rfl⟩ := hw
        have hP : va_P V.1 vwCl [(y 4, aI V 4 fy4), (y 2, .inr (1, o1_iiiiiirrrrrrriiiii py2_0 py2_1 py2_2 py2_3 py2_4 py2_5 (y 3) (y 4) (y 5) (y 6) (y 7) (y 8) (y 9) py2_13 py2_14 py2_15 py2_16 py2_17)), (y 0, .inr (9, o9_rirrrrrrrrvviii (y 1) py0_1 (y 2) (y 10) (y 19) (y 25) (y 26) (y 30) (y 31) (y 32) o10 o11 py0_12 py0_13 py0_14))] H := hP
        have hD := cpD hP hD
        refine lv_if_eq (tgt := 108) hx hb dX9_litBy_91 (by decide) (fun c_20 => ?_) (fun c_20 => ?_)
        · have b_21 : iv 0 0 r_19 := iv_q c_20 (iv_c (0 : Int32) (a := 0) (b := 0) (by decide))
          refine lv_iload_n hx hb dX9_litBy_108 rfl (lv_at hl 1 rfl) ?_
          have hP := subP (ws' := [(y 4, aI V 4 fy4), (y 0, .inr (9, o9_rirrrrrrrrvviii (y 1) py0_1 (y 2) (y 10) (y 19) (y 25) (y 26) (y 30) (y 31) (y 32) o10 o11 py0_12 py0_13 py0_14)), (y 2, .inr (1, o1_iiiiiirrrrrrriiiii py2_0 py2_1 py2_2 py2_3 py2_4 py2_5 (y 3) (y 4) (y 5) (y 6) (y 7) (y 8) (y 9) py2_13 py2_14 py2_15 py2_16 py2_17))]) hP [0, 2, 1] rfl
          have hD := subD hP hD [0, 2, 1] rfl rfl
          exact fiI hx hb hr hlk hK hP hD hS dX9_litBy_109 (Nat.le_of_ble_eq_true rfl) (Nat.le_of_ble_eq_true rfl) (rfl)
        · have b_22 : iv 1 1 r_19 := iv_n0 c_20 br_19 (iv_c (0 : Int32) (a := 0) (b := 0) (by decide)) (by decide)
          refine lv_iload_n hx hb dX9_litBy_94 rfl (lv_at hl 1 rfl) ?_
          refine lv_iconst (v := 1) hx hb dX9_litBy_95 (by decide) ?_
          refine lv_iload_n hx hb dX9_litBy_96 rfl (lv_at hl 0 rfl) ?_
          refine lv_iconst (v := 1) hx hb dX9_litBy_97 (by decide) ?_
          refine lv_isub hx hb dX9_litBy_98 ?_
          refine tpi (y := x_17) ex_17.symm ?_
          refine lv_ishl hx hb dX9_litBy_99 ?_
          refine lv_topi (fun x_23 ex_23 => ?_)
          refine lv_ior hx hb dX9_litBy_100 ?_
          refine lv_topi (fun x_24 ex_24 => ?_)
          refine lv_istore_n (lv' := [(2, .int x_24), (3, .int u_11), (0, .ref (y 0)), (1, .int a1)]) hx hb dX9_litBy_101 rfl hl (by decide) rfl (fun ls hl => ?_)
          obtain ⟨x_25, ex_25⟩ : ∃ z9 : Int32, z9 = u_11 + (-1) := ⟨_, rfl⟩
          have bx_25 : iv 0 2 x_25 := by rw [ex_25]; exact iv_add b_16 (iv_c ((-1) : Int32) (a := (-1)) (b := (-1)) (by decide)) (by decide)
          refine lv_iinc (v := x_25) (lv' := [(3, .int x_25), (2, .int x_24), (0, .ref (y 0)), (1, .int a1)]) hx hb dX9_litBy_102 hl (k := 1) rfl (by rw [ex_25]; rfl) (by decide) rfl (fun ls hl => ?_)
          refine lv_goto (tgt := 70) hx hb dX9_litBy_105 (by decide) ?_
          have hP := subP (ws' := [(y 4, aI V 4 fy4), (y 0, .inr (9, o9_rirrrrrrrrvviii (y 1) py0_1 (y 2) (y 10) (y 19) (y 25) (y 26) (y 30) (y 31) (y 32) o10 o11 py0_12 py0_13 py0_14)), (y 2, .inr (1, o1_iiiiiirrrrrrriiiii py2_0 py2_1 py2_2 py2_3 py2_4 py2_5 (y 3) (y 4) (y 5) (y 6) (y 7) (y 8) (y 9) py2_13 py2_14 py2_15 py2_16 py2_17))]) hP [0, 2, 1] rfl
          have hD := subD hP hD [0, 2, 1] rfl rfl
          exact ihn_13 _ _ _ _ (by rw [en_13, ex_25]; exact mu_dn b_16 (by decide)) ⟨x_25, x_24, (iv_w bx_25 (by decide)), rfl, hP, hD, hS, lv_sub hl [0, 1, 2, 3] rfl⟩
    · have b_26 : iv 1 3 x_9 := iv_l1 (Int32.not_le.mp c_10) bx_9 bpy2_1 (by decide)
      have b_27 : iv 0 2 u_6 := iv_addb ex_9 b_26 bu_6 (iv_c (1 : Int32) (a := 1) (b := 1) (by decide)) (by decide)
      have b_28 : iv 2 4 py2_1 := iv_l2 (Int32.not_le.mp c_10) bx_9 bpy2_1 (by decide)
      refine lv_aload_n hx hb dX9_litBy_32 rfl (lv_at hl 2 rfl) ?_
      refine lv_iload_n hx hb dX9_litBy_33 rfl (lv_at hl 0 rfl) ?_
      refine lv_iload_n hx hb dX9_litBy_34 rfl (lv_at hl 0 rfl) ?_
      refine lv_iconst (v := 1) hx hb dX9_litBy_35 (by decide) ?_
      refine lv_iadd hx hb dX9_litBy_36 ?_
      refine tpi (y := x_9) ex_9.symm ?_
      refine lv_aload_n hx hb dX9_litBy_37 rfl (lv_at hl 2 rfl) ?_
      refine va_get (ci := 9) (v := .ref (y 2)) (C := RX9) (T := TX9) (N := 15) hx hb hg inX9 hown hK hP 1 rfl rfl 2 (by decide) (hg _ q_2_38) (fun _ h9 => h9) rfl dX9_litBy_38 ?_
      refine va_get (ci := 1) (v := .ref (y 4)) (C := RX1) (T := TX1) (N := 18) hx hb hg inX1 hown hK hP 2 rfl rfl 7 (by decide) (hg _ q_1_60) (fun _ h9 => h9) rfl dX9_litBy_41 ?_
      refine lv_iload_n hx hb dX9_litBy_44 rfl (lv_at hl 0 rfl) ?_
      refine lv_iconst (v := 1) hx hb dX9_litBy_45 (by decide) ?_
      refine lv_iadd hx hb dX9_litBy_46 ?_
      refine tpi (y := x_9) ex_9.symm ?_
      refine va_iald hx hb hK hP 0 0 rfl rfl (iv_in b_26 (by decide)) dX9_litBy_47 ?_
      refine lv_topi (fun x_29 ex_29 => ?_)
      refine jnI (wr := [(y 4, aI V 4 fy4), (y 2, .inr (1, o1_iiiiiirrrrrrriiiii py2_0 py2_1 py2_2 py2_3 py2_4 py2_5 (y 3) (y 4) (y 5) (y 6) (y 7) (y 8) (y 9) py2_13 py2_14 py2_15 py2_16 py2_17))]) (rnV (rest := []) ⟨hx, hb, hml, hown, hg⟩ (k_X9_isSeen_0 l V y u_6 x_9 x_29 py0_1 o10 o11 py0_12 py0_13 py0_14 (iv_w b_27 (by decide)) (iv_w b_26 (by decide)) bpy0_1 bpy0_12 bpy0_13) mt_X9_isSeen q_4_227 ⟨Nat.le_of_ble_eq_true rfl, Nat.le_of_ble_eq_true rfl⟩ hK hP hD hS hA hE [1] rfl rfl 1 rfl rfl rfl rfl hl.1 rfl (Nat.le_of_ble_eq_true rfl) dX9_litBy_48 ⟨Nat.le_of_ble_eq_true rfl, Nat.le_of_ble_eq_true rfl⟩) hP hD hS hA [1] [0, 2] rfl rfl rfl (by decide) (fun r_30 w H locs hw hP hD hS => ?_)
      obtain ⟨br_30, rfl⟩ := hw
      have hP : va_P V.1 vwCl [(y 4, aI V 4 fy4), (y 2, .inr (1, o1_iiiiiirrrrrrriiiii py2_0 py2_1 py2_2 py2_3 py2_4 py2_5 (y 3) (y 4) (y 5) (y 6) (y 7) (y 8) (y 9) py2_13 py2_14 py2_15 py2_16 py2_17)), (y 0, .inr (9, o9_rirrrrrrrrvviii (y 1) py0_1 (y 2) (y 10) (y 19) (y 25) (y 26) (y 30) (y 31) (y 32) o10 o11 py0_12 py0_13 py0_14))] H := hP
      have hD := cpD hP hD
      refine lv_if_eq (tgt := 68) hx hb dX9_litBy_51 (by decide) (fun c_31 => ?_) (fun c_31 => ?_)
      · have b_32 : iv 0 0 r_30 := iv_q c_31 (iv_c (0 : Int32) (a := 0) (b := 0) (by decide))
        refine lv_iload_n hx hb dX9_litBy_68 rfl (lv_at hl 3 rfl) ?_
        refine lv_istore_n (lv' := [(3, .int a1), (2, .int u_7), (0, .ref (y 0)), (1, .int a1)]) hx hb dX9_litBy_69 rfl hl (by decide) rfl (fun ls hl => ?_)
        refine loopF (X := fun (n_35 : Nat) (H : Heap) (locs : List Loc) (ls : Array Slot) => ∃ (u_33 : Int32) (u_34 : Int32), (iv 0 3 u_33) ∧ n_35 = ((u_33 : Int32).toInt + 2147483648).toNat ∧ va_P V.1 vwCl [(y 4, aI V 4 fy4), (y 2, .inr (1, o1_iiiiiirrrrrrriiiii py2_0 py2_1 py2_2 py2_3 py2_4 py2_5 (y 3) (y 4) (y 5) (y 6) (y 7) (y 8) (y 9) py2_13 py2_14 py2_15 py2_16 py2_17)), (y 0, .inr (9, o9_rirrrrrrrrvviii (y 1) py0_1 (y 2) (y 10) (y 19) (y 25) (y 26) (y 30) (y 31) (y 32) o10 o11 py0_12 py0_13 py0_14))] H ∧ va_D A [(y 4, aI V 4 fy4), (y 2, .inr (1, o1_iiiiiirrrrrrriiiii py2_0 py2_1 py2_2 py2_3 py2_4 py2_5 (y 3) (y 4) (y 5) (y 6) (y 7) (y 8) (y 9) py2_13 py2_14 py2_15 py2_16 py2_17)), (y 0, .inr (9, o9_rirrrrrrrrvviii (y 1) py0_1 (y 2) (y 10) (y 19) (y 25) (y 26) (y 30) (y 31) (y 32) o10 o11 py0_12 py0_13 py0_14))] ∧ va_S A s.heap H locs ∧ lv_has ls 4 [(3, .int u_33), (2, .int u_34), (0, .ref (y 0)), (1, .int a1)]) (g := fun ls => F0 m 70 ls []) (fun n_35 H locs ls hX ihn_35 => ?_) _ ⟨a1, u_7, ba1, rfl, hP, hD, hS, lv_sub hl [0, 1, 2, 3] rfl⟩
        obtain ⟨u_33, u_34, bu_33, en_35, hP, hD, hS, hl⟩ := hX
        refine lv_iload_n hx hb dX9_litBy_70 rfl (lv_at hl 0 rfl) ?_
        refine lv_if_le (tgt := 108) hx hb dX9_litBy_71 (by decide) (fun c_36 => ?_) (fun c_36 => ?_)
        · have b_37 : iv 0 0 u_33 := iv_e1 c_36 bu_33 (iv_c (0 : Int32) (a := 0) (b := 0) (by decide)) (by decide)
          refine lv_iload_n hx hb dX9_litBy_108 rfl (lv_at hl 1 rfl) ?_
          have hP := subP (ws' := [(y 4, aI V 4 fy4), (y 0, .inr (9, o9_rirrrrrrrrvviii (y 1) py0_1 (y 2) (y 10) (y 19) (y 25) (y 26) (y 30) (y 31) (y 32) o10 o11 py0_12 py0_13 py0_14)), (y 2, .inr (1, o1_iiiiiirrrrrrriiiii py2_0 py2_1 py2_2 py2_3 py2_4 py2_5 (y 3) (y 4) (y 5) (y 6) (y 7) (y 8) (y 9) py2_13 py2_14 py2_15 py2_16 py2_17))]) hP [0, 2, 1] rfl
          have hD := subD hP hD [0, 2, 1] rfl rfl
          exact fiI hx hb hr hlk hK hP hD hS dX9_litBy_109 (Nat.le_of_ble_eq_true rfl) (Nat.le_of_ble_eq_true rfl) (rfl)
        · have b_38 : iv 1 3 u_33 := iv_l2 (Int32.not_le.mp c_36) (iv_c (0 : Int32) (a := 0) (b := 0) (by decide)) bu_33 (by decide)
          refine lv_aload_n hx hb dX9_litBy_74 rfl (lv_at hl 2 rfl) ?_
          refine lv_iload_n hx hb dX9_litBy_75 rfl (lv_at hl 0 rfl) ?_
          refine lv_iload_n hx hb dX9_litBy_76 rfl (lv_at hl 0 rfl) ?_
          refine lv_iconst (v := 1) hx hb dX9_litBy_77 (by decide) ?_
          refine lv_isub hx hb dX9_litBy_78 ?_
          refine lv_topi (fun x_39 ex_39 => ?_)
          have bx_39 : iv 0 2 x_39 := by rw [ex_39]; exact iv_sub b_38 (iv_c (1 : Int32) (a := 1) (b := 1) (by decide)) (by decide)
          refine lv_aload_n hx hb dX9_litBy_79 rfl (lv_at hl 2 rfl) ?_
          refine va_get (ci := 9) (v := .ref (y 2)) (C := RX9) (T := TX9) (N := 15) hx hb hg inX9 hown hK hP 2 rfl rfl 2 (by decide) (hg _ q_2_38) (fun _ h9 => h9) rfl dX9_litBy_80 ?_
          refine va_get (ci := 1) (v := .ref (y 4)) (C := RX1) (T := TX1) (N := 18) hx hb hg inX1 hown hK hP 1 rfl rfl 7 (by decide) (hg _ q_1_60) (fun _ h9 => h9) rfl dX9_litBy_83 ?_
          refine lv_iload_n hx hb dX9_litBy_86 rfl (lv_at hl 0 rfl) ?_
          refine va_iald hx hb hK hP 0 0 rfl rfl (iv_in b_38 (by decide)) dX9_litBy_87 ?_
          refine lv_topi (fun x_40 ex_40 => ?_)
          refine jnI (wr := [(y 4, aI V 4 fy4), (y 2, .inr (1, o1_iiiiiirrrrrrriiiii py2_0 py2_1 py2_2 py2_3 py2_4 py2_5 (y 3) (y 4) (y 5) (y 6) (y 7) (y 8) (y 9) py2_13 py2_14 py2_15 py2_16 py2_17))]) (rnV (rest := []) ⟨hx, hb, hml, hown, hg⟩ (k_X9_isSeen_0 l V y u_33 x_39 x_40 py0_1 o10 o11 py0_12 py0_13 py0_14 (iv_w b_38 (by decide)) (iv_w bx_39 (by decide)) bpy0_1 bpy0_12 bpy0_13) mt_X9_isSeen q_4_227 ⟨Nat.le_of_ble_eq_true rfl, Nat.le_of_ble_eq_true rfl⟩ hK hP hD hS hA hE [2] rfl rfl 2 rfl rfl rfl rfl hl.1 rfl (Nat.le_of_ble_eq_true rfl) dX9_litBy_88 ⟨Nat.le_of_ble_eq_true rfl, Nat.le_of_ble_eq_true rfl⟩) hP hD hS hA [2] [0, 1] rfl rfl rfl (by decide) (fun r_41 w H locs hw hP hD hS => ?_)
          obtain ⟨br_41, rfl⟩ := hw
          have hP : va_P V.1 vwCl [(y 4, aI V 4 fy4), (y 2, .inr (1, o1_iiiiiirrrrrrriiiii py2_0 py2_1 py2_2 py2_3 py2_4 py2_5 (y 3) (y 4) (y 5) (y 6) (y 7) (y 8) (y 9) py2_13 py2_14 py2_15 py2_16 py2_17)), (y 0, .inr (9, o9_rirrrrrrrrvviii (y 1) py0_1 (y 2) (y 10) (y 19) (y 25) (y 26) (y 30) (y 31) (y 32) o10 o11 py0_12 py0_13 py0_14))] H := hP
          have hD := cpD hP hD
          refine lv_if_eq (tgt := 108) hx hb dX9_litBy_91 (by decide) (fun c_42 => ?_) (fun c_42 => ?_)
          · have b_43 : iv 0 0 r_41 := iv_q c_42 (iv_c (0 : Int32) (a := 0) (b := 0) (by decide))
            refine lv_iload_n hx hb dX9_litBy_108 rfl (lv_at hl 1 rfl) ?_
            have hP := subP (ws' := [(y 4, aI V 4 fy4), (y 0, .inr (9, o9_rirrrrrrrrvviii (y 1) py0_1 (y 2) (y 10) (y 19) (y 25) (y 26) (y 30) (y 31) (y 32) o10 o11 py0_12 py0_13 py0_14)), (y 2, .inr (1, o1_iiiiiirrrrrrriiiii py2_0 py2_1 py2_2 py2_3 py2_4 py2_5 (y 3) (y 4) (y 5) (y 6) (y 7) (y 8) (y 9) py2_13 py2_14 py2_15 py2_16 py2_17))]) hP [0, 2, 1] rfl
            have hD := subD hP hD [0, 2, 1] rfl rfl
            exact fiI hx hb hr hlk hK hP hD hS dX9_litBy_109 (Nat.le_of_ble_eq_true rfl) (Nat.le_of_ble_eq_true rfl) (rfl)
          · have b_44 : iv 1 1 r_41 := iv_n0 c_42 br_41 (iv_c (0 : Int32) (a := 0) (b := 0) (by decide)) (by decide)
            refine lv_iload_n hx hb dX9_litBy_94 rfl (lv_at hl 1 rfl) ?_
            refine lv_iconst (v := 1) hx hb dX9_litBy_95 (by decide) ?_
            refine lv_iload_n hx hb dX9_litBy_96 rfl (lv_at hl 0 rfl) ?_
            refine lv_iconst (v := 1) hx hb dX9_litBy_97 (by decide) ?_
            refine lv_isub hx hb dX9_litBy_98 ?_
            refine tpi (y := x_39) ex_39.symm ?_
            refine lv_ishl hx hb dX9_litBy_99 ?_
            refine lv_topi (fun x_45 ex_45 => ?_)
            refine lv_ior hx hb dX9_litBy_100 ?_
            refine lv_topi (fun x_46 ex_46 => ?_)
            refine lv_istore_n (lv' := [(2, .int x_46), (3, .int u_33), (0, .ref (y 0)), (1, .int a1)]) hx hb dX9_litBy_101 rfl hl (by decide) rfl (fun ls hl => ?_)
            obtain ⟨x_47, ex_47⟩ : ∃ z9 : Int32, z9 = u_33 + (-1) := ⟨_, rfl⟩
            have bx_47 : iv 0 2 x_47 := by rw [ex_47]; exact iv_add b_38 (iv_c ((-1) : Int32) (a := (-1)) (b := (-1)) (by decide)) (by decide)
            refine lv_iinc (v := x_47) (lv' := [(3, .int x_47), (2, .int x_46), (0, .ref (y 0)), (1, .int a1)]) hx hb dX9_litBy_102 hl (k := 1) rfl (by rw [ex_47]; rfl) (by decide) rfl (fun ls hl => ?_)
            refine lv_goto (tgt := 70) hx hb dX9_litBy_105 (by decide) ?_
            exact ihn_35 _ _ _ _ (by rw [en_35, ex_47]; exact mu_dn b_38 (by decide)) ⟨x_47, x_46, (iv_w bx_47 (by decide)), rfl, hP, hD, hS, lv_sub hl [0, 1, 2, 3] rfl⟩
      · have b_48 : iv 1 1 r_30 := iv_n0 c_31 br_30 (iv_c (0 : Int32) (a := 0) (b := 0) (by decide)) (by decide)
        refine lv_iload_n hx hb dX9_litBy_54 rfl (lv_at hl 1 rfl) ?_
        refine lv_iconst (v := 1) hx hb dX9_litBy_55 (by decide) ?_
        refine lv_iload_n hx hb dX9_litBy_56 rfl (lv_at hl 0 rfl) ?_
        refine lv_iconst (v := 1) hx hb dX9_litBy_57 (by decide) ?_
        refine lv_iadd hx hb dX9_litBy_58 ?_
        refine tpi (y := x_9) ex_9.symm ?_
        refine lv_ishl hx hb dX9_litBy_59 ?_
        refine lv_topi (fun x_49 ex_49 => ?_)
        refine lv_ior hx hb dX9_litBy_60 ?_
        refine lv_topi (fun x_50 ex_50 => ?_)
        refine lv_istore_n (lv' := [(2, .int x_50), (3, .int u_6), (0, .ref (y 0)), (1, .int a1)]) hx hb dX9_litBy_61 rfl hl (by decide) rfl (fun ls hl => ?_)
        obtain ⟨x_51, ex_51⟩ : ∃ z9 : Int32, z9 = u_6 + 1 := ⟨_, rfl⟩
        have bx_51 : iv 1 3 x_51 := by rw [ex_51]; exact iv_add b_27 (iv_c (1 : Int32) (a := 1) (b := 1) (by decide)) (by decide)
        refine lv_iinc (v := x_51) (lv' := [(3, .int x_51), (2, .int x_50), (0, .ref (y 0)), (1, .int a1)]) hx hb dX9_litBy_62 hl (k := 1) rfl (by rw [ex_51]; rfl) (by decide) rfl (fun ls hl => ?_)
        refine lv_goto (tgt := 19) hx hb dX9_litBy_65 (by decide) ?_
        have hP := subP (ws' := [(y 4, aI V 4 fy4), (y 0, .inr (9, o9_rirrrrrrrrvviii (y 1) py0_1 (y 2) (y 10) (y 19) (y 25) (y 26) (y 30) (y 31) (y 32) o10 o11 py0_12 py0_13 py0_14)), (y 2, .inr (1, o1_iiiiiirrrrrrriiiii py2_0 py2_1 py2_2 py2_3 py2_4 py2_5 (y 3) (y 4) (y 5) (y 6) (y 7) (y 8) (y 9) py2_13 py2_14 py2_15 py2_16 py2_17))]) hP [0, 2, 1] rfl
        have hD := subD hP hD [0, 2, 1] rfl rfl
        exact ihn_8 _ _ _ _ (by rw [en_8, ex_51]; exact mu_up b_27 (by decide)) ⟨x_51, x_50, (iv_w bx_51 (by decide)), rfl, hP, hD, hS, lv_sub hl [0, 1, 2, 3] rfl⟩
  · have b_52 : iv 0 0 r_1 := iv_q c_3 (iv_c (0 : Int32) (a := 0) (b := 0) (by decide))
    refine lv_iconst (v := 0) hx hb dX9_litBy_11 (by decide) ?_
    exact fiI hx hb hr hlk hK hP hD hS dX9_litBy_12 (Nat.le_of_ble_eq_true rfl) (Nat.le_of_ble_eq_true rfl) (rfl)
theorem dX9_lit_0 : decode cX9_lit 0 = .ok (.aload_n 0, 1) := by decide +kernel
theorem dX9_lit_1 : decode cX9_lit 1 = .ok (.iload_n 1, 1) := by decide +kernel
theorem dX9_lit_2 : decode cX9_lit 2 = .ok (.invokevirtual 128, 3) := by decide +kernel
theorem dX9_lit_5 : decode cX9_lit 5 = .ok (.ifCond .eq 11, 3) := by decide +kernel
theorem dX9_lit_16 : decode cX9_lit 16 = .ok (.bipush (-2), 2) := by decide +kernel
theorem dX9_lit_18 : decode cX9_lit 18 = .ok (.ireturn, 1) := by decide +kernel
theorem dX9_lit_8 : decode cX9_lit 8 = .ok (.aload_n 0, 1) := by decide +kernel
theorem dX9_lit_9 : decode cX9_lit 9 = .ok (.iload_n 1, 1) := by decide +kernel
theorem q_4_226 : Cond.code yX9_litBy prog_1_method_46_code 4 (some FieldType.int) ∈ gw := gw_4 (i := 226) (rfl) rfl
theorem q_4_225 : Cond.instanceMethod yX9_litBy ∈ gw := gw_4 (i := 225) (by decide +kernel) rfl
theorem q_s_39 : Cond.selects "BeaconDelay" yX9_litBy yX9_litBy ∈ gw := gw_s (i := 39) (by decide +kernel) rfl
theorem mt_X9_litBy : MtV yX9_litBy cX9_litBy 4 (some .int) 1 := ⟨⟨q_4_226, q_1_1, by decide +kernel, by decide +kernel, by decide +kernel⟩, q_4_225, q_s_39⟩
theorem q_4_223 : Cond.methodLink "BeaconDelay" 295 yX9_litBy ∈ gw := gw_4 (i := 223) (by decide +kernel) rfl
theorem dX9_lit_10 : decode cX9_lit 10 = .ok (.invokevirtual 295, 3) := by decide +kernel
theorem dX9_lit_13 : decode cX9_lit 13 = .ok (.goto 5, 3) := by decide +kernel
set_option maxHeartbeats 4000000 in
set_option maxRecDepth 100000 in
theorem k_X9_lit_0 (l : Launch) (V : GV) (y : Nat → Nat) (a1 : Int32) (py0_1 : Int32) (o10 : Value) (o11 : Value) (py0_12 : Int32) (py0_13 : Int32) (py0_14 : Int32) (py2_0 : Int32) (py2_1 : Int32) (py2_2 : Int32) (py2_3 : Int32) (py2_4 : Int32) (py2_5 : Int32) (py2_13 : Int32) (py2_14 : Int32) (py2_15 : Int32) (py2_16 : Int32) (py2_17 : Int32) (fy4 : Nat → Int32) (bpy0_1 : iv 0 900 py0_1) (bpy0_12 : iv 0 9999 py0_12) (bpy0_13 : iv 0 9 py0_13) (bpy2_1 : iv 0 4 py2_1) (bpy2_2 : iv 0 4 py2_2) (bpy2_3 : iv 0 8 py2_3) (bpy2_4 : iv 0 9999 py2_4) (bpy2_5 : iv 0 9 py2_5) (bpy2_13 : iv 0 900 py2_13) (bpy2_14 : iv 0 900 py2_14) (bpy2_15 : iv 0 900 py2_15) (bpy2_16 : iv 0 900 py2_16) (bpy2_17 : iv 0 900 py2_17) : Ct l V yX9_lit (.code yX9_lit cX9_lit 2 (some .int)) 4 [.ref (y 0), .int a1] [(y 0, .inr (9, o9_rirrrrrrrrvviii (y 1) py0_1 (y 2) (y 10) (y 19) (y 25) (y 26) (y 30) (y 31) (y 32) o10 o11 py0_12 py0_13 py0_14)), (y 2, .inr (1, o1_iiiiiirrrrrrriiiii py2_0 py2_1 py2_2 py2_3 py2_4 py2_5 (y 3) (y 4) (y 5) (y 6) (y 7) (y 8) (y 9) py2_13 py2_14 py2_15 py2_16 py2_17)), (y 4, aI V 4 fy4)] 0 0 (QI V (fun (r : Int32) (w : va_W) => w = [(y 0, .inr (9, o9_rirrrrrrrrvviii (y 1) py0_1 (y 2) (y 10) (y 19) (y 25) (y 26) (y 30) (y 31) (y 32) o10 o11 py0_12 py0_13 py0_14)), (y 2, .inr (1, o1_iiiiiirrrrrrriiiii py2_0 py2_1 py2_2 py2_3 py2_4 py2_5 (y 3) (y 4) (y 5) (y 6) (y 7) (y 8) (y 9) py2_13 py2_14 py2_15 py2_16 py2_17)), (y 4, aI V 4 fy4)])) := by
  refine Ct.of (by decide) (Nat.le_of_ble_eq_true rfl) (fun p e s m below meth c A ls hx hb hr hml hown hlk hnm hg hP hK hD hE hA hS hl => ?_)
  have hl : lv_has ls 2 [(0, .ref (y 0)), (1, .int a1)] := hl
  refine lv_aload_n hx hb dX9_lit_0 rfl (lv_at hl 0 rfl) ?_
  refine lv_iload_n hx hb dX9_lit_1 rfl (lv_at hl 1 rfl) ?_
  refine jnI (wr := [(y 4, aI V 4 fy4)]) (rnV (rest := []) ⟨hx, hb, hml, hown, hg⟩ (k_X9_isHill_0 l V y a1 py0_1 o10 o11 py0_12 py0_13 py0_14 py2_0 py2_1 py2_2 py2_3 py2_4 py2_5 py2_13 py2_14 py2_15 py2_16 py2_17 bpy0_1 bpy0_12 bpy0_13 bpy2_1 bpy2_2 bpy2_3 bpy2_4 bpy2_5 bpy2_13 bpy2_14 bpy2_15 bpy2_16 bpy2_17) mt_X9_isHill q_3_122 ⟨Nat.le_of_ble_eq_true rfl, Nat.le_of_ble_eq_true rfl⟩ hK hP hD hS hA hE [0, 1] rfl rfl 0 rfl rfl rfl rfl hl.1 rfl (Nat.le_of_ble_eq_true rfl) dX9_lit_2 ⟨Nat.le_of_ble_eq_true rfl, Nat.le_of_ble_eq_true rfl⟩) hP hD hS hA [0, 1] [2] rfl rfl rfl (by decide) (fun r_1 w H locs hw hP hD hS => ?_)
  rcases hw with ⟨c_2, rfl, et_3, rfl⟩ | ⟨c_4, c_5, rfl, et_6, rfl⟩ | ⟨c_7, c_8, rfl, et_9, rfl⟩
  · have hP : va_P V.1 vwCl [(y 4, aI V 4 fy4), (y 0, .inr (9, o9_rirrrrrrrrvviii (y 1) py0_1 (y 2) (y 10) (y 19) (y 25) (y 26) (y 30) (y 31) (y 32) o10 o11 py0_12 py0_13 py0_14)), (y 2, .inr (1, o1_iiiiiirrrrrrriiiii py2_0 py2_1 py2_2 py2_3 py2_4 py2_5 (y 3) (y 4) (y 5) (y 6) (y 7) (y 8) (y 9) py2_13 py2_14 py2_15 py2_16 py2_17))] H := hP
    have hD := cpD hP hD
    have b_10 : iv (-2147483648) (-1) a1 := iv_l1 c_2 (iv_top a1) (iv_c (0 : Int32) (a := 0) (b := 0) (by decide)) (by decide)
    refine lv_if_eq (tgt := 16) hx hb dX9_lit_5 (by decide) (fun _ => ?_) (fun c_12 => absurd c_12 (by decide))
    refine lv_bipush (v := (-2)) hx hb dX9_lit_16 (by decide) ?_
    have hP := subP (ws' := [(y 0, .inr (9, o9_rirrrrrrrrvviii (y 1) py0_1 (y 2) (y 10) (y 19) (y 25) (y 26) (y 30) (y 31) (y 32) o10 o11 py0_12 py0_13 py0_14)), (y 2, .inr (1, o1_iiiiiirrrrrrriiiii py2_0 py2_1 py2_2 py2_3 py2_4 py2_5 (y 3) (y 4) (y 5) (y 6) (y 7) (y 8) (y 9) py2_13 py2_14 py2_15 py2_16 py2_17)), (y 4, aI V 4 fy4)]) hP [1, 2, 0] rfl
    have hD := subD hP hD [1, 2, 0] rfl rfl
    exact fiI hx hb hr hlk hK hP hD hS dX9_lit_18 (Nat.le_of_ble_eq_true rfl) (Nat.le_of_ble_eq_true rfl) (rfl)
  · have hP : va_P V.1 vwCl [(y 4, aI V 4 fy4), (y 0, .inr (9, o9_rirrrrrrrrvviii (y 1) py0_1 (y 2) (y 10) (y 19) (y 25) (y 26) (y 30) (y 31) (y 32) o10 o11 py0_12 py0_13 py0_14)), (y 2, .inr (1, o1_iiiiiirrrrrrriiiii py2_0 py2_1 py2_2 py2_3 py2_4 py2_5 (y 3) (y 4) (y 5) (y 6) (y 7) (y 8) (y 9) py2_13 py2_14 py2_15 py2_16 py2_17))] H := hP
    have hD := cpD hP hD
    have b_13 : iv 0 2147483647 a1 := iv_e2 (Int32.not_lt.mp c_4) (iv_c (0 : Int32) (a := 0) (b := 0) (by decide)) (iv_top a1) (by decide)
    refine lv_if_eq (tgt := 16) hx hb dX9_lit_5 (by decide) (fun _ => ?_) (fun c_15 => absurd c_15 (by decide))
    refine lv_bipush (v := (-2)) hx hb dX9_lit_16 (by decide) ?_
    have hP := subP (ws' := [(y 0, .inr (9, o9_rirrrrrrrrvviii (y 1) py0_1 (y 2) (y 10) (y 19) (y 25) (y 26) (y 30) (y 31) (y 32) o10 o11 py0_12 py0_13 py0_14)), (y 2, .inr (1, o1_iiiiiirrrrrrriiiii py2_0 py2_1 py2_2 py2_3 py2_4 py2_5 (y 3) (y 4) (y 5) (y 6) (y 7) (y 8) (y 9) py2_13 py2_14 py2_15 py2_16 py2_17)), (y 4, aI V 4 fy4)]) hP [1, 2, 0] rfl
    have hD := subD hP hD [1, 2, 0] rfl rfl
    exact fiI hx hb hr hlk hK hP hD hS dX9_lit_18 (Nat.le_of_ble_eq_true rfl) (Nat.le_of_ble_eq_true rfl) (rfl)
  · have hP : va_P V.1 vwCl [(y 4, aI V 4 fy4), (y 0, .inr (9, o9_rirrrrrrrrvviii (y 1) py0_1 (y 2) (y 10) (y 19) (y 25) (y 26) (y 30) (y 31) (y 32) o10 o11 py0_12 py0_13 py0_14)), (y 2, .inr (1, o1_iiiiiirrrrrrriiiii py2_0 py2_1 py2_2 py2_3 py2_4 py2_5 (y 3) (y 4) (y 5) (y 6) (y 7) (y 8) (y 9) py2_13 py2_14 py2_15 py2_16 py2_17))] H := hP
    have hD := cpD hP hD
    have b_16 : iv 0 2147483647 a1 := iv_e2 (Int32.not_lt.mp c_7) (iv_c (0 : Int32) (a := 0) (b := 0) (by decide)) (iv_top a1) (by decide)
    have b_17 : iv 0 3 a1 := iv_l1 (Int32.not_le.mp c_8) b_16 bpy2_1 (by decide)
    have b_18 : iv 1 4 py2_1 := iv_l2 (Int32.not_le.mp c_8) b_16 bpy2_1 (by decide)
    refine lv_if_eq (tgt := 16) hx hb dX9_lit_5 (by decide) (fun c_20 => absurd c_20 (by decide)) (fun _ => ?_)
    refine lv_aload_n hx hb dX9_lit_8 rfl (lv_at hl 0 rfl) ?_
    refine lv_iload_n hx hb dX9_lit_9 rfl (lv_at hl 1 rfl) ?_
    refine jnI (wr := []) (rnV (rest := []) ⟨hx, hb, hml, hown, hg⟩ (k_X9_litBy_0 l V y a1 fy4 py0_1 o10 o11 py0_12 py0_13 py0_14 py2_0 py2_1 py2_2 py2_3 py2_4 py2_5 py2_13 py2_14 py2_15 py2_16 py2_17 b_17 bpy0_1 bpy0_12 bpy0_13 (iv_w b_18 (by decide)) bpy2_2 bpy2_3 bpy2_4 bpy2_5 bpy2_13 bpy2_14 bpy2_15 bpy2_16 bpy2_17) mt_X9_litBy q_4_223 ⟨Nat.le_of_ble_eq_true rfl, Nat.le_of_ble_eq_true rfl⟩ hK hP hD hS hA hE [0, 1, 2] rfl rfl 1 rfl rfl rfl rfl hl.1 rfl (Nat.le_of_ble_eq_true rfl) dX9_lit_10 ⟨Nat.le_of_ble_eq_true rfl, Nat.le_of_ble_eq_true rfl⟩) hP hD hS hA [0, 1, 2] [] rfl rfl rfl (by decide) (fun r_21 w H locs hw hP hD hS => ?_)
    subst hw
    have hP : va_P V.1 vwCl [(y 4, aI V 4 fy4), (y 0, .inr (9, o9_rirrrrrrrrvviii (y 1) py0_1 (y 2) (y 10) (y 19) (y 25) (y 26) (y 30) (y 31) (y 32) o10 o11 py0_12 py0_13 py0_14)), (y 2, .inr (1, o1_iiiiiirrrrrrriiiii py2_0 py2_1 py2_2 py2_3 py2_4 py2_5 (y 3) (y 4) (y 5) (y 6) (y 7) (y 8) (y 9) py2_13 py2_14 py2_15 py2_16 py2_17))] H := hP
    have hD := cpD hP hD
    refine lv_goto (tgt := 18) hx hb dX9_lit_13 (by decide) ?_
    have hP := subP (ws' := [(y 0, .inr (9, o9_rirrrrrrrrvviii (y 1) py0_1 (y 2) (y 10) (y 19) (y 25) (y 26) (y 30) (y 31) (y 32) o10 o11 py0_12 py0_13 py0_14)), (y 2, .inr (1, o1_iiiiiirrrrrrriiiii py2_0 py2_1 py2_2 py2_3 py2_4 py2_5 (y 3) (y 4) (y 5) (y 6) (y 7) (y 8) (y 9) py2_13 py2_14 py2_15 py2_16 py2_17)), (y 4, aI V 4 fy4)]) hP [1, 2, 0] rfl
    have hD := subD hP hD [1, 2, 0] rfl rfl
    exact fiI hx hb hr hlk hK hP hD hS dX9_lit_18 (Nat.le_of_ble_eq_true rfl) (Nat.le_of_ble_eq_true rfl) (rfl)
theorem dJ6_bitCount_0f7a4_0 : decode cJ6_bitCount_0f7a4 0 = .ok (.iload_n 0, 1) := by decide +kernel
theorem dJ6_bitCount_0f7a4_1 : decode cJ6_bitCount_0f7a4 1 = .ok (.iload_n 0, 1) := by decide +kernel
theorem dJ6_bitCount_0f7a4_2 : decode cJ6_bitCount_0f7a4 2 = .ok (.iconst 1, 1) := by decide +kernel
theorem dJ6_bitCount_0f7a4_3 : decode cJ6_bitCount_0f7a4 3 = .ok (.iushr, 1) := by decide +kernel
theorem q_4_238 : Cond.constant "java/lang/Integer" 265 (1431655765 : Int32) ∈ gw := gw_4 (i := 238) (by decide +kernel) rfl
theorem dJ6_bitCount_0f7a4_4 : decode cJ6_bitCount_0f7a4 4 = .ok (.ldc_w 265, 3) := by decide +kernel
theorem dJ6_bitCount_0f7a4_7 : decode cJ6_bitCount_0f7a4 7 = .ok (.iand, 1) := by decide +kernel
theorem dJ6_bitCount_0f7a4_8 : decode cJ6_bitCount_0f7a4 8 = .ok (.isub, 1) := by decide +kernel
theorem dJ6_bitCount_0f7a4_9 : decode cJ6_bitCount_0f7a4 9 = .ok (.istore_n 0, 1) := by decide +kernel
theorem dJ6_bitCount_0f7a4_10 : decode cJ6_bitCount_0f7a4 10 = .ok (.iload_n 0, 1) := by decide +kernel
theorem q_4_239 : Cond.constant "java/lang/Integer" 266 (858993459 : Int32) ∈ gw := gw_4 (i := 239) (by decide +kernel) rfl
theorem dJ6_bitCount_0f7a4_11 : decode cJ6_bitCount_0f7a4 11 = .ok (.ldc_w 266, 3) := by decide +kernel
theorem dJ6_bitCount_0f7a4_14 : decode cJ6_bitCount_0f7a4 14 = .ok (.iand, 1) := by decide +kernel
theorem dJ6_bitCount_0f7a4_15 : decode cJ6_bitCount_0f7a4 15 = .ok (.iload_n 0, 1) := by decide +kernel
theorem dJ6_bitCount_0f7a4_16 : decode cJ6_bitCount_0f7a4 16 = .ok (.iconst 2, 1) := by decide +kernel
theorem dJ6_bitCount_0f7a4_17 : decode cJ6_bitCount_0f7a4 17 = .ok (.iushr, 1) := by decide +kernel
theorem dJ6_bitCount_0f7a4_18 : decode cJ6_bitCount_0f7a4 18 = .ok (.ldc_w 266, 3) := by decide +kernel
theorem dJ6_bitCount_0f7a4_21 : decode cJ6_bitCount_0f7a4 21 = .ok (.iand, 1) := by decide +kernel
theorem dJ6_bitCount_0f7a4_22 : decode cJ6_bitCount_0f7a4 22 = .ok (.iadd, 1) := by decide +kernel
theorem dJ6_bitCount_0f7a4_23 : decode cJ6_bitCount_0f7a4 23 = .ok (.istore_n 0, 1) := by decide +kernel
theorem dJ6_bitCount_0f7a4_24 : decode cJ6_bitCount_0f7a4 24 = .ok (.iload_n 0, 1) := by decide +kernel
theorem dJ6_bitCount_0f7a4_25 : decode cJ6_bitCount_0f7a4 25 = .ok (.iload_n 0, 1) := by decide +kernel
theorem dJ6_bitCount_0f7a4_26 : decode cJ6_bitCount_0f7a4 26 = .ok (.iconst 4, 1) := by decide +kernel
theorem dJ6_bitCount_0f7a4_27 : decode cJ6_bitCount_0f7a4 27 = .ok (.iushr, 1) := by decide +kernel
theorem dJ6_bitCount_0f7a4_28 : decode cJ6_bitCount_0f7a4 28 = .ok (.iadd, 1) := by decide +kernel
theorem q_5_0 : Cond.constant "java/lang/Integer" 267 (252645135 : Int32) ∈ gw := gw_5 (i := 0) (by decide +kernel) rfl
theorem dJ6_bitCount_0f7a4_29 : decode cJ6_bitCount_0f7a4 29 = .ok (.ldc_w 267, 3) := by decide +kernel
theorem dJ6_bitCount_0f7a4_32 : decode cJ6_bitCount_0f7a4 32 = .ok (.iand, 1) := by decide +kernel
theorem dJ6_bitCount_0f7a4_33 : decode cJ6_bitCount_0f7a4 33 = .ok (.istore_n 0, 1) := by decide +kernel
theorem dJ6_bitCount_0f7a4_34 : decode cJ6_bitCount_0f7a4 34 = .ok (.iload_n 0, 1) := by decide +kernel
theorem dJ6_bitCount_0f7a4_35 : decode cJ6_bitCount_0f7a4 35 = .ok (.iload_n 0, 1) := by decide +kernel
theorem dJ6_bitCount_0f7a4_36 : decode cJ6_bitCount_0f7a4 36 = .ok (.bipush 8, 2) := by decide +kernel
theorem dJ6_bitCount_0f7a4_38 : decode cJ6_bitCount_0f7a4 38 = .ok (.iushr, 1) := by decide +kernel
theorem dJ6_bitCount_0f7a4_39 : decode cJ6_bitCount_0f7a4 39 = .ok (.iadd, 1) := by decide +kernel
theorem dJ6_bitCount_0f7a4_40 : decode cJ6_bitCount_0f7a4 40 = .ok (.istore_n 0, 1) := by decide +kernel
theorem dJ6_bitCount_0f7a4_41 : decode cJ6_bitCount_0f7a4 41 = .ok (.iload_n 0, 1) := by decide +kernel
theorem dJ6_bitCount_0f7a4_42 : decode cJ6_bitCount_0f7a4 42 = .ok (.iload_n 0, 1) := by decide +kernel
theorem dJ6_bitCount_0f7a4_43 : decode cJ6_bitCount_0f7a4 43 = .ok (.bipush 16, 2) := by decide +kernel
theorem dJ6_bitCount_0f7a4_45 : decode cJ6_bitCount_0f7a4 45 = .ok (.iushr, 1) := by decide +kernel
theorem dJ6_bitCount_0f7a4_46 : decode cJ6_bitCount_0f7a4 46 = .ok (.iadd, 1) := by decide +kernel
theorem dJ6_bitCount_0f7a4_47 : decode cJ6_bitCount_0f7a4 47 = .ok (.istore_n 0, 1) := by decide +kernel
theorem dJ6_bitCount_0f7a4_48 : decode cJ6_bitCount_0f7a4 48 = .ok (.iload_n 0, 1) := by decide +kernel
theorem dJ6_bitCount_0f7a4_49 : decode cJ6_bitCount_0f7a4 49 = .ok (.bipush 63, 2) := by decide +kernel
theorem dJ6_bitCount_0f7a4_51 : decode cJ6_bitCount_0f7a4 51 = .ok (.iand, 1) := by decide +kernel
theorem dJ6_bitCount_0f7a4_52 : decode cJ6_bitCount_0f7a4 52 = .ok (.ireturn, 1) := by decide +kernel
set_option maxHeartbeats 4000000 in
set_option maxRecDepth 100000 in
theorem k_J6_bitCount_0f7a4_0 (l : Launch) (V : GV) (a0 : Int32) : Ct l V yJ6_bitCount_0f7a4 (.code yJ6_bitCount_0f7a4 cJ6_bitCount_0f7a4 1 (some .int)) 1 [.int a0] [] 0 0 (QI V (fun (r : Int32) (w : va_W) => w = [])) := by
  refine Ct.of (by decide) (Nat.le_of_ble_eq_true rfl) (fun p e s m below meth c A ls hx hb hr hml hown hlk hnm hg hP hK hD hE hA hS hl => ?_)
  have hl : lv_has ls 1 [(0, .int a0)] := hl
  refine lv_iload_n hx hb dJ6_bitCount_0f7a4_0 rfl (lv_at hl 0 rfl) ?_
  refine lv_iload_n hx hb dJ6_bitCount_0f7a4_1 rfl (lv_at hl 0 rfl) ?_
  refine lv_iconst (v := 1) hx hb dJ6_bitCount_0f7a4_2 (by decide) ?_
  refine lv_iushr hx hb dJ6_bitCount_0f7a4_3 rfl ?_
  refine lv_topi (fun x_1 ex_1 => ?_)
  refine lv_ldcw (v := 1431655765) hx hb hown (hg _ q_4_238) dJ6_bitCount_0f7a4_4 ?_
  refine lv_iand hx hb dJ6_bitCount_0f7a4_7 ?_
  refine lv_topi (fun x_2 ex_2 => ?_)
  refine lv_isub hx hb dJ6_bitCount_0f7a4_8 ?_
  refine lv_topi (fun x_3 ex_3 => ?_)
  refine lv_istore_n (lv' := [(0, .int x_3)]) hx hb dJ6_bitCount_0f7a4_9 rfl hl (by decide) rfl (fun ls hl => ?_)
  refine lv_iload_n hx hb dJ6_bitCount_0f7a4_10 rfl (lv_at hl 0 rfl) ?_
  refine lv_ldcw (v := 858993459) hx hb hown (hg _ q_4_239) dJ6_bitCount_0f7a4_11 ?_
  refine lv_iand hx hb dJ6_bitCount_0f7a4_14 ?_
  refine lv_topi (fun x_4 ex_4 => ?_)
  refine lv_iload_n hx hb dJ6_bitCount_0f7a4_15 rfl (lv_at hl 0 rfl) ?_
  refine lv_iconst (v := 2) hx hb dJ6_bitCount_0f7a4_16 (by decide) ?_
  refine lv_iushr hx hb dJ6_bitCount_0f7a4_17 rfl ?_
  refine lv_topi (fun x_5 ex_5 => ?_)
  refine lv_ldcw (v := 858993459) hx hb hown (hg _ q_4_239) dJ6_bitCount_0f7a4_18 ?_
  refine lv_iand hx hb dJ6_bitCount_0f7a4_21 ?_
  refine lv_topi (fun x_6 ex_6 => ?_)
  refine lv_iadd hx hb dJ6_bitCount_0f7a4_22 ?_
  refine lv_topi (fun x_7 ex_7 => ?_)
  refine lv_istore_n (lv' := [(0, .int x_7)]) hx hb dJ6_bitCount_0f7a4_23 rfl hl (by decide) rfl (fun ls hl => ?_)
  refine lv_iload_n hx hb dJ6_bitCount_0f7a4_24 rfl (lv_at hl 0 rfl) ?_
  refine lv_iload_n hx hb dJ6_bitCount_0f7a4_25 rfl (lv_at hl 0 rfl) ?_
  refine lv_iconst (v := 4) hx hb dJ6_bitCount_0f7a4_26 (by decide) ?_
  refine lv_iushr hx hb dJ6_bitCount_0f7a4_27 rfl ?_
  refine lv_topi (fun x_8 ex_8 => ?_)
  refine lv_iadd hx hb dJ6_bitCount_0f7a4_28 ?_
  refine lv_topi (fun x_9 ex_9 => ?_)
  refine lv_ldcw (v := 252645135) hx hb hown (hg _ q_5_0) dJ6_bitCount_0f7a4_29 ?_
  refine lv_iand hx hb dJ6_bitCount_0f7a4_32 ?_
  refine lv_topi (fun x_10 ex_10 => ?_)
  refine lv_istore_n (lv' := [(0, .int x_10)]) hx hb dJ6_bitCount_0f7a4_33 rfl hl (by decide) rfl (fun ls hl => ?_)
  refine lv_iload_n hx hb dJ6_bitCount_0f7a4_34 rfl (lv_at hl 0 rfl) ?_
  refine lv_iload_n hx hb dJ6_bitCount_0f7a4_35 rfl (lv_at hl 0 rfl) ?_
  refine lv_bipush (v := 8) hx hb dJ6_bitCount_0f7a4_36 (by decide) ?_
  refine lv_iushr hx hb dJ6_bitCount_0f7a4_38 rfl ?_
  refine lv_topi (fun x_11 ex_11 => ?_)
  refine lv_iadd hx hb dJ6_bitCount_0f7a4_39 ?_
  refine lv_topi (fun x_12 ex_12 => ?_)
  refine lv_istore_n (lv' := [(0, .int x_12)]) hx hb dJ6_bitCount_0f7a4_40 rfl hl (by decide) rfl (fun ls hl => ?_)
  refine lv_iload_n hx hb dJ6_bitCount_0f7a4_41 rfl (lv_at hl 0 rfl) ?_
  refine lv_iload_n hx hb dJ6_bitCount_0f7a4_42 rfl (lv_at hl 0 rfl) ?_
  refine lv_bipush (v := 16) hx hb dJ6_bitCount_0f7a4_43 (by decide) ?_
  refine lv_iushr hx hb dJ6_bitCount_0f7a4_45 rfl ?_
  refine lv_topi (fun x_13 ex_13 => ?_)
  refine lv_iadd hx hb dJ6_bitCount_0f7a4_46 ?_
  refine lv_topi (fun x_14 ex_14 => ?_)
  refine lv_istore_n (lv' := [(0, .int x_14)]) hx hb dJ6_bitCount_0f7a4_47 rfl hl (by decide) rfl (fun ls hl => ?_)
  refine lv_iload_n hx hb dJ6_bitCount_0f7a4_48 rfl (lv_at hl 0 rfl) ?_
  refine lv_bipush (v := 63) hx hb dJ6_bitCount_0f7a4_49 (by decide) ?_
  refine lv_iand hx hb dJ6_bitCount_0f7a4_51 ?_
  refine lv_topi (fun x_15 ex_15 => ?_)
  exact fiI hx hb hr hlk hK hP hD hS dJ6_bitCount_0f7a4_52 (Nat.le_of_ble_eq_true rfl) (Nat.le_of_ble_eq_true rfl) (rfl)
theorem dX9_brightest_0 : decode cX9_brightest 0 = .ok (.iconst (-1), 1) := by decide +kernel
theorem dX9_brightest_1 : decode cX9_brightest 1 = .ok (.istore_n 1, 1) := by decide +kernel
theorem dX9_brightest_2 : decode cX9_brightest 2 = .ok (.iconst (-1), 1) := by decide +kernel
theorem dX9_brightest_3 : decode cX9_brightest 3 = .ok (.istore_n 2, 1) := by decide +kernel
theorem dX9_brightest_4 : decode cX9_brightest 4 = .ok (.iconst 0, 1) := by decide +kernel
theorem dX9_brightest_5 : decode cX9_brightest 5 = .ok (.istore_n 3, 1) := by decide +kernel
theorem dX9_brightest_6 : decode cX9_brightest 6 = .ok (.iload_n 3, 1) := by decide +kernel
theorem dX9_brightest_7 : decode cX9_brightest 7 = .ok (.aload_n 0, 1) := by decide +kernel
theorem dX9_brightest_8 : decode cX9_brightest 8 = .ok (.getfield 16, 3) := by decide +kernel
theorem dX9_brightest_11 : decode cX9_brightest 11 = .ok (.getfield 159, 3) := by decide +kernel
theorem dX9_brightest_14 : decode cX9_brightest 14 = .ok (.if_icmp .ge 30, 3) := by decide +kernel
theorem dX9_brightest_44 : decode cX9_brightest 44 = .ok (.iload_n 1, 1) := by decide +kernel
theorem dX9_brightest_45 : decode cX9_brightest 45 = .ok (.ireturn, 1) := by decide +kernel
theorem dX9_brightest_17 : decode cX9_brightest 17 = .ok (.aload_n 0, 1) := by decide +kernel
theorem dX9_brightest_18 : decode cX9_brightest 18 = .ok (.iload_n 3, 1) := by decide +kernel
theorem dX9_brightest_19 : decode cX9_brightest 19 = .ok (.invokevirtual 295, 3) := by decide +kernel
theorem q_4_237 : Cond.code yJ6_bitCount_0f7a4 prog_14_method_49_code 1 (some FieldType.int) ∈ gw := gw_4 (i := 237) (rfl) rfl
theorem q_1_19 : Cond.initialized "java/lang/Integer" ∈ gw := gw_1 (i := 19) (by decide +kernel) rfl
theorem q_4_236 : Cond.static yJ6_bitCount_0f7a4 ∈ gw := gw_4 (i := 236) (by decide +kernel) rfl
theorem mt_J6_bitCount_0f7a4 : MtS yJ6_bitCount_0f7a4 cJ6_bitCount_0f7a4 1 (some .int) 1 := ⟨⟨q_4_237, q_1_19, by decide +kernel, by decide +kernel, by decide +kernel⟩, q_4_236⟩
theorem q_4_235 : Cond.methodLink "BeaconDelay" 302 yJ6_bitCount_0f7a4 ∈ gw := gw_4 (i := 235) (by decide +kernel) rfl
theorem dX9_brightest_22 : decode cX9_brightest 22 = .ok (.invokestatic 302, 3) := by decide +kernel
theorem dX9_brightest_25 : decode cX9_brightest 25 = .ok (.istore 4, 2) := by decide +kernel
theorem dX9_brightest_27 : decode cX9_brightest 27 = .ok (.iload 4, 2) := by decide +kernel
theorem dX9_brightest_29 : decode cX9_brightest 29 = .ok (.iload_n 2, 1) := by decide +kernel
theorem dX9_brightest_30 : decode cX9_brightest 30 = .ok (.if_icmp .le 8, 3) := by decide +kernel
theorem dX9_brightest_38 : decode cX9_brightest 38 = .ok (.iinc 3 1, 3) := by decide +kernel
theorem dX9_brightest_41 : decode cX9_brightest 41 = .ok (.goto (-35), 3) := by decide +kernel
theorem dX9_brightest_33 : decode cX9_brightest 33 = .ok (.iload 4, 2) := by decide +kernel
theorem dX9_brightest_35 : decode cX9_brightest 35 = .ok (.istore_n 2, 1) := by decide +kernel
theorem dX9_brightest_36 : decode cX9_brightest 36 = .ok (.iload_n 3, 1) := by decide +kernel
theorem dX9_brightest_37 : decode cX9_brightest 37 = .ok (.istore_n 1, 1) := by decide +kernel
set_option maxHeartbeats 4000000 in
set_option maxRecDepth 100000 in
theorem k_X9_brightest_0 (l : Launch) (V : GV) (y : Nat → Nat) (py0_1 : Int32) (o10 : Value) (o11 : Value) (py0_12 : Int32) (py0_13 : Int32) (py0_14 : Int32) (py2_0 : Int32) (py2_1 : Int32) (py2_2 : Int32) (py2_3 : Int32) (py2_4 : Int32) (py2_5 : Int32) (py2_13 : Int32) (py2_14 : Int32) (py2_15 : Int32) (py2_16 : Int32) (py2_17 : Int32) (fy4 : Nat → Int32) (bpy0_1 : iv 0 900 py0_1) (bpy0_12 : iv 0 9999 py0_12) (bpy0_13 : iv 0 9 py0_13) (bpy2_1 : iv 0 4 py2_1) (bpy2_2 : iv 0 4 py2_2) (bpy2_3 : iv 0 8 py2_3) (bpy2_4 : iv 0 9999 py2_4) (bpy2_5 : iv 0 9 py2_5) (bpy2_13 : iv 0 900 py2_13) (bpy2_14 : iv 0 900 py2_14) (bpy2_15 : iv 0 900 py2_15) (bpy2_16 : iv 0 900 py2_16) (bpy2_17 : iv 0 900 py2_17) : Ct l V yX9_brightest (.code yX9_brightest cX9_brightest 5 (some .int)) 4 [.ref (y 0)] [(y 0, .inr (9, o9_rirrrrrrrrvviii (y 1) py0_1 (y 2) (y 10) (y 19) (y 25) (y 26) (y 30) (y 31) (y 32) o10 o11 py0_12 py0_13 py0_14)), (y 2, .inr (1, o1_iiiiiirrrrrrriiiii py2_0 py2_1 py2_2 py2_3 py2_4 py2_5 (y 3) (y 4) (y 5) (y 6) (y 7) (y 8) (y 9) py2_13 py2_14 py2_15 py2_16 py2_17)), (y 4, aI V 4 fy4)] 0 0 (QI V (fun (r : Int32) (w : va_W) => w = [(y 0, .inr (9, o9_rirrrrrrrrvviii (y 1) py0_1 (y 2) (y 10) (y 19) (y 25) (y 26) (y 30) (y 31) (y 32) o10 o11 py0_12 py0_13 py0_14)), (y 2, .inr (1, o1_iiiiiirrrrrrriiiii py2_0 py2_1 py2_2 py2_3 py2_4 py2_5 (y 3) (y 4) (y 5) (y 6) (y 7) (y 8) (y 9) py2_13 py2_14 py2_15 py2_16 py2_17)), (y 4, aI V 4 fy4)])) := by
  refine Ct.of (by decide) (Nat.le_of_ble_eq_true rfl) (fun p e s m below meth c A ls hx hb hr hml hown hlk hnm hg hP hK hD hE hA hS hl => ?_)
  have hl : lv_has ls 5 [(0, .ref (y 0))] := hl
  refine lv_iconst (v := (-1)) hx hb dX9_brightest_0 (by decide) ?_
  refine lv_istore_n (lv' := [(1, .int (-1)), (0, .ref (y 0))]) hx hb dX9_brightest_1 rfl hl (by decide) rfl (fun ls hl => ?_)
  refine lv_iconst (v := (-1)) hx hb dX9_brightest_2 (by decide) ?_
  refine lv_istore_n (lv' := [(2, .int (-1)), (1, .int (-1)), (0, .ref (y 0))]) hx hb dX9_brightest_3 rfl hl (by decide) rfl (fun ls hl => ?_)
  refine lv_iconst (v := 0) hx hb dX9_brightest_4 (by decide) ?_
  refine lv_istore_n (lv' := [(3, .int 0), (2, .int (-1)), (1, .int (-1)), (0, .ref (y 0))]) hx hb dX9_brightest_5 rfl hl (by decide) rfl (fun ls hl => ?_)
  refine loopF (X := fun (n_4 : Nat) (H : Heap) (locs : List Loc) (ls : Array Slot) => ∃ (u_1 : Int32) (u_2 : Int32) (u_3 : Int32), (iv 0 2147483647 u_1) ∧ n_4 = (2147483647 - (u_1 : Int32).toInt).toNat ∧ va_P V.1 vwCl [(y 0, .inr (9, o9_rirrrrrrrrvviii (y 1) py0_1 (y 2) (y 10) (y 19) (y 25) (y 26) (y 30) (y 31) (y 32) o10 o11 py0_12 py0_13 py0_14)), (y 2, .inr (1, o1_iiiiiirrrrrrriiiii py2_0 py2_1 py2_2 py2_3 py2_4 py2_5 (y 3) (y 4) (y 5) (y 6) (y 7) (y 8) (y 9) py2_13 py2_14 py2_15 py2_16 py2_17)), (y 4, aI V 4 fy4)] H ∧ va_D A [(y 0, .inr (9, o9_rirrrrrrrrvviii (y 1) py0_1 (y 2) (y 10) (y 19) (y 25) (y 26) (y 30) (y 31) (y 32) o10 o11 py0_12 py0_13 py0_14)), (y 2, .inr (1, o1_iiiiiirrrrrrriiiii py2_0 py2_1 py2_2 py2_3 py2_4 py2_5 (y 3) (y 4) (y 5) (y 6) (y 7) (y 8) (y 9) py2_13 py2_14 py2_15 py2_16 py2_17)), (y 4, aI V 4 fy4)] ∧ va_S A s.heap H locs ∧ lv_has ls 5 [(3, .int u_1), (2, .int u_2), (1, .int u_3), (0, .ref (y 0))]) (g := fun ls => F0 m 6 ls []) (fun n_4 H locs ls hX ihn_4 => ?_) _ ⟨0, (-1), (-1), (iv_c (0 : Int32) (by decide)), rfl, hP, hD, hS, lv_sub hl [0, 1, 2, 3] rfl⟩
  obtain ⟨u_1, u_2, u_3, bu_1, en_4, hP, hD, hS, hl⟩ := hX
  refine lv_iload_n hx hb dX9_brightest_6 rfl (lv_at hl 0 rfl) ?_
  refine lv_aload_n hx hb dX9_brightest_7 rfl (lv_at hl 3 rfl) ?_
  refine va_get (ci := 9) (v := .ref (y 2)) (C := RX9) (T := TX9) (N := 15) hx hb hg inX9 hown hK hP 0 rfl rfl 2 (by decide) (hg _ q_2_38) (fun _ h9 => h9) rfl dX9_brightest_8 ?_
  refine va_get (ci := 1) (v := .int py2_1) (C := RX1) (T := TX1) (N := 18) hx hb hg inX1 hown hK hP 1 rfl rfl 1 (by decide) (hg _ q_1_41) (fun _ h9 => h9) rfl dX9_brightest_11 ?_
  refine lv_icmp_ge (tgt := 44) hx hb dX9_brightest_14 (by decide) (fun c_5 => ?_) (fun c_5 => ?_)
  · refine lv_iload_n hx hb dX9_brightest_44 rfl (lv_at hl 2 rfl) ?_
    exact fiI hx hb hr hlk hK hP hD hS dX9_brightest_45 (Nat.le_of_ble_eq_true rfl) (Nat.le_of_ble_eq_true rfl) (rfl)
  · have b_6 : iv 0 3 u_1 := iv_l1 (Int32.not_le.mp c_5) bu_1 bpy2_1 (by decide)
    have b_7 : iv 1 4 py2_1 := iv_l2 (Int32.not_le.mp c_5) bu_1 bpy2_1 (by decide)
    refine lv_aload_n hx hb dX9_brightest_17 rfl (lv_at hl 3 rfl) ?_
    refine lv_iload_n hx hb dX9_brightest_18 rfl (lv_at hl 0 rfl) ?_
    refine jnI (wr := []) (rnV (rest := []) ⟨hx, hb, hml, hown, hg⟩ (k_X9_litBy_0 l V y u_1 fy4 py0_1 o10 o11 py0_12 py0_13 py0_14 py2_0 py2_1 py2_2 py2_3 py2_4 py2_5 py2_13 py2_14 py2_15 py2_16 py2_17 b_6 bpy0_1 bpy0_12 bpy0_13 (iv_w b_7 (by decide)) bpy2_2 bpy2_3 bpy2_4 bpy2_5 bpy2_13 bpy2_14 bpy2_15 bpy2_16 bpy2_17) mt_X9_litBy q_4_223 ⟨Nat.le_of_ble_eq_true rfl, Nat.le_of_ble_eq_true rfl⟩ hK hP hD hS hA hE [2, 0, 1] rfl rfl 0 rfl rfl rfl rfl hl.1 rfl (Nat.le_of_ble_eq_true rfl) dX9_brightest_19 ⟨Nat.le_of_ble_eq_true rfl, Nat.le_of_ble_eq_true rfl⟩) hP hD hS hA [2, 0, 1] [] rfl rfl rfl (by decide) (fun r_8 w H locs hw hP hD hS => ?_)
    subst hw
    have hP : va_P V.1 vwCl [(y 4, aI V 4 fy4), (y 0, .inr (9, o9_rirrrrrrrrvviii (y 1) py0_1 (y 2) (y 10) (y 19) (y 25) (y 26) (y 30) (y 31) (y 32) o10 o11 py0_12 py0_13 py0_14)), (y 2, .inr (1, o1_iiiiiirrrrrrriiiii py2_0 py2_1 py2_2 py2_3 py2_4 py2_5 (y 3) (y 4) (y 5) (y 6) (y 7) (y 8) (y 9) py2_13 py2_14 py2_15 py2_16 py2_17))] H := hP
    have hD := cpD hP hD
    refine jnI (wr := [(y 4, aI V 4 fy4), (y 0, .inr (9, o9_rirrrrrrrrvviii (y 1) py0_1 (y 2) (y 10) (y 19) (y 25) (y 26) (y 30) (y 31) (y 32) o10 o11 py0_12 py0_13 py0_14)), (y 2, .inr (1, o1_iiiiiirrrrrrriiiii py2_0 py2_1 py2_2 py2_3 py2_4 py2_5 (y 3) (y 4) (y 5) (y 6) (y 7) (y 8) (y 9) py2_13 py2_14 py2_15 py2_16 py2_17))]) (rnS (rest := []) ⟨hx, hb, hml, hown, hg⟩ (k_J6_bitCount_0f7a4_0 l V r_8) mt_J6_bitCount_0f7a4 q_4_235 ⟨Nat.le_of_ble_eq_true rfl, Nat.le_of_ble_eq_true rfl⟩ hK hP hD hS hA hE [] rfl rfl rfl hl.1 rfl (Nat.le_of_ble_eq_true rfl) dX9_brightest_22 ⟨Nat.le_of_ble_eq_true rfl, Nat.le_of_ble_eq_true rfl⟩) hP hD hS hA [] [0, 1, 2] rfl rfl rfl (by decide) (fun r_9 w H locs hw hP hD hS => ?_)
    subst hw
    have hP : va_P V.1 vwCl [(y 4, aI V 4 fy4), (y 0, .inr (9, o9_rirrrrrrrrvviii (y 1) py0_1 (y 2) (y 10) (y 19) (y 25) (y 26) (y 30) (y 31) (y 32) o10 o11 py0_12 py0_13 py0_14)), (y 2, .inr (1, o1_iiiiiirrrrrrriiiii py2_0 py2_1 py2_2 py2_3 py2_4 py2_5 (y 3) (y 4) (y 5) (y 6) (y 7) (y 8) (y 9) py2_13 py2_14 py2_15 py2_16 py2_17))] H := hP
    have hD := cpD hP hD
    refine lv_istore (lv' := [(4, .int r_9), (3, .int u_1), (2, .int u_2), (1, .int u_3), (0, .ref (y 0))]) hx hb dX9_brightest_25 hl (by decide) rfl (fun ls hl => ?_)
    refine lv_iload hx hb dX9_brightest_27 (lv_at hl 0 rfl) ?_
    refine lv_iload_n hx hb dX9_brightest_29 rfl (lv_at hl 2 rfl) ?_
    refine lv_icmp_le (tgt := 38) hx hb dX9_brightest_30 (by decide) (fun c_10 => ?_) (fun c_10 => ?_)
    · obtain ⟨x_11, ex_11⟩ : ∃ z9 : Int32, z9 = u_1 + 1 := ⟨_, rfl⟩
      have bx_11 : iv 1 4 x_11 := by rw [ex_11]; exact iv_add b_6 (iv_c (1 : Int32) (a := 1) (b := 1) (by decide)) (by decide)
      refine lv_iinc (v := x_11) (lv' := [(3, .int x_11), (4, .int r_9), (2, .int u_2), (1, .int u_3), (0, .ref (y 0))]) hx hb dX9_brightest_38 hl (k := 1) rfl (by rw [ex_11]; rfl) (by decide) rfl (fun ls hl => ?_)
      refine lv_goto (tgt := 6) hx hb dX9_brightest_41 (by decide) ?_
      have hP := subP (ws' := [(y 0, .inr (9, o9_rirrrrrrrrvviii (y 1) py0_1 (y 2) (y 10) (y 19) (y 25) (y 26) (y 30) (y 31) (y 32) o10 o11 py0_12 py0_13 py0_14)), (y 2, .inr (1, o1_iiiiiirrrrrrriiiii py2_0 py2_1 py2_2 py2_3 py2_4 py2_5 (y 3) (y 4) (y 5) (y 6) (y 7) (y 8) (y 9) py2_13 py2_14 py2_15 py2_16 py2_17)), (y 4, aI V 4 fy4)]) hP [1, 2, 0] rfl
      have hD := subD hP hD [1, 2, 0] rfl rfl
      exact ihn_4 _ _ _ _ (by rw [en_4, ex_11]; exact mu_up b_6 (by decide)) ⟨x_11, u_2, u_3, (iv_w bx_11 (by decide)), rfl, hP, hD, hS, lv_sub hl [0, 2, 3, 4] rfl⟩
    · have b_12 : iv (-2147483648) 2147483646 u_2 := iv_l1 (Int32.not_le.mp c_10) (iv_top u_2) (iv_top r_9) (by decide)
      have b_13 : iv (-2147483647) 2147483647 r_9 := iv_l2 (Int32.not_le.mp c_10) (iv_top u_2) (iv_top r_9) (by decide)
      refine lv_iload hx hb dX9_brightest_33 (lv_at hl 0 rfl) ?_
      refine lv_istore_n (lv' := [(2, .int r_9), (4, .int r_9), (3, .int u_1), (1, .int u_3), (0, .ref (y 0))]) hx hb dX9_brightest_35 rfl hl (by decide) rfl (fun ls hl => ?_)
      refine lv_iload_n hx hb dX9_brightest_36 rfl (lv_at hl 2 rfl) ?_
      refine lv_istore_n (lv' := [(1, .int u_1), (2, .int r_9), (4, .int r_9), (3, .int u_1), (0, .ref (y 0))]) hx hb dX9_brightest_37 rfl hl (by decide) rfl (fun ls hl => ?_)
      obtain ⟨x_14, ex_14⟩ : ∃ z9 : Int32, z9 = u_1 + 1 := ⟨_, rfl⟩
      have bx_14 : iv 1 4 x_14 := by rw [ex_14]; exact iv_add b_6 (iv_c (1 : Int32) (a := 1) (b := 1) (by decide)) (by decide)
      refine lv_iinc (v := x_14) (lv' := [(3, .int x_14), (1, .int u_1), (2, .int r_9), (4, .int r_9), (0, .ref (y 0))]) hx hb dX9_brightest_38 hl (k := 3) rfl (by rw [ex_14]; rfl) (by decide) rfl (fun ls hl => ?_)
      refine lv_goto (tgt := 6) hx hb dX9_brightest_41 (by decide) ?_
      have hP := subP (ws' := [(y 0, .inr (9, o9_rirrrrrrrrvviii (y 1) py0_1 (y 2) (y 10) (y 19) (y 25) (y 26) (y 30) (y 31) (y 32) o10 o11 py0_12 py0_13 py0_14)), (y 2, .inr (1, o1_iiiiiirrrrrrriiiii py2_0 py2_1 py2_2 py2_3 py2_4 py2_5 (y 3) (y 4) (y 5) (y 6) (y 7) (y 8) (y 9) py2_13 py2_14 py2_15 py2_16 py2_17)), (y 4, aI V 4 fy4)]) hP [1, 2, 0] rfl
      have hD := subD hP hD [1, 2, 0] rfl rfl
      exact ihn_4 _ _ _ _ (by rw [en_4, ex_14]; exact mu_up b_6 (by decide)) ⟨x_14, r_9, u_1, (iv_w bx_14 (by decide)), rfl, hP, hD, hS, lv_sub hl [0, 2, 1, 4] rfl⟩
theorem dX1_carriedTo_0 : decode cX1_carriedTo 0 = .ok (.iconst 0, 1) := by decide +kernel
theorem dX1_carriedTo_1 : decode cX1_carriedTo 1 = .ok (.istore 4, 2) := by decide +kernel
theorem dX1_carriedTo_3 : decode cX1_carriedTo 3 = .ok (.iconst 0, 1) := by decide +kernel
theorem dX1_carriedTo_4 : decode cX1_carriedTo 4 = .ok (.istore 5, 2) := by decide +kernel
theorem dX1_carriedTo_6 : decode cX1_carriedTo 6 = .ok (.iload 5, 2) := by decide +kernel
theorem dX1_carriedTo_8 : decode cX1_carriedTo 8 = .ok (.aload_n 0, 1) := by decide +kernel
theorem q_1_45 : Cond.fieldLink "BeaconDelay$Coast" 43 "BeaconDelay$Coast" "roads" "I" ∈ gw := gw_1 (i := 45) (by decide +kernel) rfl
theorem dX1_carriedTo_9 : decode cX1_carriedTo 9 = .ok (.getfield 43, 3) := by decide +kernel
theorem dX1_carriedTo_12 : decode cX1_carriedTo 12 = .ok (.if_icmp .ge 53, 3) := by decide +kernel
theorem dX1_carriedTo_65 : decode cX1_carriedTo 65 = .ok (.iload 4, 2) := by decide +kernel
theorem dX1_carriedTo_67 : decode cX1_carriedTo 67 = .ok (.ireturn, 1) := by decide +kernel
theorem dX1_carriedTo_15 : decode cX1_carriedTo 15 = .ok (.iload 5, 2) := by decide +kernel
theorem dX1_carriedTo_17 : decode cX1_carriedTo 17 = .ok (.iload_n 3, 1) := by decide +kernel
theorem dX1_carriedTo_18 : decode cX1_carriedTo 18 = .ok (.if_icmp .eq 41, 3) := by decide +kernel
theorem dX1_carriedTo_59 : decode cX1_carriedTo 59 = .ok (.iinc 5 1, 3) := by decide +kernel
theorem dX1_carriedTo_62 : decode cX1_carriedTo 62 = .ok (.goto (-56), 3) := by decide +kernel
theorem dX1_carriedTo_21 : decode cX1_carriedTo 21 = .ok (.aload_n 0, 1) := by decide +kernel
theorem q_1_66 : Cond.fieldLink "BeaconDelay$Coast" 24 "BeaconDelay$Coast" "roadTo" "[I" ∈ gw := gw_1 (i := 66) (by decide +kernel) rfl
theorem dX1_carriedTo_22 : decode cX1_carriedTo 22 = .ok (.getfield 24, 3) := by decide +kernel
theorem dX1_carriedTo_25 : decode cX1_carriedTo 25 = .ok (.iload 5, 2) := by decide +kernel
theorem dX1_carriedTo_27 : decode cX1_carriedTo 27 = .ok (.iaload, 1) := by decide +kernel
theorem dX1_carriedTo_28 : decode cX1_carriedTo 28 = .ok (.iload_n 1, 1) := by decide +kernel
theorem dX1_carriedTo_29 : decode cX1_carriedTo 29 = .ok (.if_icmp .ne 30, 3) := by decide +kernel
theorem dX1_carriedTo_32 : decode cX1_carriedTo 32 = .ok (.iload_n 2, 1) := by decide +kernel
theorem dX1_carriedTo_33 : decode cX1_carriedTo 33 = .ok (.aload_n 0, 1) := by decide +kernel
theorem q_1_64 : Cond.fieldLink "BeaconDelay$Coast" 21 "BeaconDelay$Coast" "roadFrom" "[I" ∈ gw := gw_1 (i := 64) (by decide +kernel) rfl
theorem dX1_carriedTo_34 : decode cX1_carriedTo 34 = .ok (.getfield 21, 3) := by decide +kernel
theorem dX1_carriedTo_37 : decode cX1_carriedTo 37 = .ok (.iload 5, 2) := by decide +kernel
theorem dX1_carriedTo_39 : decode cX1_carriedTo 39 = .ok (.iaload, 1) := by decide +kernel
theorem dX1_carriedTo_40 : decode cX1_carriedTo 40 = .ok (.ishr, 1) := by decide +kernel
theorem dX1_carriedTo_41 : decode cX1_carriedTo 41 = .ok (.iconst 1, 1) := by decide +kernel
theorem dX1_carriedTo_42 : decode cX1_carriedTo 42 = .ok (.iand, 1) := by decide +kernel
theorem dX1_carriedTo_43 : decode cX1_carriedTo 43 = .ok (.iconst 1, 1) := by decide +kernel
theorem dX1_carriedTo_44 : decode cX1_carriedTo 44 = .ok (.if_icmp .ne 15, 3) := by decide +kernel
theorem dX1_carriedTo_47 : decode cX1_carriedTo 47 = .ok (.iload 4, 2) := by decide +kernel
theorem dX1_carriedTo_49 : decode cX1_carriedTo 49 = .ok (.aload_n 0, 1) := by decide +kernel
theorem q_1_68 : Cond.fieldLink "BeaconDelay$Coast" 27 "BeaconDelay$Coast" "carries" "[I" ∈ gw := gw_1 (i := 68) (by decide +kernel) rfl
theorem dX1_carriedTo_50 : decode cX1_carriedTo 50 = .ok (.getfield 27, 3) := by decide +kernel
theorem dX1_carriedTo_53 : decode cX1_carriedTo 53 = .ok (.iload 5, 2) := by decide +kernel
theorem dX1_carriedTo_55 : decode cX1_carriedTo 55 = .ok (.iaload, 1) := by decide +kernel
theorem dX1_carriedTo_56 : decode cX1_carriedTo 56 = .ok (.iadd, 1) := by decide +kernel
theorem dX1_carriedTo_57 : decode cX1_carriedTo 57 = .ok (.istore 4, 2) := by decide +kernel
set_option maxHeartbeats 4000000 in
set_option maxRecDepth 100000 in
theorem k_X1_carriedTo_0 (l : Launch) (V : GV) (y : Nat → Nat) (a1 : Int32) (a2 : Int32) (a3 : Int32) (py2_0 : Int32) (py2_1 : Int32) (py2_2 : Int32) (py2_3 : Int32) (py2_4 : Int32) (py2_5 : Int32) (py2_13 : Int32) (py2_14 : Int32) (py2_15 : Int32) (py2_16 : Int32) (py2_17 : Int32) (fy6 : Nat → Int32) (fy7 : Nat → Int32) (fy8 : Nat → Int32) (bpy2_1 : iv 0 4 py2_1) (bpy2_2 : iv 0 4 py2_2) (bpy2_3 : iv 0 8 py2_3) (bpy2_4 : iv 0 9999 py2_4) (bpy2_5 : iv 0 9 py2_5) (bpy2_13 : iv 0 900 py2_13) (bpy2_14 : iv 0 900 py2_14) (bpy2_15 : iv 0 900 py2_15) (bpy2_16 : iv 0 900 py2_16) (bpy2_17 : iv 0 900 py2_17) : Ct l V yX1_carriedTo (.code yX1_carriedTo cX1_carriedTo 6 (some .int)) 1 [.ref (y 2), .int a1, .int a2, .int a3] [(y 2, .inr (1, o1_iiiiiirrrrrrriiiii py2_0 py2_1 py2_2 py2_3 py2_4 py2_5 (y 3) (y 4) (y 5) (y 6) (y 7) (y 8) (y 9) py2_13 py2_14 py2_15 py2_16 py2_17)), (y 6, aI V 8 fy6), (y 7, aI V 8 fy7), (y 8, aI V 8 fy8)] 0 0 (QI V (fun (r : Int32) (w : va_W) => w = [(y 2, .inr (1, o1_iiiiiirrrrrrriiiii py2_0 py2_1 py2_2 py2_3 py2_4 py2_5 (y 3) (y 4) (y 5) (y 6) (y 7) (y 8) (y 9) py2_13 py2_14 py2_15 py2_16 py2_17)), (y 6, aI V 8 fy6), (y 7, aI V 8 fy7), (y 8, aI V 8 fy8)])) := by
  refine Ct.of (by decide) (Nat.le_of_ble_eq_true rfl) (fun p e s m below meth c A ls hx hb hr hml hown hlk hnm hg hP hK hD hE hA hS hl => ?_)
  have hl : lv_has ls 6 [(0, .ref (y 2)), (1, .int a1), (2, .int a2), (3, .int a3)] := hl
  refine lv_iconst (v := 0) hx hb dX1_carriedTo_0 (by decide) ?_
  refine lv_istore (lv' := [(4, .int 0), (0, .ref (y 2)), (1, .int a1), (2, .int a2), (3, .int a3)]) hx hb dX1_carriedTo_1 hl (by decide) rfl (fun ls hl => ?_)
  refine lv_iconst (v := 0) hx hb dX1_carriedTo_3 (by decide) ?_
  refine lv_istore (lv' := [(5, .int 0), (4, .int 0), (0, .ref (y 2)), (1, .int a1), (2, .int a2), (3, .int a3)]) hx hb dX1_carriedTo_4 hl (by decide) rfl (fun ls hl => ?_)
  refine loopF (X := fun (n_3 : Nat) (H : Heap) (locs : List Loc) (ls : Array Slot) => ∃ (u_1 : Int32) (u_2 : Int32), (iv 0 2147483647 u_1) ∧ n_3 = (2147483647 - (u_1 : Int32).toInt).toNat ∧ va_P V.1 vwCl [(y 2, .inr (1, o1_iiiiiirrrrrrriiiii py2_0 py2_1 py2_2 py2_3 py2_4 py2_5 (y 3) (y 4) (y 5) (y 6) (y 7) (y 8) (y 9) py2_13 py2_14 py2_15 py2_16 py2_17)), (y 6, aI V 8 fy6), (y 7, aI V 8 fy7), (y 8, aI V 8 fy8)] H ∧ va_D A [(y 2, .inr (1, o1_iiiiiirrrrrrriiiii py2_0 py2_1 py2_2 py2_3 py2_4 py2_5 (y 3) (y 4) (y 5) (y 6) (y 7) (y 8) (y 9) py2_13 py2_14 py2_15 py2_16 py2_17)), (y 6, aI V 8 fy6), (y 7, aI V 8 fy7), (y 8, aI V 8 fy8)] ∧ va_S A s.heap H locs ∧ lv_has ls 6 [(5, .int u_1), (4, .int u_2), (0, .ref (y 2)), (1, .int a1), (2, .int a2), (3, .int a3)]) (g := fun ls => F0 m 6 ls []) (fun n_3 H locs ls hX ihn_3 => ?_) _ ⟨0, 0, (iv_c (0 : Int32) (by decide)), rfl, hP, hD, hS, lv_sub hl [0, 1, 2, 3, 4, 5] rfl⟩
  obtain ⟨u_1, u_2, bu_1, en_3, hP, hD, hS, hl⟩ := hX
  refine lv_iload hx hb dX1_carriedTo_6 (lv_at hl 0 rfl) ?_
  refine lv_aload_n hx hb dX1_carriedTo_8 rfl (lv_at hl 2 rfl) ?_
  refine va_get (ci := 1) (v := .int py2_3) (C := RX1) (T := TX1) (N := 18) hx hb hg inX1 hown hK hP 0 rfl rfl 3 (by decide) (hg _ q_1_45) (fun _ h9 => h9) rfl dX1_carriedTo_9 ?_
  refine lv_icmp_ge (tgt := 65) hx hb dX1_carriedTo_12 (by decide) (fun c_4 => ?_) (fun c_4 => ?_)
  · refine lv_iload hx hb dX1_carriedTo_65 (lv_at hl 1 rfl) ?_
    exact fiI hx hb hr hlk hK hP hD hS dX1_carriedTo_67 (Nat.le_of_ble_eq_true rfl) (Nat.le_of_ble_eq_true rfl) (rfl)
  · have b_5 : iv 0 7 u_1 := iv_l1 (Int32.not_le.mp c_4) bu_1 bpy2_3 (by decide)
    have b_6 : iv 1 8 py2_3 := iv_l2 (Int32.not_le.mp c_4) bu_1 bpy2_3 (by decide)
    refine lv_iload hx hb dX1_carriedTo_15 (lv_at hl 0 rfl) ?_
    refine lv_iload_n hx hb dX1_carriedTo_17 rfl (lv_at hl 5 rfl) ?_
    refine lv_icmp_eq (tgt := 59) hx hb dX1_carriedTo_18 (by decide) (fun c_7 => ?_) (fun c_7 => ?_)
    · have b_8 : iv 0 7 a3 := iv_q c_7.symm b_5
      obtain ⟨x_9, ex_9⟩ : ∃ z9 : Int32, z9 = u_1 + 1 := ⟨_, rfl⟩
      have bx_9 : iv 1 8 x_9 := by rw [ex_9]; exact iv_add b_5 (iv_c (1 : Int32) (a := 1) (b := 1) (by decide)) (by decide)
      refine lv_iinc (v := x_9) (lv' := [(5, .int x_9), (4, .int u_2), (0, .ref (y 2)), (1, .int a1), (2, .int a2), (3, .int a3)]) hx hb dX1_carriedTo_59 hl (k := 0) rfl (by rw [ex_9]; rfl) (by decide) rfl (fun ls hl => ?_)
      refine lv_goto (tgt := 6) hx hb dX1_carriedTo_62 (by decide) ?_
      exact ihn_3 _ _ _ _ (by rw [en_3, ex_9]; exact mu_up b_5 (by decide)) ⟨x_9, u_2, (iv_w bx_9 (by decide)), rfl, hP, hD, hS, lv_sub hl [0, 1, 2, 3, 4, 5] rfl⟩
    · refine lv_aload_n hx hb dX1_carriedTo_21 rfl (lv_at hl 2 rfl) ?_
      refine va_get (ci := 1) (v := .ref (y 7)) (C := RX1) (T := TX1) (N := 18) hx hb hg inX1 hown hK hP 0 rfl rfl 10 (by decide) (hg _ q_1_66) (fun _ h9 => h9) rfl dX1_carriedTo_22 ?_
      refine lv_iload hx hb dX1_carriedTo_25 (lv_at hl 0 rfl) ?_
      refine va_iald hx hb hK hP 2 0 rfl rfl (iv_in b_5 (by decide)) dX1_carriedTo_27 ?_
      refine lv_topi (fun x_10 ex_10 => ?_)
      refine lv_iload_n hx hb dX1_carriedTo_28 rfl (lv_at hl 3 rfl) ?_
      refine lv_icmp_ne (tgt := 59) hx hb dX1_carriedTo_29 (by decide) (fun c_11 => ?_) (fun c_11 => ?_)
      · obtain ⟨x_12, ex_12⟩ : ∃ z9 : Int32, z9 = u_1 + 1 := ⟨_, rfl⟩
        have bx_12 : iv 1 8 x_12 := by rw [ex_12]; exact iv_add b_5 (iv_c (1 : Int32) (a := 1) (b := 1) (by decide)) (by decide)
        refine lv_iinc (v := x_12) (lv' := [(5, .int x_12), (4, .int u_2), (0, .ref (y 2)), (1, .int a1), (2, .int a2), (3, .int a3)]) hx hb dX1_carriedTo_59 hl (k := 0) rfl (by rw [ex_12]; rfl) (by decide) rfl (fun ls hl => ?_)
        refine lv_goto (tgt := 6) hx hb dX1_carriedTo_62 (by decide) ?_
        exact ihn_3 _ _ _ _ (by rw [en_3, ex_12]; exact mu_up b_5 (by decide)) ⟨x_12, u_2, (iv_w bx_12 (by decide)), rfl, hP, hD, hS, lv_sub hl [0, 1, 2, 3, 4, 5] rfl⟩
      · refine lv_iload_n hx hb dX1_carriedTo_32 rfl (lv_at hl 4 rfl) ?_
        refine lv_aload_n hx hb dX1_carriedTo_33 rfl (lv_at hl 2 rfl) ?_
        refine va_get (ci := 1) (v := .ref (y 6)) (C := RX1) (T := TX1) (N := 18) hx hb hg inX1 hown hK hP 0 rfl rfl 9 (by decide) (hg _ q_1_64) (fun _ h9 => h9) rfl dX1_carriedTo_34 ?_
        refine lv_iload hx hb dX1_carriedTo_37 (lv_at hl 0 rfl) ?_
        refine va_iald hx hb hK hP 1 0 rfl rfl (iv_in b_5 (by decide)) dX1_carriedTo_39 ?_
        refine lv_topi (fun x_13 ex_13 => ?_)
        refine lv_ishr hx hb dX1_carriedTo_40 ?_
        refine lv_topi (fun x_14 ex_14 => ?_)
        refine lv_iconst (v := 1) hx hb dX1_carriedTo_41 (by decide) ?_
        refine lv_iand hx hb dX1_carriedTo_42 ?_
        refine lv_topi (fun x_15 ex_15 => ?_)
        have bx_15 : iv 0 1 x_15 := by rw [ex_15]; exact iv_and1 _
        refine lv_iconst (v := 1) hx hb dX1_carriedTo_43 (by decide) ?_
        refine lv_icmp_ne (tgt := 59) hx hb dX1_carriedTo_44 (by decide) (fun c_16 => ?_) (fun c_16 => ?_)
        · have b_17 : iv 0 0 x_15 := iv_n1 c_16 bx_15 (iv_c (1 : Int32) (a := 1) (b := 1) (by decide)) (by decide)
          obtain ⟨x_18, ex_18⟩ : ∃ z9 : Int32, z9 = u_1 + 1 := ⟨_, rfl⟩
          have bx_18 : iv 1 8 x_18 := by rw [ex_18]; exact iv_add b_5 (iv_c (1 : Int32) (a := 1) (b := 1) (by decide)) (by decide)
          refine lv_iinc (v := x_18) (lv' := [(5, .int x_18), (4, .int u_2), (0, .ref (y 2)), (1, .int a1), (2, .int a2), (3, .int a3)]) hx hb dX1_carriedTo_59 hl (k := 0) rfl (by rw [ex_18]; rfl) (by decide) rfl (fun ls hl => ?_)
          refine lv_goto (tgt := 6) hx hb dX1_carriedTo_62 (by decide) ?_
          exact ihn_3 _ _ _ _ (by rw [en_3, ex_18]; exact mu_up b_5 (by decide)) ⟨x_18, u_2, (iv_w bx_18 (by decide)), rfl, hP, hD, hS, lv_sub hl [0, 1, 2, 3, 4, 5] rfl⟩
        · have b_19 : iv 1 1 x_15 := iv_q c_16 (iv_c (1 : Int32) (a := 1) (b := 1) (by decide))
          refine lv_iload hx hb dX1_carriedTo_47 (lv_at hl 1 rfl) ?_
          refine lv_aload_n hx hb dX1_carriedTo_49 rfl (lv_at hl 2 rfl) ?_
          refine va_get (ci := 1) (v := .ref (y 8)) (C := RX1) (T := TX1) (N := 18) hx hb hg inX1 hown hK hP 0 rfl rfl 11 (by decide) (hg _ q_1_68) (fun _ h9 => h9) rfl dX1_carriedTo_50 ?_
          refine lv_iload hx hb dX1_carriedTo_53 (lv_at hl 0 rfl) ?_
          refine va_iald hx hb hK hP 3 0 rfl rfl (iv_in b_5 (by decide)) dX1_carriedTo_55 ?_
          refine lv_topi (fun x_20 ex_20 => ?_)
          refine lv_iadd hx hb dX1_carriedTo_56 ?_
          refine lv_topi (fun x_21 ex_21 => ?_)
          refine lv_istore (lv' := [(4, .int x_21), (5, .int u_1), (0, .ref (y 2)), (1, .int a1), (2, .int a2), (3, .int a3)]) hx hb dX1_carriedTo_57 hl (by decide) rfl (fun ls hl => ?_)
          obtain ⟨x_22, ex_22⟩ : ∃ z9 : Int32, z9 = u_1 + 1 := ⟨_, rfl⟩
          have bx_22 : iv 1 8 x_22 := by rw [ex_22]; exact iv_add b_5 (iv_c (1 : Int32) (a := 1) (b := 1) (by decide)) (by decide)
          refine lv_iinc (v := x_22) (lv' := [(5, .int x_22), (4, .int x_21), (0, .ref (y 2)), (1, .int a1), (2, .int a2), (3, .int a3)]) hx hb dX1_carriedTo_59 hl (k := 1) rfl (by rw [ex_22]; rfl) (by decide) rfl (fun ls hl => ?_)
          refine lv_goto (tgt := 6) hx hb dX1_carriedTo_62 (by decide) ?_
          exact ihn_3 _ _ _ _ (by rw [en_3, ex_22]; exact mu_up b_5 (by decide)) ⟨x_22, x_21, (iv_w bx_22 (by decide)), rfl, hP, hD, hS, lv_sub hl [0, 1, 2, 3, 4, 5] rfl⟩
theorem q_4_194 : Cond.constant "BeaconDelay" 279 (1000000 : Int32) ∈ gw := gw_4 (i := 194) (by decide +kernel) rfl
theorem dX9_woodWithout_0 : decode cX9_woodWithout 0 = .ok (.ldc_w 279, 3) := by decide +kernel
theorem dX9_woodWithout_3 : decode cX9_woodWithout 3 = .ok (.istore_n 2, 1) := by decide +kernel
theorem dX9_woodWithout_4 : decode cX9_woodWithout 4 = .ok (.iconst 0, 1) := by decide +kernel
theorem dX9_woodWithout_5 : decode cX9_woodWithout 5 = .ok (.istore_n 3, 1) := by decide +kernel
theorem dX9_woodWithout_6 : decode cX9_woodWithout 6 = .ok (.iload_n 3, 1) := by decide +kernel
theorem dX9_woodWithout_7 : decode cX9_woodWithout 7 = .ok (.iconst 1, 1) := by decide +kernel
theorem dX9_woodWithout_8 : decode cX9_woodWithout 8 = .ok (.aload_n 0, 1) := by decide +kernel
theorem dX9_woodWithout_9 : decode cX9_woodWithout 9 = .ok (.getfield 16, 3) := by decide +kernel
theorem dX9_woodWithout_12 : decode cX9_woodWithout 12 = .ok (.getfield 159, 3) := by decide +kernel
theorem dX9_woodWithout_15 : decode cX9_woodWithout 15 = .ok (.ishl, 1) := by decide +kernel
theorem dX9_woodWithout_16 : decode cX9_woodWithout 16 = .ok (.if_icmp .ge 118, 3) := by decide +kernel
theorem dX9_woodWithout_134 : decode cX9_woodWithout 134 = .ok (.iload_n 2, 1) := by decide +kernel
theorem dX9_woodWithout_135 : decode cX9_woodWithout 135 = .ok (.ireturn, 1) := by decide +kernel
theorem dX9_woodWithout_19 : decode cX9_woodWithout 19 = .ok (.iconst 0, 1) := by decide +kernel
theorem dX9_woodWithout_20 : decode cX9_woodWithout 20 = .ok (.istore 4, 2) := by decide +kernel
theorem dX9_woodWithout_22 : decode cX9_woodWithout 22 = .ok (.iconst 0, 1) := by decide +kernel
theorem dX9_woodWithout_23 : decode cX9_woodWithout 23 = .ok (.istore 5, 2) := by decide +kernel
theorem dX9_woodWithout_25 : decode cX9_woodWithout 25 = .ok (.iload 5, 2) := by decide +kernel
theorem dX9_woodWithout_27 : decode cX9_woodWithout 27 = .ok (.aload_n 0, 1) := by decide +kernel
theorem dX9_woodWithout_28 : decode cX9_woodWithout 28 = .ok (.getfield 16, 3) := by decide +kernel
theorem dX9_woodWithout_31 : decode cX9_woodWithout 31 = .ok (.getfield 159, 3) := by decide +kernel
theorem dX9_woodWithout_34 : decode cX9_woodWithout 34 = .ok (.if_icmp .ge 37, 3) := by decide +kernel
theorem dX9_woodWithout_71 : decode cX9_woodWithout 71 = .ok (.iconst 0, 1) := by decide +kernel
theorem dX9_woodWithout_72 : decode cX9_woodWithout 72 = .ok (.istore 5, 2) := by decide +kernel
theorem dX9_woodWithout_74 : decode cX9_woodWithout 74 = .ok (.iload 5, 2) := by decide +kernel
theorem dX9_woodWithout_76 : decode cX9_woodWithout 76 = .ok (.aload_n 0, 1) := by decide +kernel
theorem dX9_woodWithout_77 : decode cX9_woodWithout 77 = .ok (.getfield 16, 3) := by decide +kernel
theorem dX9_woodWithout_80 : decode cX9_woodWithout 80 = .ok (.getfield 145, 3) := by decide +kernel
theorem dX9_woodWithout_83 : decode cX9_woodWithout 83 = .ok (.if_icmp .ge 38, 3) := by decide +kernel
theorem dX9_woodWithout_121 : decode cX9_woodWithout 121 = .ok (.iload_n 2, 1) := by decide +kernel
theorem dX9_woodWithout_122 : decode cX9_woodWithout 122 = .ok (.iload 4, 2) := by decide +kernel
theorem q_4_214 : Cond.methodLink "BeaconDelay" 292 Lib.Math.min.name ∈ gw := gw_4 (i := 214) (by decide +kernel) rfl
theorem dX9_woodWithout_124 : decode cX9_woodWithout 124 = .ok (.invokestatic 292, 3) := by decide +kernel
theorem dX9_woodWithout_127 : decode cX9_woodWithout 127 = .ok (.istore_n 2, 1) := by decide +kernel
theorem dX9_woodWithout_128 : decode cX9_woodWithout 128 = .ok (.iinc 3 1, 3) := by decide +kernel
theorem dX9_woodWithout_131 : decode cX9_woodWithout 131 = .ok (.goto (-125), 3) := by decide +kernel
theorem dX9_woodWithout_86 : decode cX9_woodWithout 86 = .ok (.iload 4, 2) := by decide +kernel
theorem dX9_woodWithout_88 : decode cX9_woodWithout 88 = .ok (.aload_n 0, 1) := by decide +kernel
theorem dX9_woodWithout_89 : decode cX9_woodWithout 89 = .ok (.getfield 16, 3) := by decide +kernel
theorem dX9_woodWithout_92 : decode cX9_woodWithout 92 = .ok (.getfield 148, 3) := by decide +kernel
theorem dX9_woodWithout_95 : decode cX9_woodWithout 95 = .ok (.iload 5, 2) := by decide +kernel
theorem dX9_woodWithout_97 : decode cX9_woodWithout 97 = .ok (.iaload, 1) := by decide +kernel
theorem dX9_woodWithout_98 : decode cX9_woodWithout 98 = .ok (.aload_n 0, 1) := by decide +kernel
theorem dX9_woodWithout_99 : decode cX9_woodWithout 99 = .ok (.getfield 16, 3) := by decide +kernel
theorem dX9_woodWithout_102 : decode cX9_woodWithout 102 = .ok (.iload 5, 2) := by decide +kernel
theorem dX9_woodWithout_104 : decode cX9_woodWithout 104 = .ok (.iload_n 3, 1) := by decide +kernel
theorem dX9_woodWithout_105 : decode cX9_woodWithout 105 = .ok (.iload_n 1, 1) := by decide +kernel
theorem q_5_12 : Cond.code yX1_carriedTo prog_3_method_4_code 6 (some FieldType.int) ∈ gw := gw_5 (i := 12) (rfl) rfl
theorem q_1_2 : Cond.initialized "BeaconDelay$Coast" ∈ gw := gw_1 (i := 2) (by decide +kernel) rfl
theorem q_5_10 : Cond.instanceMethod yX1_carriedTo ∈ gw := gw_5 (i := 10) (by decide +kernel) rfl
theorem q_5_11 : Cond.selects "BeaconDelay$Coast" yX1_carriedTo yX1_carriedTo ∈ gw := gw_5 (i := 11) (by decide +kernel) rfl
theorem mt_X1_carriedTo : MtV yX1_carriedTo cX1_carriedTo 6 (some .int) 3 := ⟨⟨q_5_12, q_1_2, by decide +kernel, by decide +kernel, by decide +kernel⟩, q_5_10, q_5_11⟩
theorem q_5_9 : Cond.methodLink "BeaconDelay" 313 yX1_carriedTo ∈ gw := gw_5 (i := 9) (by decide +kernel) rfl
theorem dX9_woodWithout_106 : decode cX9_woodWithout 106 = .ok (.invokevirtual 313, 3) := by decide +kernel
theorem dX9_woodWithout_109 : decode cX9_woodWithout 109 = .ok (.invokestatic 292, 3) := by decide +kernel
theorem dX9_woodWithout_112 : decode cX9_woodWithout 112 = .ok (.iadd, 1) := by decide +kernel
theorem dX9_woodWithout_113 : decode cX9_woodWithout 113 = .ok (.istore 4, 2) := by decide +kernel
theorem dX9_woodWithout_115 : decode cX9_woodWithout 115 = .ok (.iinc 5 1, 3) := by decide +kernel
theorem dX9_woodWithout_118 : decode cX9_woodWithout 118 = .ok (.goto (-44), 3) := by decide +kernel
theorem dX9_woodWithout_37 : decode cX9_woodWithout 37 = .ok (.iload 4, 2) := by decide +kernel
theorem dX9_woodWithout_39 : decode cX9_woodWithout 39 = .ok (.iload_n 3, 1) := by decide +kernel
theorem dX9_woodWithout_40 : decode cX9_woodWithout 40 = .ok (.iload 5, 2) := by decide +kernel
theorem dX9_woodWithout_42 : decode cX9_woodWithout 42 = .ok (.ishr, 1) := by decide +kernel
theorem dX9_woodWithout_43 : decode cX9_woodWithout 43 = .ok (.iconst 1, 1) := by decide +kernel
theorem dX9_woodWithout_44 : decode cX9_woodWithout 44 = .ok (.iand, 1) := by decide +kernel
theorem dX9_woodWithout_45 : decode cX9_woodWithout 45 = .ok (.iconst 1, 1) := by decide +kernel
theorem dX9_woodWithout_46 : decode cX9_woodWithout 46 = .ok (.if_icmp .ne 7, 3) := by decide +kernel
theorem dX9_woodWithout_53 : decode cX9_woodWithout 53 = .ok (.aload_n 0, 1) := by decide +kernel
theorem dX9_woodWithout_54 : decode cX9_woodWithout 54 = .ok (.getfield 113, 3) := by decide +kernel
theorem dX9_woodWithout_57 : decode cX9_woodWithout 57 = .ok (.iload 5, 2) := by decide +kernel
theorem dX9_woodWithout_59 : decode cX9_woodWithout 59 = .ok (.invokestatic 132, 3) := by decide +kernel
theorem dX9_woodWithout_62 : decode cX9_woodWithout 62 = .ok (.iadd, 1) := by decide +kernel
theorem dX9_woodWithout_63 : decode cX9_woodWithout 63 = .ok (.istore 4, 2) := by decide +kernel
theorem dX9_woodWithout_65 : decode cX9_woodWithout 65 = .ok (.iinc 5 1, 3) := by decide +kernel
theorem dX9_woodWithout_68 : decode cX9_woodWithout 68 = .ok (.goto (-43), 3) := by decide +kernel
theorem dX9_woodWithout_49 : decode cX9_woodWithout 49 = .ok (.iconst 0, 1) := by decide +kernel
theorem dX9_woodWithout_50 : decode cX9_woodWithout 50 = .ok (.goto 12, 3) := by decide +kernel
set_option maxHeartbeats 4000000 in
set_option maxRecDepth 100000 in
theorem k_X9_woodWithout_0 (l : Launch) (V : GV) (y : Nat → Nat) (a1 : Int32) (py0_1 : Int32) (o10 : Value) (o11 : Value) (py0_12 : Int32) (py0_13 : Int32) (py0_14 : Int32) (py2_0 : Int32) (py2_1 : Int32) (py2_2 : Int32) (py2_3 : Int32) (py2_4 : Int32) (py2_5 : Int32) (py2_13 : Int32) (py2_14 : Int32) (py2_15 : Int32) (py2_16 : Int32) (py2_17 : Int32) (fy5 : Nat → Int32) (fy6 : Nat → Int32) (fy7 : Nat → Int32) (fy8 : Nat → Int32) (bpy0_1 : iv 0 900 py0_1) (bpy0_12 : iv 0 9999 py0_12) (bpy0_13 : iv 0 9 py0_13) (bpy2_1 : iv 0 4 py2_1) (bpy2_2 : iv 0 4 py2_2) (bpy2_3 : iv 0 8 py2_3) (bpy2_4 : iv 0 9999 py2_4) (bpy2_5 : iv 0 9 py2_5) (bpy2_13 : iv 0 900 py2_13) (bpy2_14 : iv 0 900 py2_14) (bpy2_15 : iv 0 900 py2_15) (bpy2_16 : iv 0 900 py2_16) (bpy2_17 : iv 0 900 py2_17) : Ct l V yX9_woodWithout (.code yX9_woodWithout cX9_woodWithout 6 (some .int)) 2 [.ref (y 0), .int a1] [(y 0, .inr (9, o9_rirrrrrrrrvviii (y 1) py0_1 (y 2) (y 10) (y 19) (y 25) (y 26) (y 30) (y 31) (y 32) o10 o11 py0_12 py0_13 py0_14)), (y 2, .inr (1, o1_iiiiiirrrrrrriiiii py2_0 py2_1 py2_2 py2_3 py2_4 py2_5 (y 3) (y 4) (y 5) (y 6) (y 7) (y 8) (y 9) py2_13 py2_14 py2_15 py2_16 py2_17)), (y 5, aI V 4 fy5), (y 6, aI V 8 fy6), (y 7, aI V 8 fy7), (y 8, aI V 8 fy8)] 0 0 (QI V (fun (r : Int32) (w : va_W) => w = [(y 0, .inr (9, o9_rirrrrrrrrvviii (y 1) py0_1 (y 2) (y 10) (y 19) (y 25) (y 26) (y 30) (y 31) (y 32) o10 o11 py0_12 py0_13 py0_14)), (y 2, .inr (1, o1_iiiiiirrrrrrriiiii py2_0 py2_1 py2_2 py2_3 py2_4 py2_5 (y 3) (y 4) (y 5) (y 6) (y 7) (y 8) (y 9) py2_13 py2_14 py2_15 py2_16 py2_17)), (y 5, aI V 4 fy5), (y 6, aI V 8 fy6), (y 7, aI V 8 fy7), (y 8, aI V 8 fy8)])) := by
  refine Ct.of (by decide) (Nat.le_of_ble_eq_true rfl) (fun p e s m below meth c A ls hx hb hr hml hown hlk hnm hg hP hK hD hE hA hS hl => ?_)
  have hl : lv_has ls 6 [(0, .ref (y 0)), (1, .int a1)] := hl
  refine lv_ldcw (v := 1000000) hx hb hown (hg _ q_4_194) dX9_woodWithout_0 ?_
  refine lv_istore_n (lv' := [(2, .int 1000000), (0, .ref (y 0)), (1, .int a1)]) hx hb dX9_woodWithout_3 rfl hl (by decide) rfl (fun ls hl => ?_)
  refine lv_iconst (v := 0) hx hb dX9_woodWithout_4 (by decide) ?_
  refine lv_istore_n (lv' := [(3, .int 0), (2, .int 1000000), (0, .ref (y 0)), (1, .int a1)]) hx hb dX9_woodWithout_5 rfl hl (by decide) rfl (fun ls hl => ?_)
  refine loopF (X := fun (n_3 : Nat) (H : Heap) (locs : List Loc) (ls : Array Slot) => ∃ (u_1 : Int32) (u_2 : Int32), (iv 0 2147483647 u_1) ∧ n_3 = (2147483647 - (u_1 : Int32).toInt).toNat ∧ va_P V.1 vwCl [(y 0, .inr (9, o9_rirrrrrrrrvviii (y 1) py0_1 (y 2) (y 10) (y 19) (y 25) (y 26) (y 30) (y 31) (y 32) o10 o11 py0_12 py0_13 py0_14)), (y 2, .inr (1, o1_iiiiiirrrrrrriiiii py2_0 py2_1 py2_2 py2_3 py2_4 py2_5 (y 3) (y 4) (y 5) (y 6) (y 7) (y 8) (y 9) py2_13 py2_14 py2_15 py2_16 py2_17)), (y 5, aI V 4 fy5), (y 6, aI V 8 fy6), (y 7, aI V 8 fy7), (y 8, aI V 8 fy8)] H ∧ va_D A [(y 0, .inr (9, o9_rirrrrrrrrvviii (y 1) py0_1 (y 2) (y 10) (y 19) (y 25) (y 26) (y 30) (y 31) (y 32) o10 o11 py0_12 py0_13 py0_14)), (y 2, .inr (1, o1_iiiiiirrrrrrriiiii py2_0 py2_1 py2_2 py2_3 py2_4 py2_5 (y 3) (y 4) (y 5) (y 6) (y 7) (y 8) (y 9) py2_13 py2_14 py2_15 py2_16 py2_17)), (y 5, aI V 4 fy5), (y 6, aI V 8 fy6), (y 7, aI V 8 fy7), (y 8, aI V 8 fy8)] ∧ va_S A s.heap H locs ∧ lv_has ls 6 [(3, .int u_1), (2, .int u_2), (0, .ref (y 0)), (1, .int a1)]) (g := fun ls => F0 m 6 ls []) (fun n_3 H locs ls hX ihn_3 => ?_) _ ⟨0, 1000000, (iv_c (0 : Int32) (by decide)), rfl, hP, hD, hS, lv_sub hl [0, 1, 2, 3] rfl⟩
  obtain ⟨u_1, u_2, bu_1, en_3, hP, hD, hS, hl⟩ := hX
  refine lv_iload_n hx hb dX9_woodWithout_6 rfl (lv_at hl 0 rfl) ?_
  refine lv_iconst (v := 1) hx hb dX9_woodWithout_7 (by decide) ?_
  refine lv_aload_n hx hb dX9_woodWithout_8 rfl (lv_at hl 2 rfl) ?_
  refine va_get (ci := 9) (v := .ref (y 2)) (C := RX9) (T := TX9) (N := 15) hx hb hg inX9 hown hK hP 0 rfl rfl 2 (by decide) (hg _ q_2_38) (fun _ h9 => h9) rfl dX9_woodWithout_9 ?_
  refine va_get (ci := 1) (v := .int py2_1) (C := RX1) (T := TX1) (N := 18) hx hb hg inX1 hown hK hP 1 rfl rfl 1 (by decide) (hg _ q_1_41) (fun _ h9 => h9) rfl dX9_woodWithout_12 ?_
  refine lv_ishl hx hb dX9_woodWithout_15 ?_
  refine lv_topi (fun x_4 ex_4 => ?_)
  refine lv_icmp_ge (tgt := 134) hx hb dX9_woodWithout_16 (by decide) (fun c_5 => ?_) (fun c_5 => ?_)
  · refine lv_iload_n hx hb dX9_woodWithout_134 rfl (lv_at hl 1 rfl) ?_
    exact fiI hx hb hr hlk hK hP hD hS dX9_woodWithout_135 (Nat.le_of_ble_eq_true rfl) (Nat.le_of_ble_eq_true rfl) (rfl)
  · have b_6 : iv 0 2147483646 u_1 := iv_l1 (Int32.not_le.mp c_5) bu_1 (iv_top x_4) (by decide)
    have b_7 : iv 1 2147483647 x_4 := iv_l2 (Int32.not_le.mp c_5) bu_1 (iv_top x_4) (by decide)
    refine lv_iconst (v := 0) hx hb dX9_woodWithout_19 (by decide) ?_
    refine lv_istore (lv' := [(4, .int 0), (3, .int u_1), (2, .int u_2), (0, .ref (y 0)), (1, .int a1)]) hx hb dX9_woodWithout_20 hl (by decide) rfl (fun ls hl => ?_)
    refine lv_iconst (v := 0) hx hb dX9_woodWithout_22 (by decide) ?_
    refine lv_istore (lv' := [(5, .int 0), (4, .int 0), (3, .int u_1), (2, .int u_2), (0, .ref (y 0)), (1, .int a1)]) hx hb dX9_woodWithout_23 hl (by decide) rfl (fun ls hl => ?_)
    refine loopF (X := fun (n_10 : Nat) (H : Heap) (locs : List Loc) (ls : Array Slot) => ∃ (u_8 : Int32) (u_9 : Int32), (iv 0 2147483647 u_8) ∧ n_10 = (2147483647 - (u_8 : Int32).toInt).toNat ∧ va_P V.1 vwCl [(y 0, .inr (9, o9_rirrrrrrrrvviii (y 1) py0_1 (y 2) (y 10) (y 19) (y 25) (y 26) (y 30) (y 31) (y 32) o10 o11 py0_12 py0_13 py0_14)), (y 2, .inr (1, o1_iiiiiirrrrrrriiiii py2_0 py2_1 py2_2 py2_3 py2_4 py2_5 (y 3) (y 4) (y 5) (y 6) (y 7) (y 8) (y 9) py2_13 py2_14 py2_15 py2_16 py2_17)), (y 5, aI V 4 fy5), (y 6, aI V 8 fy6), (y 7, aI V 8 fy7), (y 8, aI V 8 fy8)] H ∧ va_D A [(y 0, .inr (9, o9_rirrrrrrrrvviii (y 1) py0_1 (y 2) (y 10) (y 19) (y 25) (y 26) (y 30) (y 31) (y 32) o10 o11 py0_12 py0_13 py0_14)), (y 2, .inr (1, o1_iiiiiirrrrrrriiiii py2_0 py2_1 py2_2 py2_3 py2_4 py2_5 (y 3) (y 4) (y 5) (y 6) (y 7) (y 8) (y 9) py2_13 py2_14 py2_15 py2_16 py2_17)), (y 5, aI V 4 fy5), (y 6, aI V 8 fy6), (y 7, aI V 8 fy7), (y 8, aI V 8 fy8)] ∧ va_S A s.heap H locs ∧ lv_has ls 6 [(5, .int u_8), (4, .int u_9), (3, .int u_1), (2, .int u_2), (0, .ref (y 0)), (1, .int a1)]) (g := fun ls => F0 m 25 ls []) (fun n_10 H locs ls hX ihn_10 => ?_) _ ⟨0, 0, (iv_c (0 : Int32) (by decide)), rfl, hP, hD, hS, lv_sub hl [0, 1, 2, 3, 4, 5] rfl⟩
    obtain ⟨u_8, u_9, bu_8, en_10, hP, hD, hS, hl⟩ := hX
    refine lv_iload hx hb dX9_woodWithout_25 (lv_at hl 0 rfl) ?_
    refine lv_aload_n hx hb dX9_woodWithout_27 rfl (lv_at hl 4 rfl) ?_
    refine va_get (ci := 9) (v := .ref (y 2)) (C := RX9) (T := TX9) (N := 15) hx hb hg inX9 hown hK hP 0 rfl rfl 2 (by decide) (hg _ q_2_38) (fun _ h9 => h9) rfl dX9_woodWithout_28 ?_
    refine va_get (ci := 1) (v := .int py2_1) (C := RX1) (T := TX1) (N := 18) hx hb hg inX1 hown hK hP 1 rfl rfl 1 (by decide) (hg _ q_1_41) (fun _ h9 => h9) rfl dX9_woodWithout_31 ?_
    refine lv_icmp_ge (tgt := 71) hx hb dX9_woodWithout_34 (by decide) (fun c_11 => ?_) (fun c_11 => ?_)
    · refine lv_iconst (v := 0) hx hb dX9_woodWithout_71 (by decide) ?_
      refine lv_istore (lv' := [(5, .int 0), (4, .int u_9), (3, .int u_1), (2, .int u_2), (0, .ref (y 0)), (1, .int a1)]) hx hb dX9_woodWithout_72 hl (by decide) rfl (fun ls hl => ?_)
      refine loopF (X := fun (n_14 : Nat) (H : Heap) (locs : List Loc) (ls : Array Slot) => ∃ (u_12 : Int32) (u_13 : Int32), (iv 0 2147483647 u_12) ∧ n_14 = (2147483647 - (u_12 : Int32).toInt).toNat ∧ va_P V.1 vwCl [(y 0, .inr (9, o9_rirrrrrrrrvviii (y 1) py0_1 (y 2) (y 10) (y 19) (y 25) (y 26) (y 30) (y 31) (y 32) o10 o11 py0_12 py0_13 py0_14)), (y 2, .inr (1, o1_iiiiiirrrrrrriiiii py2_0 py2_1 py2_2 py2_3 py2_4 py2_5 (y 3) (y 4) (y 5) (y 6) (y 7) (y 8) (y 9) py2_13 py2_14 py2_15 py2_16 py2_17)), (y 5, aI V 4 fy5), (y 6, aI V 8 fy6), (y 7, aI V 8 fy7), (y 8, aI V 8 fy8)] H ∧ va_D A [(y 0, .inr (9, o9_rirrrrrrrrvviii (y 1) py0_1 (y 2) (y 10) (y 19) (y 25) (y 26) (y 30) (y 31) (y 32) o10 o11 py0_12 py0_13 py0_14)), (y 2, .inr (1, o1_iiiiiirrrrrrriiiii py2_0 py2_1 py2_2 py2_3 py2_4 py2_5 (y 3) (y 4) (y 5) (y 6) (y 7) (y 8) (y 9) py2_13 py2_14 py2_15 py2_16 py2_17)), (y 5, aI V 4 fy5), (y 6, aI V 8 fy6), (y 7, aI V 8 fy7), (y 8, aI V 8 fy8)] ∧ va_S A s.heap H locs ∧ lv_has ls 6 [(5, .int u_12), (4, .int u_13), (3, .int u_1), (2, .int u_2), (0, .ref (y 0)), (1, .int a1)]) (g := fun ls => F0 m 74 ls []) (fun n_14 H locs ls hX ihn_14 => ?_) _ ⟨0, u_9, (iv_c (0 : Int32) (by decide)), rfl, hP, hD, hS, lv_sub hl [0, 1, 2, 3, 4, 5] rfl⟩
      obtain ⟨u_12, u_13, bu_12, en_14, hP, hD, hS, hl⟩ := hX
      refine lv_iload hx hb dX9_woodWithout_74 (lv_at hl 0 rfl) ?_
      refine lv_aload_n hx hb dX9_woodWithout_76 rfl (lv_at hl 4 rfl) ?_
      refine va_get (ci := 9) (v := .ref (y 2)) (C := RX9) (T := TX9) (N := 15) hx hb hg inX9 hown hK hP 0 rfl rfl 2 (by decide) (hg _ q_2_38) (fun _ h9 => h9) rfl dX9_woodWithout_77 ?_
      refine va_get (ci := 1) (v := .int py2_2) (C := RX1) (T := TX1) (N := 18) hx hb hg inX1 hown hK hP 1 rfl rfl 2 (by decide) (hg _ q_1_44) (fun _ h9 => h9) rfl dX9_woodWithout_80 ?_
      refine lv_icmp_ge (tgt := 121) hx hb dX9_woodWithout_83 (by decide) (fun c_15 => ?_) (fun c_15 => ?_)
      · refine lv_iload_n hx hb dX9_woodWithout_121 rfl (lv_at hl 3 rfl) ?_
        refine lv_iload hx hb dX9_woodWithout_122 (lv_at hl 1 rfl) ?_
        refine va_mmin hx hb (hml.trans hl.1.symm) hown (hg _ q_4_214) (hg _ q_2_99) (hg _ q_1_10) (hg _ q_2_100) (Nat.le_of_ble_eq_true rfl) (Nat.le_of_ble_eq_true rfl) (Nat.le_of_ble_eq_true rfl) (Nat.le_of_ble_eq_true rfl) dX9_woodWithout_124 ?_
        refine lv_topi (fun x_16 ex_16 => ?_)
        refine lv_istore_n (lv' := [(2, .int x_16), (5, .int u_12), (4, .int u_13), (3, .int u_1), (0, .ref (y 0)), (1, .int a1)]) hx hb dX9_woodWithout_127 rfl hl (by decide) rfl (fun ls hl => ?_)
        obtain ⟨x_17, ex_17⟩ : ∃ z9 : Int32, z9 = u_1 + 1 := ⟨_, rfl⟩
        have bx_17 : iv 1 2147483647 x_17 := by rw [ex_17]; exact iv_add b_6 (iv_c (1 : Int32) (a := 1) (b := 1) (by decide)) (by decide)
        refine lv_iinc (v := x_17) (lv' := [(3, .int x_17), (2, .int x_16), (5, .int u_12), (4, .int u_13), (0, .ref (y 0)), (1, .int a1)]) hx hb dX9_woodWithout_128 hl (k := 3) rfl (by rw [ex_17]; rfl) (by decide) rfl (fun ls hl => ?_)
        refine lv_goto (tgt := 6) hx hb dX9_woodWithout_131 (by decide) ?_
        exact ihn_3 _ _ _ _ (by rw [en_3, ex_17]; exact mu_up b_6 (by decide)) ⟨x_17, x_16, (iv_w bx_17 (by decide)), rfl, hP, hD, hS, lv_sub hl [0, 1, 4, 5] rfl⟩
      · have b_18 : iv 0 3 u_12 := iv_l1 (Int32.not_le.mp c_15) bu_12 bpy2_2 (by decide)
        have b_19 : iv 1 4 py2_2 := iv_l2 (Int32.not_le.mp c_15) bu_12 bpy2_2 (by decide)
        refine lv_iload hx hb dX9_woodWithout_86 (lv_at hl 1 rfl) ?_
        refine lv_aload_n hx hb dX9_woodWithout_88 rfl (lv_at hl 4 rfl) ?_
        refine va_get (ci := 9) (v := .ref (y 2)) (C := RX9) (T := TX9) (N := 15) hx hb hg inX9 hown hK hP 0 rfl rfl 2 (by decide) (hg _ q_2_38) (fun _ h9 => h9) rfl dX9_woodWithout_89 ?_
        refine va_get (ci := 1) (v := .ref (y 5)) (C := RX1) (T := TX1) (N := 18) hx hb hg inX1 hown hK hP 1 rfl rfl 8 (by decide) (hg _ q_1_63) (fun _ h9 => h9) rfl dX9_woodWithout_92 ?_
        refine lv_iload hx hb dX9_woodWithout_95 (lv_at hl 0 rfl) ?_
        refine va_iald hx hb hK hP 2 0 rfl rfl (iv_in b_18 (by decide)) dX9_woodWithout_97 ?_
        refine lv_topi (fun x_20 ex_20 => ?_)
        refine lv_aload_n hx hb dX9_woodWithout_98 rfl (lv_at hl 4 rfl) ?_
        refine va_get (ci := 9) (v := .ref (y 2)) (C := RX9) (T := TX9) (N := 15) hx hb hg inX9 hown hK hP 0 rfl rfl 2 (by decide) (hg _ q_2_38) (fun _ h9 => h9) rfl dX9_woodWithout_99 ?_
        refine lv_iload hx hb dX9_woodWithout_102 (lv_at hl 0 rfl) ?_
        refine lv_iload_n hx hb dX9_woodWithout_104 rfl (lv_at hl 2 rfl) ?_
        refine lv_iload_n hx hb dX9_woodWithout_105 rfl (lv_at hl 5 rfl) ?_
        refine jnI (wr := [(y 0, .inr (9, o9_rirrrrrrrrvviii (y 1) py0_1 (y 2) (y 10) (y 19) (y 25) (y 26) (y 30) (y 31) (y 32) o10 o11 py0_12 py0_13 py0_14)), (y 5, aI V 4 fy5)]) (rnV (rest := [.int x_20, .int u_13]) ⟨hx, hb, hml, hown, hg⟩ (k_X1_carriedTo_0 l V y u_12 u_1 a1 py2_0 py2_1 py2_2 py2_3 py2_4 py2_5 py2_13 py2_14 py2_15 py2_16 py2_17 fy6 fy7 fy8 bpy2_1 (iv_w b_19 (by decide)) bpy2_3 bpy2_4 bpy2_5 bpy2_13 bpy2_14 bpy2_15 bpy2_16 bpy2_17) mt_X1_carriedTo q_5_9 ⟨Nat.le_of_ble_eq_true rfl, Nat.le_of_ble_eq_true rfl⟩ hK hP hD hS hA hE [1, 3, 4, 5] rfl rfl 1 rfl rfl rfl rfl hl.1 rfl (Nat.le_of_ble_eq_true rfl) dX9_woodWithout_106 ⟨Nat.le_of_ble_eq_true rfl, Nat.le_of_ble_eq_true rfl⟩) hP hD hS hA [1, 3, 4, 5] [0, 2] rfl rfl rfl (by decide) (fun r_21 w H locs hw hP hD hS => ?_)
        subst hw
        have hP : va_P V.1 vwCl [(y 0, .inr (9, o9_rirrrrrrrrvviii (y 1) py0_1 (y 2) (y 10) (y 19) (y 25) (y 26) (y 30) (y 31) (y 32) o10 o11 py0_12 py0_13 py0_14)), (y 5, aI V 4 fy5), (y 2, .inr (1, o1_iiiiiirrrrrrriiiii py2_0 py2_1 py2_2 py2_3 py2_4 py2_5 (y 3) (y 4) (y 5) (y 6) (y 7) (y 8) (y 9) py2_13 py2_14 py2_15 py2_16 py2_17)), (y 6, aI V 8 fy6), (y 7, aI V 8 fy7), (y 8, aI V 8 fy8)] H := hP
        have hD := cpD hP hD
        refine va_mmin hx hb (hml.trans hl.1.symm) hown (hg _ q_4_214) (hg _ q_2_99) (hg _ q_1_10) (hg _ q_2_100) (Nat.le_of_ble_eq_true rfl) (Nat.le_of_ble_eq_true rfl) (Nat.le_of_ble_eq_true rfl) (Nat.le_of_ble_eq_true rfl) dX9_woodWithout_109 ?_
        refine lv_topi (fun x_22 ex_22 => ?_)
        refine lv_iadd hx hb dX9_woodWithout_112 ?_
        refine lv_topi (fun x_23 ex_23 => ?_)
        refine lv_istore (lv' := [(4, .int x_23), (5, .int u_12), (3, .int u_1), (2, .int u_2), (0, .ref (y 0)), (1, .int a1)]) hx hb dX9_woodWithout_113 hl (by decide) rfl (fun ls hl => ?_)
        obtain ⟨x_24, ex_24⟩ : ∃ z9 : Int32, z9 = u_12 + 1 := ⟨_, rfl⟩
        have bx_24 : iv 1 4 x_24 := by rw [ex_24]; exact iv_add b_18 (iv_c (1 : Int32) (a := 1) (b := 1) (by decide)) (by decide)
        refine lv_iinc (v := x_24) (lv' := [(5, .int x_24), (4, .int x_23), (3, .int u_1), (2, .int u_2), (0, .ref (y 0)), (1, .int a1)]) hx hb dX9_woodWithout_115 hl (k := 1) rfl (by rw [ex_24]; rfl) (by decide) rfl (fun ls hl => ?_)
        refine lv_goto (tgt := 74) hx hb dX9_woodWithout_118 (by decide) ?_
        have hP := subP (ws' := [(y 0, .inr (9, o9_rirrrrrrrrvviii (y 1) py0_1 (y 2) (y 10) (y 19) (y 25) (y 26) (y 30) (y 31) (y 32) o10 o11 py0_12 py0_13 py0_14)), (y 2, .inr (1, o1_iiiiiirrrrrrriiiii py2_0 py2_1 py2_2 py2_3 py2_4 py2_5 (y 3) (y 4) (y 5) (y 6) (y 7) (y 8) (y 9) py2_13 py2_14 py2_15 py2_16 py2_17)), (y 5, aI V 4 fy5), (y 6, aI V 8 fy6), (y 7, aI V 8 fy7), (y 8, aI V 8 fy8)]) hP [0, 2, 1, 3, 4, 5] rfl
        have hD := subD hP hD [0, 2, 1, 3, 4, 5] rfl rfl
        exact ihn_14 _ _ _ _ (by rw [en_14, ex_24]; exact mu_up b_18 (by decide)) ⟨x_24, x_23, (iv_w bx_24 (by decide)), rfl, hP, hD, hS, lv_sub hl [0, 1, 2, 3, 4, 5] rfl⟩
    · have b_25 : iv 0 3 u_8 := iv_l1 (Int32.not_le.mp c_11) bu_8 bpy2_1 (by decide)
      have b_26 : iv 1 4 py2_1 := iv_l2 (Int32.not_le.mp c_11) bu_8 bpy2_1 (by decide)
      refine lv_iload hx hb dX9_woodWithout_37 (lv_at hl 1 rfl) ?_
      refine lv_iload_n hx hb dX9_woodWithout_39 rfl (lv_at hl 2 rfl) ?_
      refine lv_iload hx hb dX9_woodWithout_40 (lv_at hl 0 rfl) ?_
      refine lv_ishr hx hb dX9_woodWithout_42 ?_
      refine lv_topi (fun x_27 ex_27 => ?_)
      refine lv_iconst (v := 1) hx hb dX9_woodWithout_43 (by decide) ?_
      refine lv_iand hx hb dX9_woodWithout_44 ?_
      refine lv_topi (fun x_28 ex_28 => ?_)
      have bx_28 : iv 0 1 x_28 := by rw [ex_28]; exact iv_and1 _
      refine lv_iconst (v := 1) hx hb dX9_woodWithout_45 (by decide) ?_
      refine lv_icmp_ne (tgt := 53) hx hb dX9_woodWithout_46 (by decide) (fun c_29 => ?_) (fun c_29 => ?_)
      · have b_30 : iv 0 0 x_28 := iv_n1 c_29 bx_28 (iv_c (1 : Int32) (a := 1) (b := 1) (by decide)) (by decide)
        refine lv_aload_n hx hb dX9_woodWithout_53 rfl (lv_at hl 4 rfl) ?_
        refine va_get (ci := 9) (v := .int py0_12) (C := RX9) (T := TX9) (N := 15) hx hb hg inX9 hown hK hP 0 rfl rfl 12 (by decide) (hg _ q_2_48) (fun _ h9 => h9) rfl dX9_woodWithout_54 ?_
        refine lv_iload hx hb dX9_woodWithout_57 (lv_at hl 0 rfl) ?_
        refine jnI (wr := [(y 0, .inr (9, o9_rirrrrrrrrvviii (y 1) py0_1 (y 2) (y 10) (y 19) (y 25) (y 26) (y 30) (y 31) (y 32) o10 o11 py0_12 py0_13 py0_14)), (y 2, .inr (1, o1_iiiiiirrrrrrriiiii py2_0 py2_1 py2_2 py2_3 py2_4 py2_5 (y 3) (y 4) (y 5) (y 6) (y 7) (y 8) (y 9) py2_13 py2_14 py2_15 py2_16 py2_17)), (y 5, aI V 4 fy5), (y 6, aI V 8 fy6), (y 7, aI V 8 fy7), (y 8, aI V 8 fy8)]) (rnS (rest := [.int u_9]) ⟨hx, hb, hml, hown, hg⟩ (k_X9_stackIn_0 l V py0_12 u_8 bpy0_12 (iv_w b_25 (by decide))) mt_X9_stackIn q_3_126 ⟨Nat.le_of_ble_eq_true rfl, Nat.le_of_ble_eq_true rfl⟩ hK hP hD hS hA hE [] rfl rfl rfl hl.1 rfl (Nat.le_of_ble_eq_true rfl) dX9_woodWithout_59 ⟨Nat.le_of_ble_eq_true rfl, Nat.le_of_ble_eq_true rfl⟩) hP hD hS hA [] [0, 1, 2, 3, 4, 5] rfl rfl rfl (by decide) (fun r_31 w H locs hw hP hD hS => ?_)
        obtain ⟨br_31, er_31, et_32, rfl⟩ := hw
        have hP : va_P V.1 vwCl [(y 0, .inr (9, o9_rirrrrrrrrvviii (y 1) py0_1 (y 2) (y 10) (y 19) (y 25) (y 26) (y 30) (y 31) (y 32) o10 o11 py0_12 py0_13 py0_14)), (y 2, .inr (1, o1_iiiiiirrrrrrriiiii py2_0 py2_1 py2_2 py2_3 py2_4 py2_5 (y 3) (y 4) (y 5) (y 6) (y 7) (y 8) (y 9) py2_13 py2_14 py2_15 py2_16 py2_17)), (y 5, aI V 4 fy5), (y 6, aI V 8 fy6), (y 7, aI V 8 fy7), (y 8, aI V 8 fy8)] H := hP
        have hD := cpD hP hD
        refine lv_iadd hx hb dX9_woodWithout_62 ?_
        refine lv_topi (fun x_33 ex_33 => ?_)
        refine lv_istore (lv' := [(4, .int x_33), (5, .int u_8), (3, .int u_1), (2, .int u_2), (0, .ref (y 0)), (1, .int a1)]) hx hb dX9_woodWithout_63 hl (by decide) rfl (fun ls hl => ?_)
        obtain ⟨x_34, ex_34⟩ : ∃ z9 : Int32, z9 = u_8 + 1 := ⟨_, rfl⟩
        have bx_34 : iv 1 4 x_34 := by rw [ex_34]; exact iv_add b_25 (iv_c (1 : Int32) (a := 1) (b := 1) (by decide)) (by decide)
        refine lv_iinc (v := x_34) (lv' := [(5, .int x_34), (4, .int x_33), (3, .int u_1), (2, .int u_2), (0, .ref (y 0)), (1, .int a1)]) hx hb dX9_woodWithout_65 hl (k := 1) rfl (by rw [ex_34]; rfl) (by decide) rfl (fun ls hl => ?_)
        refine lv_goto (tgt := 25) hx hb dX9_woodWithout_68 (by decide) ?_
        exact ihn_10 _ _ _ _ (by rw [en_10, ex_34]; exact mu_up b_25 (by decide)) ⟨x_34, x_33, (iv_w bx_34 (by decide)), rfl, hP, hD, hS, lv_sub hl [0, 1, 2, 3, 4, 5] rfl⟩
      · have b_35 : iv 1 1 x_28 := iv_q c_29 (iv_c (1 : Int32) (a := 1) (b := 1) (by decide))
        refine lv_iconst (v := 0) hx hb dX9_woodWithout_49 (by decide) ?_
        refine lv_goto (tgt := 62) hx hb dX9_woodWithout_50 (by decide) ?_
        refine lv_iadd hx hb dX9_woodWithout_62 ?_
        refine lv_topi (fun x_36 ex_36 => ?_)
        refine lv_istore (lv' := [(4, .int x_36), (5, .int u_8), (3, .int u_1), (2, .int u_2), (0, .ref (y 0)), (1, .int a1)]) hx hb dX9_woodWithout_63 hl (by decide) rfl (fun ls hl => ?_)
        obtain ⟨x_37, ex_37⟩ : ∃ z9 : Int32, z9 = u_8 + 1 := ⟨_, rfl⟩
        have bx_37 : iv 1 4 x_37 := by rw [ex_37]; exact iv_add b_25 (iv_c (1 : Int32) (a := 1) (b := 1) (by decide)) (by decide)
        refine lv_iinc (v := x_37) (lv' := [(5, .int x_37), (4, .int x_36), (3, .int u_1), (2, .int u_2), (0, .ref (y 0)), (1, .int a1)]) hx hb dX9_woodWithout_65 hl (k := 1) rfl (by rw [ex_37]; rfl) (by decide) rfl (fun ls hl => ?_)
        refine lv_goto (tgt := 25) hx hb dX9_woodWithout_68 (by decide) ?_
        exact ihn_10 _ _ _ _ (by rw [en_10, ex_37]; exact mu_up b_25 (by decide)) ⟨x_37, x_36, (iv_w bx_37 (by decide)), rfl, hP, hD, hS, lv_sub hl [0, 1, 2, 3, 4, 5] rfl⟩
theorem dX9_wood_0 : decode cX9_wood 0 = .ok (.aload_n 0, 1) := by decide +kernel
theorem dX9_wood_1 : decode cX9_wood 1 = .ok (.iconst (-1), 1) := by decide +kernel
theorem q_5_8 : Cond.code yX9_woodWithout prog_1_method_51_code 6 (some FieldType.int) ∈ gw := gw_5 (i := 8) (rfl) rfl
theorem q_5_7 : Cond.instanceMethod yX9_woodWithout ∈ gw := gw_5 (i := 7) (by decide +kernel) rfl
theorem q_s_41 : Cond.selects "BeaconDelay" yX9_woodWithout yX9_woodWithout ∈ gw := gw_s (i := 41) (by decide +kernel) rfl
theorem mt_X9_woodWithout : MtV yX9_woodWithout cX9_woodWithout 6 (some .int) 1 := ⟨⟨q_5_8, q_1_1, by decide +kernel, by decide +kernel, by decide +kernel⟩, q_5_7, q_s_41⟩
theorem q_5_5 : Cond.methodLink "BeaconDelay" 307 yX9_woodWithout ∈ gw := gw_5 (i := 5) (by decide +kernel) rfl
theorem dX9_wood_2 : decode cX9_wood 2 = .ok (.invokevirtual 307, 3) := by decide +kernel
theorem dX9_wood_5 : decode cX9_wood 5 = .ok (.ireturn, 1) := by decide +kernel
set_option maxHeartbeats 4000000 in
set_option maxRecDepth 100000 in
theorem k_X9_wood_0 (l : Launch) (V : GV) (y : Nat → Nat) (py0_1 : Int32) (o10 : Value) (o11 : Value) (py0_12 : Int32) (py0_13 : Int32) (py0_14 : Int32) (py2_0 : Int32) (py2_1 : Int32) (py2_2 : Int32) (py2_3 : Int32) (py2_4 : Int32) (py2_5 : Int32) (py2_13 : Int32) (py2_14 : Int32) (py2_15 : Int32) (py2_16 : Int32) (py2_17 : Int32) (fy5 : Nat → Int32) (fy6 : Nat → Int32) (fy7 : Nat → Int32) (fy8 : Nat → Int32) (bpy0_1 : iv 0 900 py0_1) (bpy0_12 : iv 0 9999 py0_12) (bpy0_13 : iv 0 9 py0_13) (bpy2_1 : iv 0 4 py2_1) (bpy2_2 : iv 0 4 py2_2) (bpy2_3 : iv 0 8 py2_3) (bpy2_4 : iv 0 9999 py2_4) (bpy2_5 : iv 0 9 py2_5) (bpy2_13 : iv 0 900 py2_13) (bpy2_14 : iv 0 900 py2_14) (bpy2_15 : iv 0 900 py2_15) (bpy2_16 : iv 0 900 py2_16) (bpy2_17 : iv 0 900 py2_17) : Ct l V yX9_wood (.code yX9_wood cX9_wood 1 (some .int)) 3 [.ref (y 0)] [(y 0, .inr (9, o9_rirrrrrrrrvviii (y 1) py0_1 (y 2) (y 10) (y 19) (y 25) (y 26) (y 30) (y 31) (y 32) o10 o11 py0_12 py0_13 py0_14)), (y 2, .inr (1, o1_iiiiiirrrrrrriiiii py2_0 py2_1 py2_2 py2_3 py2_4 py2_5 (y 3) (y 4) (y 5) (y 6) (y 7) (y 8) (y 9) py2_13 py2_14 py2_15 py2_16 py2_17)), (y 5, aI V 4 fy5), (y 6, aI V 8 fy6), (y 7, aI V 8 fy7), (y 8, aI V 8 fy8)] 0 0 (QI V (fun (r : Int32) (w : va_W) => w = [(y 0, .inr (9, o9_rirrrrrrrrvviii (y 1) py0_1 (y 2) (y 10) (y 19) (y 25) (y 26) (y 30) (y 31) (y 32) o10 o11 py0_12 py0_13 py0_14)), (y 2, .inr (1, o1_iiiiiirrrrrrriiiii py2_0 py2_1 py2_2 py2_3 py2_4 py2_5 (y 3) (y 4) (y 5) (y 6) (y 7) (y 8) (y 9) py2_13 py2_14 py2_15 py2_16 py2_17)), (y 5, aI V 4 fy5), (y 6, aI V 8 fy6), (y 7, aI V 8 fy7), (y 8, aI V 8 fy8)])) := by
  refine Ct.of (by decide) (Nat.le_of_ble_eq_true rfl) (fun p e s m below meth c A ls hx hb hr hml hown hlk hnm hg hP hK hD hE hA hS hl => ?_)
  have hl : lv_has ls 1 [(0, .ref (y 0))] := hl
  refine lv_aload_n hx hb dX9_wood_0 rfl (lv_at hl 0 rfl) ?_
  refine lv_iconst (v := (-1)) hx hb dX9_wood_1 (by decide) ?_
  refine jnI (wr := []) (rnV (rest := []) ⟨hx, hb, hml, hown, hg⟩ (k_X9_woodWithout_0 l V y (-1) py0_1 o10 o11 py0_12 py0_13 py0_14 py2_0 py2_1 py2_2 py2_3 py2_4 py2_5 py2_13 py2_14 py2_15 py2_16 py2_17 fy5 fy6 fy7 fy8 bpy0_1 bpy0_12 bpy0_13 bpy2_1 bpy2_2 bpy2_3 bpy2_4 bpy2_5 bpy2_13 bpy2_14 bpy2_15 bpy2_16 bpy2_17) mt_X9_woodWithout q_5_5 ⟨Nat.le_of_ble_eq_true rfl, Nat.le_of_ble_eq_true rfl⟩ hK hP hD hS hA hE [0, 1, 2, 3, 4, 5] rfl rfl 0 rfl rfl rfl rfl hl.1 rfl (Nat.le_of_ble_eq_true rfl) dX9_wood_2 ⟨Nat.le_of_ble_eq_true rfl, Nat.le_of_ble_eq_true rfl⟩) hP hD hS hA [0, 1, 2, 3, 4, 5] [] rfl rfl rfl (by decide) (fun r_1 w H locs hw hP hD hS => ?_)
  subst hw
  have hP : va_P V.1 vwCl [(y 0, .inr (9, o9_rirrrrrrrrvviii (y 1) py0_1 (y 2) (y 10) (y 19) (y 25) (y 26) (y 30) (y 31) (y 32) o10 o11 py0_12 py0_13 py0_14)), (y 2, .inr (1, o1_iiiiiirrrrrrriiiii py2_0 py2_1 py2_2 py2_3 py2_4 py2_5 (y 3) (y 4) (y 5) (y 6) (y 7) (y 8) (y 9) py2_13 py2_14 py2_15 py2_16 py2_17)), (y 5, aI V 4 fy5), (y 6, aI V 8 fy6), (y 7, aI V 8 fy7), (y 8, aI V 8 fy8)] H := hP
  have hD := cpD hP hD
  exact fiI hx hb hr hlk hK hP hD hS dX9_wood_5 (Nat.le_of_ble_eq_true rfl) (Nat.le_of_ble_eq_true rfl) (rfl)
theorem dX9_needed_0 : decode cX9_needed 0 = .ok (.aload_n 0, 1) := by decide +kernel
theorem dX9_needed_1 : decode cX9_needed 1 = .ok (.iconst (-1), 1) := by decide +kernel
theorem dX9_needed_2 : decode cX9_needed 2 = .ok (.invokevirtual 307, 3) := by decide +kernel
theorem dX9_needed_5 : decode cX9_needed 5 = .ok (.istore_n 1, 1) := by decide +kernel
theorem dX9_needed_6 : decode cX9_needed 6 = .ok (.iconst 0, 1) := by decide +kernel
theorem dX9_needed_7 : decode cX9_needed 7 = .ok (.istore_n 2, 1) := by decide +kernel
theorem dX9_needed_8 : decode cX9_needed 8 = .ok (.iconst 0, 1) := by decide +kernel
theorem dX9_needed_9 : decode cX9_needed 9 = .ok (.istore_n 3, 1) := by decide +kernel
theorem dX9_needed_10 : decode cX9_needed 10 = .ok (.iload_n 3, 1) := by decide +kernel
theorem dX9_needed_11 : decode cX9_needed 11 = .ok (.aload_n 0, 1) := by decide +kernel
theorem dX9_needed_12 : decode cX9_needed 12 = .ok (.getfield 16, 3) := by decide +kernel
theorem dX9_needed_15 : decode cX9_needed 15 = .ok (.getfield 310, 3) := by decide +kernel
theorem dX9_needed_18 : decode cX9_needed 18 = .ok (.if_icmp .ge 24, 3) := by decide +kernel
theorem dX9_needed_42 : decode cX9_needed 42 = .ok (.iload_n 2, 1) := by decide +kernel
theorem dX9_needed_43 : decode cX9_needed 43 = .ok (.ireturn, 1) := by decide +kernel
theorem dX9_needed_21 : decode cX9_needed 21 = .ok (.aload_n 0, 1) := by decide +kernel
theorem dX9_needed_22 : decode cX9_needed 22 = .ok (.iload_n 3, 1) := by decide +kernel
theorem dX9_needed_23 : decode cX9_needed 23 = .ok (.invokevirtual 307, 3) := by decide +kernel
theorem dX9_needed_26 : decode cX9_needed 26 = .ok (.iload_n 1, 1) := by decide +kernel
theorem dX9_needed_27 : decode cX9_needed 27 = .ok (.if_icmp .ge 9, 3) := by decide +kernel
theorem dX9_needed_36 : decode cX9_needed 36 = .ok (.iinc 3 1, 3) := by decide +kernel
theorem dX9_needed_39 : decode cX9_needed 39 = .ok (.goto (-29), 3) := by decide +kernel
theorem dX9_needed_30 : decode cX9_needed 30 = .ok (.iload_n 2, 1) := by decide +kernel
theorem dX9_needed_31 : decode cX9_needed 31 = .ok (.iconst 1, 1) := by decide +kernel
theorem dX9_needed_32 : decode cX9_needed 32 = .ok (.iload_n 3, 1) := by decide +kernel
theorem dX9_needed_33 : decode cX9_needed 33 = .ok (.ishl, 1) := by decide +kernel
theorem dX9_needed_34 : decode cX9_needed 34 = .ok (.ior, 1) := by decide +kernel
theorem dX9_needed_35 : decode cX9_needed 35 = .ok (.istore_n 2, 1) := by decide +kernel
set_option maxHeartbeats 4000000 in
set_option maxRecDepth 100000 in
theorem k_X9_needed_0 (l : Launch) (V : GV) (y : Nat → Nat) (py0_1 : Int32) (o10 : Value) (o11 : Value) (py0_12 : Int32) (py0_13 : Int32) (py0_14 : Int32) (py2_0 : Int32) (py2_1 : Int32) (py2_2 : Int32) (py2_3 : Int32) (py2_4 : Int32) (py2_5 : Int32) (py2_13 : Int32) (py2_14 : Int32) (py2_15 : Int32) (py2_16 : Int32) (py2_17 : Int32) (fy5 : Nat → Int32) (fy6 : Nat → Int32) (fy7 : Nat → Int32) (fy8 : Nat → Int32) (bpy0_1 : iv 0 900 py0_1) (bpy0_12 : iv 0 9999 py0_12) (bpy0_13 : iv 0 9 py0_13) (bpy2_1 : iv 0 4 py2_1) (bpy2_2 : iv 0 4 py2_2) (bpy2_3 : iv 0 8 py2_3) (bpy2_4 : iv 0 9999 py2_4) (bpy2_5 : iv 0 9 py2_5) (bpy2_13 : iv 0 900 py2_13) (bpy2_14 : iv 0 900 py2_14) (bpy2_15 : iv 0 900 py2_15) (bpy2_16 : iv 0 900 py2_16) (bpy2_17 : iv 0 900 py2_17) : Ct l V yX9_needed (.code yX9_needed cX9_needed 4 (some .int)) 3 [.ref (y 0)] [(y 0, .inr (9, o9_rirrrrrrrrvviii (y 1) py0_1 (y 2) (y 10) (y 19) (y 25) (y 26) (y 30) (y 31) (y 32) o10 o11 py0_12 py0_13 py0_14)), (y 2, .inr (1, o1_iiiiiirrrrrrriiiii py2_0 py2_1 py2_2 py2_3 py2_4 py2_5 (y 3) (y 4) (y 5) (y 6) (y 7) (y 8) (y 9) py2_13 py2_14 py2_15 py2_16 py2_17)), (y 5, aI V 4 fy5), (y 6, aI V 8 fy6), (y 7, aI V 8 fy7), (y 8, aI V 8 fy8)] 0 0 (QI V (fun (r : Int32) (w : va_W) => w = [(y 0, .inr (9, o9_rirrrrrrrrvviii (y 1) py0_1 (y 2) (y 10) (y 19) (y 25) (y 26) (y 30) (y 31) (y 32) o10 o11 py0_12 py0_13 py0_14)), (y 2, .inr (1, o1_iiiiiirrrrrrriiiii py2_0 py2_1 py2_2 py2_3 py2_4 py2_5 (y 3) (y 4) (y 5) (y 6) (y 7) (y 8) (y 9) py2_13 py2_14 py2_15 py2_16 py2_17)), (y 5, aI V 4 fy5), (y 6, aI V 8 fy6), (y 7, aI V 8 fy7), (y 8, aI V 8 fy8)])) := by
  refine Ct.of (by decide) (Nat.le_of_ble_eq_true rfl) (fun p e s m below meth c A ls hx hb hr hml hown hlk hnm hg hP hK hD hE hA hS hl => ?_)
  have hl : lv_has ls 4 [(0, .ref (y 0))] := hl
  refine lv_aload_n hx hb dX9_needed_0 rfl (lv_at hl 0 rfl) ?_
  refine lv_iconst (v := (-1)) hx hb dX9_needed_1 (by decide) ?_
  refine jnI (wr := []) (rnV (rest := []) ⟨hx, hb, hml, hown, hg⟩ (k_X9_woodWithout_0 l V y (-1) py0_1 o10 o11 py0_12 py0_13 py0_14 py2_0 py2_1 py2_2 py2_3 py2_4 py2_5 py2_13 py2_14 py2_15 py2_16 py2_17 fy5 fy6 fy7 fy8 bpy0_1 bpy0_12 bpy0_13 bpy2_1 bpy2_2 bpy2_3 bpy2_4 bpy2_5 bpy2_13 bpy2_14 bpy2_15 bpy2_16 bpy2_17) mt_X9_woodWithout q_5_5 ⟨Nat.le_of_ble_eq_true rfl, Nat.le_of_ble_eq_true rfl⟩ hK hP hD hS hA hE [0, 1, 2, 3, 4, 5] rfl rfl 0 rfl rfl rfl rfl hl.1 rfl (Nat.le_of_ble_eq_true rfl) dX9_needed_2 ⟨Nat.le_of_ble_eq_true rfl, Nat.le_of_ble_eq_true rfl⟩) hP hD hS hA [0, 1, 2, 3, 4, 5] [] rfl rfl rfl (by decide) (fun r_1 w H locs hw hP hD hS => ?_)
  subst hw
  have hP : va_P V.1 vwCl [(y 0, .inr (9, o9_rirrrrrrrrvviii (y 1) py0_1 (y 2) (y 10) (y 19) (y 25) (y 26) (y 30) (y 31) (y 32) o10 o11 py0_12 py0_13 py0_14)), (y 2, .inr (1, o1_iiiiiirrrrrrriiiii py2_0 py2_1 py2_2 py2_3 py2_4 py2_5 (y 3) (y 4) (y 5) (y 6) (y 7) (y 8) (y 9) py2_13 py2_14 py2_15 py2_16 py2_17)), (y 5, aI V 4 fy5), (y 6, aI V 8 fy6), (y 7, aI V 8 fy7), (y 8, aI V 8 fy8)] H := hP
  have hD := cpD hP hD
  refine lv_istore_n (lv' := [(1, .int r_1), (0, .ref (y 0))]) hx hb dX9_needed_5 rfl hl (by decide) rfl (fun ls hl => ?_)
  refine lv_iconst (v := 0) hx hb dX9_needed_6 (by decide) ?_
  refine lv_istore_n (lv' := [(2, .int 0), (1, .int r_1), (0, .ref (y 0))]) hx hb dX9_needed_7 rfl hl (by decide) rfl (fun ls hl => ?_)
  refine lv_iconst (v := 0) hx hb dX9_needed_8 (by decide) ?_
  refine lv_istore_n (lv' := [(3, .int 0), (2, .int 0), (1, .int r_1), (0, .ref (y 0))]) hx hb dX9_needed_9 rfl hl (by decide) rfl (fun ls hl => ?_)
  refine loopF (X := fun (n_4 : Nat) (H : Heap) (locs : List Loc) (ls : Array Slot) => ∃ (u_2 : Int32) (u_3 : Int32), (iv 0 2147483647 u_2) ∧ n_4 = (2147483647 - (u_2 : Int32).toInt).toNat ∧ va_P V.1 vwCl [(y 0, .inr (9, o9_rirrrrrrrrvviii (y 1) py0_1 (y 2) (y 10) (y 19) (y 25) (y 26) (y 30) (y 31) (y 32) o10 o11 py0_12 py0_13 py0_14)), (y 2, .inr (1, o1_iiiiiirrrrrrriiiii py2_0 py2_1 py2_2 py2_3 py2_4 py2_5 (y 3) (y 4) (y 5) (y 6) (y 7) (y 8) (y 9) py2_13 py2_14 py2_15 py2_16 py2_17)), (y 5, aI V 4 fy5), (y 6, aI V 8 fy6), (y 7, aI V 8 fy7), (y 8, aI V 8 fy8)] H ∧ va_D A [(y 0, .inr (9, o9_rirrrrrrrrvviii (y 1) py0_1 (y 2) (y 10) (y 19) (y 25) (y 26) (y 30) (y 31) (y 32) o10 o11 py0_12 py0_13 py0_14)), (y 2, .inr (1, o1_iiiiiirrrrrrriiiii py2_0 py2_1 py2_2 py2_3 py2_4 py2_5 (y 3) (y 4) (y 5) (y 6) (y 7) (y 8) (y 9) py2_13 py2_14 py2_15 py2_16 py2_17)), (y 5, aI V 4 fy5), (y 6, aI V 8 fy6), (y 7, aI V 8 fy7), (y 8, aI V 8 fy8)] ∧ va_S A s.heap H locs ∧ lv_has ls 4 [(3, .int u_2), (2, .int u_3), (1, .int r_1), (0, .ref (y 0))]) (g := fun ls => F0 m 10 ls []) (fun n_4 H locs ls hX ihn_4 => ?_) _ ⟨0, 0, (iv_c (0 : Int32) (by decide)), rfl, hP, hD, hS, lv_sub hl [0, 1, 2, 3] rfl⟩
  obtain ⟨u_2, u_3, bu_2, en_4, hP, hD, hS, hl⟩ := hX
  refine lv_iload_n hx hb dX9_needed_10 rfl (lv_at hl 0 rfl) ?_
  refine lv_aload_n hx hb dX9_needed_11 rfl (lv_at hl 3 rfl) ?_
  refine va_get (ci := 9) (v := .ref (y 2)) (C := RX9) (T := TX9) (N := 15) hx hb hg inX9 hown hK hP 0 rfl rfl 2 (by decide) (hg _ q_2_38) (fun _ h9 => h9) rfl dX9_needed_12 ?_
  refine va_get (ci := 1) (v := .int py2_3) (C := RX1) (T := TX1) (N := 18) hx hb hg inX1 hown hK hP 1 rfl rfl 3 (by decide) (hg _ q_1_47) (fun _ h9 => h9) rfl dX9_needed_15 ?_
  refine lv_icmp_ge (tgt := 42) hx hb dX9_needed_18 (by decide) (fun c_5 => ?_) (fun c_5 => ?_)
  · refine lv_iload_n hx hb dX9_needed_42 rfl (lv_at hl 1 rfl) ?_
    exact fiI hx hb hr hlk hK hP hD hS dX9_needed_43 (Nat.le_of_ble_eq_true rfl) (Nat.le_of_ble_eq_true rfl) (rfl)
  · have b_6 : iv 0 7 u_2 := iv_l1 (Int32.not_le.mp c_5) bu_2 bpy2_3 (by decide)
    have b_7 : iv 1 8 py2_3 := iv_l2 (Int32.not_le.mp c_5) bu_2 bpy2_3 (by decide)
    refine lv_aload_n hx hb dX9_needed_21 rfl (lv_at hl 3 rfl) ?_
    refine lv_iload_n hx hb dX9_needed_22 rfl (lv_at hl 0 rfl) ?_
    refine jnI (wr := []) (rnV (rest := []) ⟨hx, hb, hml, hown, hg⟩ (k_X9_woodWithout_0 l V y u_2 py0_1 o10 o11 py0_12 py0_13 py0_14 py2_0 py2_1 py2_2 py2_3 py2_4 py2_5 py2_13 py2_14 py2_15 py2_16 py2_17 fy5 fy6 fy7 fy8 bpy0_1 bpy0_12 bpy0_13 bpy2_1 bpy2_2 (iv_w b_7 (by decide)) bpy2_4 bpy2_5 bpy2_13 bpy2_14 bpy2_15 bpy2_16 bpy2_17) mt_X9_woodWithout q_5_5 ⟨Nat.le_of_ble_eq_true rfl, Nat.le_of_ble_eq_true rfl⟩ hK hP hD hS hA hE [0, 1, 2, 3, 4, 5] rfl rfl 0 rfl rfl rfl rfl hl.1 rfl (Nat.le_of_ble_eq_true rfl) dX9_needed_23 ⟨Nat.le_of_ble_eq_true rfl, Nat.le_of_ble_eq_true rfl⟩) hP hD hS hA [0, 1, 2, 3, 4, 5] [] rfl rfl rfl (by decide) (fun r_8 w H locs hw hP hD hS => ?_)
    subst hw
    have hP : va_P V.1 vwCl [(y 0, .inr (9, o9_rirrrrrrrrvviii (y 1) py0_1 (y 2) (y 10) (y 19) (y 25) (y 26) (y 30) (y 31) (y 32) o10 o11 py0_12 py0_13 py0_14)), (y 2, .inr (1, o1_iiiiiirrrrrrriiiii py2_0 py2_1 py2_2 py2_3 py2_4 py2_5 (y 3) (y 4) (y 5) (y 6) (y 7) (y 8) (y 9) py2_13 py2_14 py2_15 py2_16 py2_17)), (y 5, aI V 4 fy5), (y 6, aI V 8 fy6), (y 7, aI V 8 fy7), (y 8, aI V 8 fy8)] H := hP
    have hD := cpD hP hD
    refine lv_iload_n hx hb dX9_needed_26 rfl (lv_at hl 2 rfl) ?_
    refine lv_icmp_ge (tgt := 36) hx hb dX9_needed_27 (by decide) (fun c_9 => ?_) (fun c_9 => ?_)
    · obtain ⟨x_10, ex_10⟩ : ∃ z9 : Int32, z9 = u_2 + 1 := ⟨_, rfl⟩
      have bx_10 : iv 1 8 x_10 := by rw [ex_10]; exact iv_add b_6 (iv_c (1 : Int32) (a := 1) (b := 1) (by decide)) (by decide)
      refine lv_iinc (v := x_10) (lv' := [(3, .int x_10), (2, .int u_3), (1, .int r_1), (0, .ref (y 0))]) hx hb dX9_needed_36 hl (k := 0) rfl (by rw [ex_10]; rfl) (by decide) rfl (fun ls hl => ?_)
      refine lv_goto (tgt := 10) hx hb dX9_needed_39 (by decide) ?_
      exact ihn_4 _ _ _ _ (by rw [en_4, ex_10]; exact mu_up b_6 (by decide)) ⟨x_10, u_3, (iv_w bx_10 (by decide)), rfl, hP, hD, hS, lv_sub hl [0, 1, 2, 3] rfl⟩
    · have b_11 : iv (-2147483648) 2147483646 r_8 := iv_l1 (Int32.not_le.mp c_9) (iv_top r_8) (iv_top r_1) (by decide)
      have b_12 : iv (-2147483647) 2147483647 r_1 := iv_l2 (Int32.not_le.mp c_9) (iv_top r_8) (iv_top r_1) (by decide)
      refine lv_iload_n hx hb dX9_needed_30 rfl (lv_at hl 1 rfl) ?_
      refine lv_iconst (v := 1) hx hb dX9_needed_31 (by decide) ?_
      refine lv_iload_n hx hb dX9_needed_32 rfl (lv_at hl 0 rfl) ?_
      refine lv_ishl hx hb dX9_needed_33 ?_
      refine lv_topi (fun x_13 ex_13 => ?_)
      refine lv_ior hx hb dX9_needed_34 ?_
      refine lv_topi (fun x_14 ex_14 => ?_)
      refine lv_istore_n (lv' := [(2, .int x_14), (3, .int u_2), (1, .int r_1), (0, .ref (y 0))]) hx hb dX9_needed_35 rfl hl (by decide) rfl (fun ls hl => ?_)
      obtain ⟨x_15, ex_15⟩ : ∃ z9 : Int32, z9 = u_2 + 1 := ⟨_, rfl⟩
      have bx_15 : iv 1 8 x_15 := by rw [ex_15]; exact iv_add b_6 (iv_c (1 : Int32) (a := 1) (b := 1) (by decide)) (by decide)
      refine lv_iinc (v := x_15) (lv' := [(3, .int x_15), (2, .int x_14), (1, .int r_1), (0, .ref (y 0))]) hx hb dX9_needed_36 hl (k := 1) rfl (by rw [ex_15]; rfl) (by decide) rfl (fun ls hl => ?_)
      refine lv_goto (tgt := 10) hx hb dX9_needed_39 (by decide) ?_
      exact ihn_4 _ _ _ _ (by rw [en_4, ex_15]; exact mu_up b_6 (by decide)) ⟨x_15, x_14, (iv_w bx_15 (by decide)), rfl, hP, hD, hS, lv_sub hl [0, 1, 2, 3] rfl⟩
theorem dX9_refusalOfTold_0 : decode cX9_refusalOfTold 0 = .ok (.iload_n 1, 1) := by decide +kernel
theorem dX9_refusalOfTold_1 : decode cX9_refusalOfTold 1 = .ok (.invokestatic 205, 3) := by decide +kernel
theorem dX9_refusalOfTold_4 : decode cX9_refusalOfTold 4 = .ok (.ifCond .eq 11, 3) := by decide +kernel
theorem dX9_refusalOfTold_15 : decode cX9_refusalOfTold 15 = .ok (.bipush (-2), 2) := by decide +kernel
theorem dX9_refusalOfTold_17 : decode cX9_refusalOfTold 17 = .ok (.ireturn, 1) := by decide +kernel
theorem dX9_refusalOfTold_7 : decode cX9_refusalOfTold 7 = .ok (.aload_n 0, 1) := by decide +kernel
theorem dX9_refusalOfTold_8 : decode cX9_refusalOfTold 8 = .ok (.iload_n 2, 1) := by decide +kernel
theorem dX9_refusalOfTold_9 : decode cX9_refusalOfTold 9 = .ok (.invokevirtual 128, 3) := by decide +kernel
theorem dX9_refusalOfTold_12 : decode cX9_refusalOfTold 12 = .ok (.ifCond .ne 6, 3) := by decide +kernel
theorem dX9_refusalOfTold_18 : decode cX9_refusalOfTold 18 = .ok (.aload_n 0, 1) := by decide +kernel
theorem dX9_refusalOfTold_19 : decode cX9_refusalOfTold 19 = .ok (.getfield 54, 3) := by decide +kernel
theorem dX9_refusalOfTold_22 : decode cX9_refusalOfTold 22 = .ok (.iload_n 1, 1) := by decide +kernel
theorem dX9_refusalOfTold_23 : decode cX9_refusalOfTold 23 = .ok (.aaload, 1) := by decide +kernel
theorem dX9_refusalOfTold_24 : decode cX9_refusalOfTold 24 = .ok (.astore 4, 2) := by decide +kernel
theorem dX9_refusalOfTold_26 : decode cX9_refusalOfTold 26 = .ok (.aload 4, 2) := by decide +kernel
theorem dX9_refusalOfTold_28 : decode cX9_refusalOfTold 28 = .ok (.invokevirtual 208, 3) := by decide +kernel
theorem dX9_refusalOfTold_31 : decode cX9_refusalOfTold 31 = .ok (.ifCond .eq 6, 3) := by decide +kernel
theorem dX9_refusalOfTold_37 : decode cX9_refusalOfTold 37 = .ok (.aload 4, 2) := by decide +kernel
theorem dX9_refusalOfTold_39 : decode cX9_refusalOfTold 39 = .ok (.getfield 200, 3) := by decide +kernel
theorem dX9_refusalOfTold_42 : decode cX9_refusalOfTold 42 = .ok (.iconst 1, 1) := by decide +kernel
theorem dX9_refusalOfTold_43 : decode cX9_refusalOfTold 43 = .ok (.if_icmp .lt 13, 3) := by decide +kernel
theorem dX9_refusalOfTold_56 : decode cX9_refusalOfTold 56 = .ok (.bipush (-4), 2) := by decide +kernel
theorem dX9_refusalOfTold_58 : decode cX9_refusalOfTold 58 = .ok (.ireturn, 1) := by decide +kernel
theorem dX9_refusalOfTold_46 : decode cX9_refusalOfTold 46 = .ok (.aload 4, 2) := by decide +kernel
theorem dX9_refusalOfTold_48 : decode cX9_refusalOfTold 48 = .ok (.getfield 200, 3) := by decide +kernel
theorem dX9_refusalOfTold_51 : decode cX9_refusalOfTold 51 = .ok (.bipush 8, 2) := by decide +kernel
theorem dX9_refusalOfTold_53 : decode cX9_refusalOfTold 53 = .ok (.if_icmp .le 6, 3) := by decide +kernel
theorem dX9_refusalOfTold_59 : decode cX9_refusalOfTold 59 = .ok (.iconst 0, 1) := by decide +kernel
theorem dX9_refusalOfTold_60 : decode cX9_refusalOfTold 60 = .ok (.istore 5, 2) := by decide +kernel
theorem dX9_refusalOfTold_62 : decode cX9_refusalOfTold 62 = .ok (.iload 5, 2) := by decide +kernel
theorem dX9_refusalOfTold_64 : decode cX9_refusalOfTold 64 = .ok (.aload 4, 2) := by decide +kernel
theorem dX9_refusalOfTold_66 : decode cX9_refusalOfTold 66 = .ok (.getfield 200, 3) := by decide +kernel
theorem dX9_refusalOfTold_69 : decode cX9_refusalOfTold 69 = .ok (.if_icmp .ge 41, 3) := by decide +kernel
theorem dX9_refusalOfTold_110 : decode cX9_refusalOfTold 110 = .ok (.iconst 0, 1) := by decide +kernel
theorem dX9_refusalOfTold_111 : decode cX9_refusalOfTold 111 = .ok (.ireturn, 1) := by decide +kernel
theorem dX9_refusalOfTold_72 : decode cX9_refusalOfTold 72 = .ok (.aload 4, 2) := by decide +kernel
theorem dX9_refusalOfTold_74 : decode cX9_refusalOfTold 74 = .ok (.getfield 201, 3) := by decide +kernel
theorem dX9_refusalOfTold_77 : decode cX9_refusalOfTold 77 = .ok (.iload 5, 2) := by decide +kernel
theorem dX9_refusalOfTold_79 : decode cX9_refusalOfTold 79 = .ok (.laload, 1) := by decide +kernel
theorem dX9_refusalOfTold_80 : decode cX9_refusalOfTold 80 = .ok (.iload_n 3, 1) := by decide +kernel
theorem dX9_refusalOfTold_81 : decode cX9_refusalOfTold 81 = .ok (.i2l, 1) := by decide +kernel
theorem dX9_refusalOfTold_82 : decode cX9_refusalOfTold 82 = .ok (.lcmp, 1) := by decide +kernel
theorem dX9_refusalOfTold_83 : decode cX9_refusalOfTold 83 = .ok (.ifCond .lt 18, 3) := by decide +kernel
theorem dX9_refusalOfTold_101 : decode cX9_refusalOfTold 101 = .ok (.bipush (-3), 2) := by decide +kernel
theorem dX9_refusalOfTold_103 : decode cX9_refusalOfTold 103 = .ok (.ireturn, 1) := by decide +kernel
theorem dX9_refusalOfTold_86 : decode cX9_refusalOfTold 86 = .ok (.aload 4, 2) := by decide +kernel
theorem dX9_refusalOfTold_88 : decode cX9_refusalOfTold 88 = .ok (.getfield 201, 3) := by decide +kernel
theorem dX9_refusalOfTold_91 : decode cX9_refusalOfTold 91 = .ok (.iload 5, 2) := by decide +kernel
theorem dX9_refusalOfTold_93 : decode cX9_refusalOfTold 93 = .ok (.laload, 1) := by decide +kernel
theorem q_5_25 : Cond.constantLong "BeaconDelay" 316 (4 : Int64) ∈ gw := gw_5 (i := 25) (by decide +kernel) rfl
theorem dX9_refusalOfTold_94 : decode cX9_refusalOfTold 94 = .ok (.ldc2_w 316, 3) := by decide +kernel
theorem dX9_refusalOfTold_97 : decode cX9_refusalOfTold 97 = .ok (.lcmp, 1) := by decide +kernel
theorem dX9_refusalOfTold_98 : decode cX9_refusalOfTold 98 = .ok (.ifCond .le 6, 3) := by decide +kernel
theorem dX9_refusalOfTold_104 : decode cX9_refusalOfTold 104 = .ok (.iinc 5 1, 3) := by decide +kernel
theorem dX9_refusalOfTold_107 : decode cX9_refusalOfTold 107 = .ok (.goto (-45), 3) := by decide +kernel
theorem dX9_refusalOfTold_34 : decode cX9_refusalOfTold 34 = .ok (.bipush (-6), 2) := by decide +kernel
theorem dX9_refusalOfTold_36 : decode cX9_refusalOfTold 36 = .ok (.ireturn, 1) := by decide +kernel
set_option maxHeartbeats 4000000 in
set_option maxRecDepth 100000 in
theorem k_X9_refusalOfTold_0 (l : Launch) (V : GV) (y : Nat → Nat) (a1 : Int32) (a2 : Int32) (a3 : Int32) (py0_1 : Int32) (o10 : Value) (o11 : Value) (py0_12 : Int32) (py0_13 : Int32) (py0_14 : Int32) (py2_0 : Int32) (py2_1 : Int32) (py2_2 : Int32) (py2_3 : Int32) (py2_4 : Int32) (py2_5 : Int32) (py2_13 : Int32) (py2_14 : Int32) (py2_15 : Int32) (py2_16 : Int32) (py2_17 : Int32) (py33_1 : Int32) (py33_2 : Int32) (fy34 : Nat → Int64) (py35_1 : Int32) (py35_2 : Int32) (fy36 : Nat → Int64) (py37_1 : Int32) (py37_2 : Int32) (fy38 : Nat → Int64) (py39_1 : Int32) (py39_2 : Int32) (fy40 : Nat → Int64) (bpy0_1 : iv 0 900 py0_1) (bpy0_12 : iv 0 9999 py0_12) (bpy0_13 : iv 0 9 py0_13) (bpy2_1 : iv 0 4 py2_1) (bpy2_2 : iv 0 4 py2_2) (bpy2_3 : iv 0 8 py2_3) (bpy2_4 : iv 0 9999 py2_4) (bpy2_5 : iv 0 9 py2_5) (bpy2_13 : iv 0 900 py2_13) (bpy2_14 : iv 0 900 py2_14) (bpy2_15 : iv 0 900 py2_15) (bpy2_16 : iv 0 900 py2_16) (bpy2_17 : iv 0 900 py2_17) (bpy33_1 : iv (-1) 40 py33_1) (bpy35_1 : iv (-1) 40 py35_1) (bpy37_1 : iv (-1) 40 py37_1) (bpy39_1 : iv (-1) 40 py39_1) : Ct l V yX9_refusalOfTold (.code yX9_refusalOfTold cX9_refusalOfTold 6 (some .int)) 2 [.ref (y 0), .int a1, .int a2, .int a3] [(y 0, .inr (9, o9_rirrrrrrrrvviii (y 1) py0_1 (y 2) (y 10) (y 19) (y 25) (y 26) (y 30) (y 31) (y 32) o10 o11 py0_12 py0_13 py0_14)), (y 2, .inr (1, o1_iiiiiirrrrrrriiiii py2_0 py2_1 py2_2 py2_3 py2_4 py2_5 (y 3) (y 4) (y 5) (y 6) (y 7) (y 8) (y 9) py2_13 py2_14 py2_15 py2_16 py2_17)), (y 30, aT V 4 (va_up (va_up (va_up (va_up (fun _ => none) 0 (some (y 33))) 1 (some (y 35))) 2 (some (y 37))) 3 (some (y 39)))), (y 33, .inr (7, o7_rii (y 34) py33_1 py33_2)), (y 34, aJ V 40 fy34), (y 35, .inr (7, o7_rii (y 36) py35_1 py35_2)), (y 36, aJ V 40 fy36), (y 37, .inr (7, o7_rii (y 38) py37_1 py37_2)), (y 38, aJ V 40 fy38), (y 39, .inr (7, o7_rii (y 40) py39_1 py39_2)), (y 40, aJ V 40 fy40)] 0 0 (QI V (fun (r : Int32) (w : va_W) => ((a1 < 0) ∧ r = (-2) ∧ (-2) = rfF a1 a2 a3 py2_1 py33_1 py35_1 py37_1 py39_1 fy34 fy36 fy38 fy40 ∧ w = [(y 0, .inr (9, o9_rirrrrrrrrvviii (y 1) py0_1 (y 2) (y 10) (y 19) (y 25) (y 26) (y 30) (y 31) (y 32) o10 o11 py0_12 py0_13 py0_14)), (y 2, .inr (1, o1_iiiiiirrrrrrriiiii py2_0 py2_1 py2_2 py2_3 py2_4 py2_5 (y 3) (y 4) (y 5) (y 6) (y 7) (y 8) (y 9) py2_13 py2_14 py2_15 py2_16 py2_17)), (y 30, aT V 4 (va_up (va_up (va_up (va_up (fun _ => none) 0 (some (y 33))) 1 (some (y 35))) 2 (some (y 37))) 3 (some (y 39)))), (y 33, .inr (7, o7_rii (y 34) py33_1 py33_2)), (y 34, aJ V 40 fy34), (y 35, .inr (7, o7_rii (y 36) py35_1 py35_2)), (y 36, aJ V 40 fy36), (y 37, .inr (7, o7_rii (y 38) py37_1 py37_2)), (y 38, aJ V 40 fy38), (y 39, .inr (7, o7_rii (y 40) py39_1 py39_2)), (y 40, aJ V 40 fy40)]) ∨ ((¬ a1 < 0) ∧ (4 ≤ a1) ∧ r = (-2) ∧ (-2) = rfF a1 a2 a3 py2_1 py33_1 py35_1 py37_1 py39_1 fy34 fy36 fy38 fy40 ∧ w = [(y 0, .inr (9, o9_rirrrrrrrrvviii (y 1) py0_1 (y 2) (y 10) (y 19) (y 25) (y 26) (y 30) (y 31) (y 32) o10 o11 py0_12 py0_13 py0_14)), (y 2, .inr (1, o1_iiiiiirrrrrrriiiii py2_0 py2_1 py2_2 py2_3 py2_4 py2_5 (y 3) (y 4) (y 5) (y 6) (y 7) (y 8) (y 9) py2_13 py2_14 py2_15 py2_16 py2_17)), (y 30, aT V 4 (va_up (va_up (va_up (va_up (fun _ => none) 0 (some (y 33))) 1 (some (y 35))) 2 (some (y 37))) 3 (some (y 39)))), (y 33, .inr (7, o7_rii (y 34) py33_1 py33_2)), (y 34, aJ V 40 fy34), (y 35, .inr (7, o7_rii (y 36) py35_1 py35_2)), (y 36, aJ V 40 fy36), (y 37, .inr (7, o7_rii (y 38) py37_1 py37_2)), (y 38, aJ V 40 fy38), (y 39, .inr (7, o7_rii (y 40) py39_1 py39_2)), (y 40, aJ V 40 fy40)]) ∨ ((¬ a1 < 0) ∧ (¬ 4 ≤ a1) ∧ (a2 < 0) ∧ r = (-2) ∧ (-2) = rfF a1 a2 a3 py2_1 py33_1 py35_1 py37_1 py39_1 fy34 fy36 fy38 fy40 ∧ w = [(y 0, .inr (9, o9_rirrrrrrrrvviii (y 1) py0_1 (y 2) (y 10) (y 19) (y 25) (y 26) (y 30) (y 31) (y 32) o10 o11 py0_12 py0_13 py0_14)), (y 2, .inr (1, o1_iiiiiirrrrrrriiiii py2_0 py2_1 py2_2 py2_3 py2_4 py2_5 (y 3) (y 4) (y 5) (y 6) (y 7) (y 8) (y 9) py2_13 py2_14 py2_15 py2_16 py2_17)), (y 30, aT V 4 (va_up (va_up (va_up (va_up (fun _ => none) 0 (some (y 33))) 1 (some (y 35))) 2 (some (y 37))) 3 (some (y 39)))), (y 33, .inr (7, o7_rii (y 34) py33_1 py33_2)), (y 34, aJ V 40 fy34), (y 35, .inr (7, o7_rii (y 36) py35_1 py35_2)), (y 36, aJ V 40 fy36), (y 37, .inr (7, o7_rii (y 38) py37_1 py37_2)), (y 38, aJ V 40 fy38), (y 39, .inr (7, o7_rii (y 40) py39_1 py39_2)), (y 40, aJ V 40 fy40)]) ∨ ((¬ a1 < 0) ∧ (¬ 4 ≤ a1) ∧ (¬ a2 < 0) ∧ (py2_1 ≤ a2) ∧ r = (-2) ∧ (-2) = rfF a1 a2 a3 py2_1 py33_1 py35_1 py37_1 py39_1 fy34 fy36 fy38 fy40 ∧ w = [(y 0, .inr (9, o9_rirrrrrrrrvviii (y 1) py0_1 (y 2) (y 10) (y 19) (y 25) (y 26) (y 30) (y 31) (y 32) o10 o11 py0_12 py0_13 py0_14)), (y 2, .inr (1, o1_iiiiiirrrrrrriiiii py2_0 py2_1 py2_2 py2_3 py2_4 py2_5 (y 3) (y 4) (y 5) (y 6) (y 7) (y 8) (y 9) py2_13 py2_14 py2_15 py2_16 py2_17)), (y 30, aT V 4 (va_up (va_up (va_up (va_up (fun _ => none) 0 (some (y 33))) 1 (some (y 35))) 2 (some (y 37))) 3 (some (y 39)))), (y 33, .inr (7, o7_rii (y 34) py33_1 py33_2)), (y 34, aJ V 40 fy34), (y 35, .inr (7, o7_rii (y 36) py35_1 py35_2)), (y 36, aJ V 40 fy36), (y 37, .inr (7, o7_rii (y 38) py37_1 py37_2)), (y 38, aJ V 40 fy38), (y 39, .inr (7, o7_rii (y 40) py39_1 py39_2)), (y 40, aJ V 40 fy40)]) ∨ ((¬ a1 < 0) ∧ (¬ 4 ≤ a1) ∧ (¬ a2 < 0) ∧ (¬ py2_1 ≤ a2) ∧ (a1 = 0) ∧ (0 ≤ py33_1) ∧ (py33_1 < 1) ∧ r = (-4) ∧ (-4) = rfF a1 a2 a3 py2_1 py33_1 py35_1 py37_1 py39_1 fy34 fy36 fy38 fy40 ∧ w = [(y 0, .inr (9, o9_rirrrrrrrrvviii (y 1) py0_1 (y 2) (y 10) (y 19) (y 25) (y 26) (y 30) (y 31) (y 32) o10 o11 py0_12 py0_13 py0_14)), (y 2, .inr (1, o1_iiiiiirrrrrrriiiii py2_0 py2_1 py2_2 py2_3 py2_4 py2_5 (y 3) (y 4) (y 5) (y 6) (y 7) (y 8) (y 9) py2_13 py2_14 py2_15 py2_16 py2_17)), (y 30, aT V 4 (va_up (va_up (va_up (va_up (fun _ => none) 0 (some (y 33))) 1 (some (y 35))) 2 (some (y 37))) 3 (some (y 39)))), (y 33, .inr (7, o7_rii (y 34) py33_1 py33_2)), (y 34, aJ V 40 fy34), (y 35, .inr (7, o7_rii (y 36) py35_1 py35_2)), (y 36, aJ V 40 fy36), (y 37, .inr (7, o7_rii (y 38) py37_1 py37_2)), (y 38, aJ V 40 fy38), (y 39, .inr (7, o7_rii (y 40) py39_1 py39_2)), (y 40, aJ V 40 fy40)]) ∨ ((¬ a1 < 0) ∧ (¬ 4 ≤ a1) ∧ (¬ a2 < 0) ∧ (¬ py2_1 ≤ a2) ∧ (a1 = 0) ∧ (0 ≤ py33_1) ∧ (¬ py33_1 < 1) ∧ (py33_1 ≤ 8) ∧ r = 0 ∧ 0 = rfF a1 a2 a3 py2_1 py33_1 py35_1 py37_1 py39_1 fy34 fy36 fy38 fy40 ∧ w = [(y 0, .inr (9, o9_rirrrrrrrrvviii (y 1) py0_1 (y 2) (y 10) (y 19) (y 25) (y 26) (y 30) (y 31) (y 32) o10 o11 py0_12 py0_13 py0_14)), (y 2, .inr (1, o1_iiiiiirrrrrrriiiii py2_0 py2_1 py2_2 py2_3 py2_4 py2_5 (y 3) (y 4) (y 5) (y 6) (y 7) (y 8) (y 9) py2_13 py2_14 py2_15 py2_16 py2_17)), (y 30, aT V 4 (va_up (va_up (va_up (va_up (fun _ => none) 0 (some (y 33))) 1 (some (y 35))) 2 (some (y 37))) 3 (some (y 39)))), (y 33, .inr (7, o7_rii (y 34) py33_1 py33_2)), (y 34, aJ V 40 fy34), (y 35, .inr (7, o7_rii (y 36) py35_1 py35_2)), (y 36, aJ V 40 fy36), (y 37, .inr (7, o7_rii (y 38) py37_1 py37_2)), (y 38, aJ V 40 fy38), (y 39, .inr (7, o7_rii (y 40) py39_1 py39_2)), (y 40, aJ V 40 fy40)]) ∨ ((¬ a1 < 0) ∧ (¬ 4 ≤ a1) ∧ (¬ a2 < 0) ∧ (¬ py2_1 ≤ a2) ∧ (a1 = 0) ∧ (0 ≤ py33_1) ∧ (¬ py33_1 < 1) ∧ (py33_1 ≤ 8) ∧ r = (-3) ∧ (-3) = rfF a1 a2 a3 py2_1 py33_1 py35_1 py37_1 py39_1 fy34 fy36 fy38 fy40 ∧ w = [(y 0, .inr (9, o9_rirrrrrrrrvviii (y 1) py0_1 (y 2) (y 10) (y 19) (y 25) (y 26) (y 30) (y 31) (y 32) o10 o11 py0_12 py0_13 py0_14)), (y 2, .inr (1, o1_iiiiiirrrrrrriiiii py2_0 py2_1 py2_2 py2_3 py2_4 py2_5 (y 3) (y 4) (y 5) (y 6) (y 7) (y 8) (y 9) py2_13 py2_14 py2_15 py2_16 py2_17)), (y 30, aT V 4 (va_up (va_up (va_up (va_up (fun _ => none) 0 (some (y 33))) 1 (some (y 35))) 2 (some (y 37))) 3 (some (y 39)))), (y 33, .inr (7, o7_rii (y 34) py33_1 py33_2)), (y 34, aJ V 40 fy34), (y 35, .inr (7, o7_rii (y 36) py35_1 py35_2)), (y 36, aJ V 40 fy36), (y 37, .inr (7, o7_rii (y 38) py37_1 py37_2)), (y 38, aJ V 40 fy38), (y 39, .inr (7, o7_rii (y 40) py39_1 py39_2)), (y 40, aJ V 40 fy40)]) ∨ ((¬ a1 < 0) ∧ (¬ 4 ≤ a1) ∧ (¬ a2 < 0) ∧ (¬ py2_1 ≤ a2) ∧ (a1 = 0) ∧ (0 ≤ py33_1) ∧ (¬ py33_1 < 1) ∧ (¬ py33_1 ≤ 8) ∧ r = (-4) ∧ (-4) = rfF a1 a2 a3 py2_1 py33_1 py35_1 py37_1 py39_1 fy34 fy36 fy38 fy40 ∧ w = [(y 0, .inr (9, o9_rirrrrrrrrvviii (y 1) py0_1 (y 2) (y 10) (y 19) (y 25) (y 26) (y 30) (y 31) (y 32) o10 o11 py0_12 py0_13 py0_14)), (y 2, .inr (1, o1_iiiiiirrrrrrriiiii py2_0 py2_1 py2_2 py2_3 py2_4 py2_5 (y 3) (y 4) (y 5) (y 6) (y 7) (y 8) (y 9) py2_13 py2_14 py2_15 py2_16 py2_17)), (y 30, aT V 4 (va_up (va_up (va_up (va_up (fun _ => none) 0 (some (y 33))) 1 (some (y 35))) 2 (some (y 37))) 3 (some (y 39)))), (y 33, .inr (7, o7_rii (y 34) py33_1 py33_2)), (y 34, aJ V 40 fy34), (y 35, .inr (7, o7_rii (y 36) py35_1 py35_2)), (y 36, aJ V 40 fy36), (y 37, .inr (7, o7_rii (y 38) py37_1 py37_2)), (y 38, aJ V 40 fy38), (y 39, .inr (7, o7_rii (y 40) py39_1 py39_2)), (y 40, aJ V 40 fy40)]) ∨ ((¬ a1 < 0) ∧ (¬ 4 ≤ a1) ∧ (¬ a2 < 0) ∧ (¬ py2_1 ≤ a2) ∧ (a1 = 0) ∧ (¬ 0 ≤ py33_1) ∧ r = (-6) ∧ (-6) = rfF a1 a2 a3 py2_1 py33_1 py35_1 py37_1 py39_1 fy34 fy36 fy38 fy40 ∧ w = [(y 0, .inr (9, o9_rirrrrrrrrvviii (y 1) py0_1 (y 2) (y 10) (y 19) (y 25) (y 26) (y 30) (y 31) (y 32) o10 o11 py0_12 py0_13 py0_14)), (y 2, .inr (1, o1_iiiiiirrrrrrriiiii py2_0 py2_1 py2_2 py2_3 py2_4 py2_5 (y 3) (y 4) (y 5) (y 6) (y 7) (y 8) (y 9) py2_13 py2_14 py2_15 py2_16 py2_17)), (y 30, aT V 4 (va_up (va_up (va_up (va_up (fun _ => none) 0 (some (y 33))) 1 (some (y 35))) 2 (some (y 37))) 3 (some (y 39)))), (y 33, .inr (7, o7_rii (y 34) py33_1 py33_2)), (y 34, aJ V 40 fy34), (y 35, .inr (7, o7_rii (y 36) py35_1 py35_2)), (y 36, aJ V 40 fy36), (y 37, .inr (7, o7_rii (y 38) py37_1 py37_2)), (y 38, aJ V 40 fy38), (y 39, .inr (7, o7_rii (y 40) py39_1 py39_2)), (y 40, aJ V 40 fy40)]) ∨ ((¬ a1 < 0) ∧ (¬ 4 ≤ a1) ∧ (¬ a2 < 0) ∧ (¬ py2_1 ≤ a2) ∧ (a1 = 1) ∧ (0 ≤ py35_1) ∧ (py35_1 < 1) ∧ r = (-4) ∧ (-4) = rfF a1 a2 a3 py2_1 py33_1 py35_1 py37_1 py39_1 fy34 fy36 fy38 fy40 ∧ w = [(y 0, .inr (9, o9_rirrrrrrrrvviii (y 1) py0_1 (y 2) (y 10) (y 19) (y 25) (y 26) (y 30) (y 31) (y 32) o10 o11 py0_12 py0_13 py0_14)), (y 2, .inr (1, o1_iiiiiirrrrrrriiiii py2_0 py2_1 py2_2 py2_3 py2_4 py2_5 (y 3) (y 4) (y 5) (y 6) (y 7) (y 8) (y 9) py2_13 py2_14 py2_15 py2_16 py2_17)), (y 30, aT V 4 (va_up (va_up (va_up (va_up (fun _ => none) 0 (some (y 33))) 1 (some (y 35))) 2 (some (y 37))) 3 (some (y 39)))), (y 33, .inr (7, o7_rii (y 34) py33_1 py33_2)), (y 34, aJ V 40 fy34), (y 35, .inr (7, o7_rii (y 36) py35_1 py35_2)), (y 36, aJ V 40 fy36), (y 37, .inr (7, o7_rii (y 38) py37_1 py37_2)), (y 38, aJ V 40 fy38), (y 39, .inr (7, o7_rii (y 40) py39_1 py39_2)), (y 40, aJ V 40 fy40)]) ∨ ((¬ a1 < 0) ∧ (¬ 4 ≤ a1) ∧ (¬ a2 < 0) ∧ (¬ py2_1 ≤ a2) ∧ (a1 = 1) ∧ (0 ≤ py35_1) ∧ (¬ py35_1 < 1) ∧ (py35_1 ≤ 8) ∧ r = 0 ∧ 0 = rfF a1 a2 a3 py2_1 py33_1 py35_1 py37_1 py39_1 fy34 fy36 fy38 fy40 ∧ w = [(y 0, .inr (9, o9_rirrrrrrrrvviii (y 1) py0_1 (y 2) (y 10) (y 19) (y 25) (y 26) (y 30) (y 31) (y 32) o10 o11 py0_12 py0_13 py0_14)), (y 2, .inr (1, o1_iiiiiirrrrrrriiiii py2_0 py2_1 py2_2 py2_3 py2_4 py2_5 (y 3) (y 4) (y 5) (y 6) (y 7) (y 8) (y 9) py2_13 py2_14 py2_15 py2_16 py2_17)), (y 30, aT V 4 (va_up (va_up (va_up (va_up (fun _ => none) 0 (some (y 33))) 1 (some (y 35))) 2 (some (y 37))) 3 (some (y 39)))), (y 33, .inr (7, o7_rii (y 34) py33_1 py33_2)), (y 34, aJ V 40 fy34), (y 35, .inr (7, o7_rii (y 36) py35_1 py35_2)), (y 36, aJ V 40 fy36), (y 37, .inr (7, o7_rii (y 38) py37_1 py37_2)), (y 38, aJ V 40 fy38), (y 39, .inr (7, o7_rii (y 40) py39_1 py39_2)), (y 40, aJ V 40 fy40)]) ∨ ((¬ a1 < 0) ∧ (¬ 4 ≤ a1) ∧ (¬ a2 < 0) ∧ (¬ py2_1 ≤ a2) ∧ (a1 = 1) ∧ (0 ≤ py35_1) ∧ (¬ py35_1 < 1) ∧ (py35_1 ≤ 8) ∧ r = (-3) ∧ (-3) = rfF a1 a2 a3 py2_1 py33_1 py35_1 py37_1 py39_1 fy34 fy36 fy38 fy40 ∧ w = [(y 0, .inr (9, o9_rirrrrrrrrvviii (y 1) py0_1 (y 2) (y 10) (y 19) (y 25) (y 26) (y 30) (y 31) (y 32) o10 o11 py0_12 py0_13 py0_14)), (y 2, .inr (1, o1_iiiiiirrrrrrriiiii py2_0 py2_1 py2_2 py2_3 py2_4 py2_5 (y 3) (y 4) (y 5) (y 6) (y 7) (y 8) (y 9) py2_13 py2_14 py2_15 py2_16 py2_17)), (y 30, aT V 4 (va_up (va_up (va_up (va_up (fun _ => none) 0 (some (y 33))) 1 (some (y 35))) 2 (some (y 37))) 3 (some (y 39)))), (y 33, .inr (7, o7_rii (y 34) py33_1 py33_2)), (y 34, aJ V 40 fy34), (y 35, .inr (7, o7_rii (y 36) py35_1 py35_2)), (y 36, aJ V 40 fy36), (y 37, .inr (7, o7_rii (y 38) py37_1 py37_2)), (y 38, aJ V 40 fy38), (y 39, .inr (7, o7_rii (y 40) py39_1 py39_2)), (y 40, aJ V 40 fy40)]) ∨ ((¬ a1 < 0) ∧ (¬ 4 ≤ a1) ∧ (¬ a2 < 0) ∧ (¬ py2_1 ≤ a2) ∧ (a1 = 1) ∧ (0 ≤ py35_1) ∧ (¬ py35_1 < 1) ∧ (¬ py35_1 ≤ 8) ∧ r = (-4) ∧ (-4) = rfF a1 a2 a3 py2_1 py33_1 py35_1 py37_1 py39_1 fy34 fy36 fy38 fy40 ∧ w = [(y 0, .inr (9, o9_rirrrrrrrrvviii (y 1) py0_1 (y 2) (y 10) (y 19) (y 25) (y 26) (y 30) (y 31) (y 32) o10 o11 py0_12 py0_13 py0_14)), (y 2, .inr (1, o1_iiiiiirrrrrrriiiii py2_0 py2_1 py2_2 py2_3 py2_4 py2_5 (y 3) (y 4) (y 5) (y 6) (y 7) (y 8) (y 9) py2_13 py2_14 py2_15 py2_16 py2_17)), (y 30, aT V 4 (va_up (va_up (va_up (va_up (fun _ => none) 0 (some (y 33))) 1 (some (y 35))) 2 (some (y 37))) 3 (some (y 39)))), (y 33, .inr (7, o7_rii (y 34) py33_1 py33_2)), (y 34, aJ V 40 fy34), (y 35, .inr (7, o7_rii (y 36) py35_1 py35_2)), (y 36, aJ V 40 fy36), (y 37, .inr (7, o7_rii (y 38) py37_1 py37_2)), (y 38, aJ V 40 fy38), (y 39, .inr (7, o7_rii (y 40) py39_1 py39_2)), (y 40, aJ V 40 fy40)]) ∨ ((¬ a1 < 0) ∧ (¬ 4 ≤ a1) ∧ (¬ a2 < 0) ∧ (¬ py2_1 ≤ a2) ∧ (a1 = 1) ∧ (¬ 0 ≤ py35_1) ∧ r = (-6) ∧ (-6) = rfF a1 a2 a3 py2_1 py33_1 py35_1 py37_1 py39_1 fy34 fy36 fy38 fy40 ∧ w = [(y 0, .inr (9, o9_rirrrrrrrrvviii (y 1) py0_1 (y 2) (y 10) (y 19) (y 25) (y 26) (y 30) (y 31) (y 32) o10 o11 py0_12 py0_13 py0_14)), (y 2, .inr (1, o1_iiiiiirrrrrrriiiii py2_0 py2_1 py2_2 py2_3 py2_4 py2_5 (y 3) (y 4) (y 5) (y 6) (y 7) (y 8) (y 9) py2_13 py2_14 py2_15 py2_16 py2_17)), (y 30, aT V 4 (va_up (va_up (va_up (va_up (fun _ => none) 0 (some (y 33))) 1 (some (y 35))) 2 (some (y 37))) 3 (some (y 39)))), (y 33, .inr (7, o7_rii (y 34) py33_1 py33_2)), (y 34, aJ V 40 fy34), (y 35, .inr (7, o7_rii (y 36) py35_1 py35_2)), (y 36, aJ V 40 fy36), (y 37, .inr (7, o7_rii (y 38) py37_1 py37_2)), (y 38, aJ V 40 fy38), (y 39, .inr (7, o7_rii (y 40) py39_1 py39_2)), (y 40, aJ V 40 fy40)]) ∨ ((¬ a1 < 0) ∧ (¬ 4 ≤ a1) ∧ (¬ a2 < 0) ∧ (¬ py2_1 ≤ a2) ∧ (a1 = 2) ∧ (0 ≤ py37_1) ∧ (py37_1 < 1) ∧ r = (-4) ∧ (-4) = rfF a1 a2 a3 py2_1 py33_1 py35_1 py37_1 py39_1 fy34 fy36 fy38 fy40 ∧ w = [(y 0, .inr (9, o9_rirrrrrrrrvviii (y 1) py0_1 (y 2) (y 10) (y 19) (y 25) (y 26) (y 30) (y 31) (y 32) o10 o11 py0_12 py0_13 py0_14)), (y 2, .inr (1, o1_iiiiiirrrrrrriiiii py2_0 py2_1 py2_2 py2_3 py2_4 py2_5 (y 3) (y 4) (y 5) (y 6) (y 7) (y 8) (y 9) py2_13 py2_14 py2_15 py2_16 py2_17)), (y 30, aT V 4 (va_up (va_up (va_up (va_up (fun _ => none) 0 (some (y 33))) 1 (some (y 35))) 2 (some (y 37))) 3 (some (y 39)))), (y 33, .inr (7, o7_rii (y 34) py33_1 py33_2)), (y 34, aJ V 40 fy34), (y 35, .inr (7, o7_rii (y 36) py35_1 py35_2)), (y 36, aJ V 40 fy36), (y 37, .inr (7, o7_rii (y 38) py37_1 py37_2)), (y 38, aJ V 40 fy38), (y 39, .inr (7, o7_rii (y 40) py39_1 py39_2)), (y 40, aJ V 40 fy40)]) ∨ ((¬ a1 < 0) ∧ (¬ 4 ≤ a1) ∧ (¬ a2 < 0) ∧ (¬ py2_1 ≤ a2) ∧ (a1 = 2) ∧ (0 ≤ py37_1) ∧ (¬ py37_1 < 1) ∧ (py37_1 ≤ 8) ∧ r = 0 ∧ 0 = rfF a1 a2 a3 py2_1 py33_1 py35_1 py37_1 py39_1 fy34 fy36 fy38 fy40 ∧ w = [(y 0, .inr (9, o9_rirrrrrrrrvviii (y 1) py0_1 (y 2) (y 10) (y 19) (y 25) (y 26) (y 30) (y 31) (y 32) o10 o11 py0_12 py0_13 py0_14)), (y 2, .inr (1, o1_iiiiiirrrrrrriiiii py2_0 py2_1 py2_2 py2_3 py2_4 py2_5 (y 3) (y 4) (y 5) (y 6) (y 7) (y 8) (y 9) py2_13 py2_14 py2_15 py2_16 py2_17)), (y 30, aT V 4 (va_up (va_up (va_up (va_up (fun _ => none) 0 (some (y 33))) 1 (some (y 35))) 2 (some (y 37))) 3 (some (y 39)))), (y 33, .inr (7, o7_rii (y 34) py33_1 py33_2)), (y 34, aJ V 40 fy34), (y 35, .inr (7, o7_rii (y 36) py35_1 py35_2)), (y 36, aJ V 40 fy36), (y 37, .inr (7, o7_rii (y 38) py37_1 py37_2)), (y 38, aJ V 40 fy38), (y 39, .inr (7, o7_rii (y 40) py39_1 py39_2)), (y 40, aJ V 40 fy40)]) ∨ ((¬ a1 < 0) ∧ (¬ 4 ≤ a1) ∧ (¬ a2 < 0) ∧ (¬ py2_1 ≤ a2) ∧ (a1 = 2) ∧ (0 ≤ py37_1) ∧ (¬ py37_1 < 1) ∧ (py37_1 ≤ 8) ∧ r = (-3) ∧ (-3) = rfF a1 a2 a3 py2_1 py33_1 py35_1 py37_1 py39_1 fy34 fy36 fy38 fy40 ∧ w = [(y 0, .inr (9, o9_rirrrrrrrrvviii (y 1) py0_1 (y 2) (y 10) (y 19) (y 25) (y 26) (y 30) (y 31) (y 32) o10 o11 py0_12 py0_13 py0_14)), (y 2, .inr (1, o1_iiiiiirrrrrrriiiii py2_0 py2_1 py2_2 py2_3 py2_4 py2_5 (y 3) (y 4) (y 5) (y 6) (y 7) (y 8) (y 9) py2_13 py2_14 py2_15 py2_16 py2_17)), (y 30, aT V 4 (va_up (va_up (va_up (va_up (fun _ => none) 0 (some (y 33))) 1 (some (y 35))) 2 (some (y 37))) 3 (some (y 39)))), (y 33, .inr (7, o7_rii (y 34) py33_1 py33_2)), (y 34, aJ V 40 fy34), (y 35, .inr (7, o7_rii (y 36) py35_1 py35_2)), (y 36, aJ V 40 fy36), (y 37, .inr (7, o7_rii (y 38) py37_1 py37_2)), (y 38, aJ V 40 fy38), (y 39, .inr (7, o7_rii (y 40) py39_1 py39_2)), (y 40, aJ V 40 fy40)]) ∨ ((¬ a1 < 0) ∧ (¬ 4 ≤ a1) ∧ (¬ a2 < 0) ∧ (¬ py2_1 ≤ a2) ∧ (a1 = 2) ∧ (0 ≤ py37_1) ∧ (¬ py37_1 < 1) ∧ (¬ py37_1 ≤ 8) ∧ r = (-4) ∧ (-4) = rfF a1 a2 a3 py2_1 py33_1 py35_1 py37_1 py39_1 fy34 fy36 fy38 fy40 ∧ w = [(y 0, .inr (9, o9_rirrrrrrrrvviii (y 1) py0_1 (y 2) (y 10) (y 19) (y 25) (y 26) (y 30) (y 31) (y 32) o10 o11 py0_12 py0_13 py0_14)), (y 2, .inr (1, o1_iiiiiirrrrrrriiiii py2_0 py2_1 py2_2 py2_3 py2_4 py2_5 (y 3) (y 4) (y 5) (y 6) (y 7) (y 8) (y 9) py2_13 py2_14 py2_15 py2_16 py2_17)), (y 30, aT V 4 (va_up (va_up (va_up (va_up (fun _ => none) 0 (some (y 33))) 1 (some (y 35))) 2 (some (y 37))) 3 (some (y 39)))), (y 33, .inr (7, o7_rii (y 34) py33_1 py33_2)), (y 34, aJ V 40 fy34), (y 35, .inr (7, o7_rii (y 36) py35_1 py35_2)), (y 36, aJ V 40 fy36), (y 37, .inr (7, o7_rii (y 38) py37_1 py37_2)), (y 38, aJ V 40 fy38), (y 39, .inr (7, o7_rii (y 40) py39_1 py39_2)), (y 40, aJ V 40 fy40)]) ∨ ((¬ a1 < 0) ∧ (¬ 4 ≤ a1) ∧ (¬ a2 < 0) ∧ (¬ py2_1 ≤ a2) ∧ (a1 = 2) ∧ (¬ 0 ≤ py37_1) ∧ r = (-6) ∧ (-6) = rfF a1 a2 a3 py2_1 py33_1 py35_1 py37_1 py39_1 fy34 fy36 fy38 fy40 ∧ w = [(y 0, .inr (9, o9_rirrrrrrrrvviii (y 1) py0_1 (y 2) (y 10) (y 19) (y 25) (y 26) (y 30) (y 31) (y 32) o10 o11 py0_12 py0_13 py0_14)), (y 2, .inr (1, o1_iiiiiirrrrrrriiiii py2_0 py2_1 py2_2 py2_3 py2_4 py2_5 (y 3) (y 4) (y 5) (y 6) (y 7) (y 8) (y 9) py2_13 py2_14 py2_15 py2_16 py2_17)), (y 30, aT V 4 (va_up (va_up (va_up (va_up (fun _ => none) 0 (some (y 33))) 1 (some (y 35))) 2 (some (y 37))) 3 (some (y 39)))), (y 33, .inr (7, o7_rii (y 34) py33_1 py33_2)), (y 34, aJ V 40 fy34), (y 35, .inr (7, o7_rii (y 36) py35_1 py35_2)), (y 36, aJ V 40 fy36), (y 37, .inr (7, o7_rii (y 38) py37_1 py37_2)), (y 38, aJ V 40 fy38), (y 39, .inr (7, o7_rii (y 40) py39_1 py39_2)), (y 40, aJ V 40 fy40)]) ∨ ((¬ a1 < 0) ∧ (¬ 4 ≤ a1) ∧ (¬ a2 < 0) ∧ (¬ py2_1 ≤ a2) ∧ (a1 = 3) ∧ (0 ≤ py39_1) ∧ (py39_1 < 1) ∧ r = (-4) ∧ (-4) = rfF a1 a2 a3 py2_1 py33_1 py35_1 py37_1 py39_1 fy34 fy36 fy38 fy40 ∧ w = [(y 0, .inr (9, o9_rirrrrrrrrvviii (y 1) py0_1 (y 2) (y 10) (y 19) (y 25) (y 26) (y 30) (y 31) (y 32) o10 o11 py0_12 py0_13 py0_14)), (y 2, .inr (1, o1_iiiiiirrrrrrriiiii py2_0 py2_1 py2_2 py2_3 py2_4 py2_5 (y 3) (y 4) (y 5) (y 6) (y 7) (y 8) (y 9) py2_13 py2_14 py2_15 py2_16 py2_17)), (y 30, aT V 4 (va_up (va_up (va_up (va_up (fun _ => none) 0 (some (y 33))) 1 (some (y 35))) 2 (some (y 37))) 3 (some (y 39)))), (y 33, .inr (7, o7_rii (y 34) py33_1 py33_2)), (y 34, aJ V 40 fy34), (y 35, .inr (7, o7_rii (y 36) py35_1 py35_2)), (y 36, aJ V 40 fy36), (y 37, .inr (7, o7_rii (y 38) py37_1 py37_2)), (y 38, aJ V 40 fy38), (y 39, .inr (7, o7_rii (y 40) py39_1 py39_2)), (y 40, aJ V 40 fy40)]) ∨ ((¬ a1 < 0) ∧ (¬ 4 ≤ a1) ∧ (¬ a2 < 0) ∧ (¬ py2_1 ≤ a2) ∧ (a1 = 3) ∧ (0 ≤ py39_1) ∧ (¬ py39_1 < 1) ∧ (py39_1 ≤ 8) ∧ r = 0 ∧ 0 = rfF a1 a2 a3 py2_1 py33_1 py35_1 py37_1 py39_1 fy34 fy36 fy38 fy40 ∧ w = [(y 0, .inr (9, o9_rirrrrrrrrvviii (y 1) py0_1 (y 2) (y 10) (y 19) (y 25) (y 26) (y 30) (y 31) (y 32) o10 o11 py0_12 py0_13 py0_14)), (y 2, .inr (1, o1_iiiiiirrrrrrriiiii py2_0 py2_1 py2_2 py2_3 py2_4 py2_5 (y 3) (y 4) (y 5) (y 6) (y 7) (y 8) (y 9) py2_13 py2_14 py2_15 py2_16 py2_17)), (y 30, aT V 4 (va_up (va_up (va_up (va_up (fun _ => none) 0 (some (y 33))) 1 (some (y 35))) 2 (some (y 37))) 3 (some (y 39)))), (y 33, .inr (7, o7_rii (y 34) py33_1 py33_2)), (y 34, aJ V 40 fy34), (y 35, .inr (7, o7_rii (y 36) py35_1 py35_2)), (y 36, aJ V 40 fy36), (y 37, .inr (7, o7_rii (y 38) py37_1 py37_2)), (y 38, aJ V 40 fy38), (y 39, .inr (7, o7_rii (y 40) py39_1 py39_2)), (y 40, aJ V 40 fy40)]) ∨ ((¬ a1 < 0) ∧ (¬ 4 ≤ a1) ∧ (¬ a2 < 0) ∧ (¬ py2_1 ≤ a2) ∧ (a1 = 3) ∧ (0 ≤ py39_1) ∧ (¬ py39_1 < 1) ∧ (py39_1 ≤ 8) ∧ r = (-3) ∧ (-3) = rfF a1 a2 a3 py2_1 py33_1 py35_1 py37_1 py39_1 fy34 fy36 fy38 fy40 ∧ w = [(y 0, .inr (9, o9_rirrrrrrrrvviii (y 1) py0_1 (y 2) (y 10) (y 19) (y 25) (y 26) (y 30) (y 31) (y 32) o10 o11 py0_12 py0_13 py0_14)), (y 2, .inr (1, o1_iiiiiirrrrrrriiiii py2_0 py2_1 py2_2 py2_3 py2_4 py2_5 (y 3) (y 4) (y 5) (y 6) (y 7) (y 8) (y 9) py2_13 py2_14 py2_15 py2_16 py2_17)), (y 30, aT V 4 (va_up (va_up (va_up (va_up (fun _ => none) 0 (some (y 33))) 1 (some (y 35))) 2 (some (y 37))) 3 (some (y 39)))), (y 33, .inr (7, o7_rii (y 34) py33_1 py33_2)), (y 34, aJ V 40 fy34), (y 35, .inr (7, o7_rii (y 36) py35_1 py35_2)), (y 36, aJ V 40 fy36), (y 37, .inr (7, o7_rii (y 38) py37_1 py37_2)), (y 38, aJ V 40 fy38), (y 39, .inr (7, o7_rii (y 40) py39_1 py39_2)), (y 40, aJ V 40 fy40)]) ∨ ((¬ a1 < 0) ∧ (¬ 4 ≤ a1) ∧ (¬ a2 < 0) ∧ (¬ py2_1 ≤ a2) ∧ (a1 = 3) ∧ (0 ≤ py39_1) ∧ (¬ py39_1 < 1) ∧ (¬ py39_1 ≤ 8) ∧ r = (-4) ∧ (-4) = rfF a1 a2 a3 py2_1 py33_1 py35_1 py37_1 py39_1 fy34 fy36 fy38 fy40 ∧ w = [(y 0, .inr (9, o9_rirrrrrrrrvviii (y 1) py0_1 (y 2) (y 10) (y 19) (y 25) (y 26) (y 30) (y 31) (y 32) o10 o11 py0_12 py0_13 py0_14)), (y 2, .inr (1, o1_iiiiiirrrrrrriiiii py2_0 py2_1 py2_2 py2_3 py2_4 py2_5 (y 3) (y 4) (y 5) (y 6) (y 7) (y 8) (y 9) py2_13 py2_14 py2_15 py2_16 py2_17)), (y 30, aT V 4 (va_up (va_up (va_up (va_up (fun _ => none) 0 (some (y 33))) 1 (some (y 35))) 2 (some (y 37))) 3 (some (y 39)))), (y 33, .inr (7, o7_rii (y 34) py33_1 py33_2)), (y 34, aJ V 40 fy34), (y 35, .inr (7, o7_rii (y 36) py35_1 py35_2)), (y 36, aJ V 40 fy36), (y 37, .inr (7, o7_rii (y 38) py37_1 py37_2)), (y 38, aJ V 40 fy38), (y 39, .inr (7, o7_rii (y 40) py39_1 py39_2)), (y 40, aJ V 40 fy40)]) ∨ ((¬ a1 < 0) ∧ (¬ 4 ≤ a1) ∧ (¬ a2 < 0) ∧ (¬ py2_1 ≤ a2) ∧ (a1 = 3) ∧ (¬ 0 ≤ py39_1) ∧ r = (-6) ∧ (-6) = rfF a1 a2 a3 py2_1 py33_1 py35_1 py37_1 py39_1 fy34 fy36 fy38 fy40 ∧ w = [(y 0, .inr (9, o9_rirrrrrrrrvviii (y 1) py0_1 (y 2) (y 10) (y 19) (y 25) (y 26) (y 30) (y 31) (y 32) o10 o11 py0_12 py0_13 py0_14)), (y 2, .inr (1, o1_iiiiiirrrrrrriiiii py2_0 py2_1 py2_2 py2_3 py2_4 py2_5 (y 3) (y 4) (y 5) (y 6) (y 7) (y 8) (y 9) py2_13 py2_14 py2_15 py2_16 py2_17)), (y 30, aT V 4 (va_up (va_up (va_up (va_up (fun _ => none) 0 (some (y 33))) 1 (some (y 35))) 2 (some (y 37))) 3 (some (y 39)))), (y 33, .inr (7, o7_rii (y 34) py33_1 py33_2)), (y 34, aJ V 40 fy34), (y 35, .inr (7, o7_rii (y 36) py35_1 py35_2)), (y 36, aJ V 40 fy36), (y 37, .inr (7, o7_rii (y 38) py37_1 py37_2)), (y 38, aJ V 40 fy38), (y 39, .inr (7, o7_rii (y 40) py39_1 py39_2)), (y 40, aJ V 40 fy40)]))) := by
  refine Ct.of (by decide) (Nat.le_of_ble_eq_true rfl) (fun p e s m below meth c A ls hx hb hr hml hown hlk hnm hg hP hK hD hE hA hS hl => ?_)
  have hl : lv_has ls 6 [(0, .ref (y 0)), (1, .int a1), (2, .int a2), (3, .int a3)] := hl
  refine lv_iload_n hx hb dX9_refusalOfTold_0 rfl (lv_at hl 1 rfl) ?_
  refine jnI (wr := [(y 0, .inr (9, o9_rirrrrrrrrvviii (y 1) py0_1 (y 2) (y 10) (y 19) (y 25) (y 26) (y 30) (y 31) (y 32) o10 o11 py0_12 py0_13 py0_14)), (y 2, .inr (1, o1_iiiiiirrrrrrriiiii py2_0 py2_1 py2_2 py2_3 py2_4 py2_5 (y 3) (y 4) (y 5) (y 6) (y 7) (y 8) (y 9) py2_13 py2_14 py2_15 py2_16 py2_17)), (y 30, aT V 4 (va_up (va_up (va_up (va_up (fun _ => none) 0 (some (y 33))) 1 (some (y 35))) 2 (some (y 37))) 3 (some (y 39)))), (y 33, .inr (7, o7_rii (y 34) py33_1 py33_2)), (y 34, aJ V 40 fy34), (y 35, .inr (7, o7_rii (y 36) py35_1 py35_2)), (y 36, aJ V 40 fy36), (y 37, .inr (7, o7_rii (y 38) py37_1 py37_2)), (y 38, aJ V 40 fy38), (y 39, .inr (7, o7_rii (y 40) py39_1 py39_2)), (y 40, aJ V 40 fy40)]) (rnS (rest := []) ⟨hx, hb, hml, hown, hg⟩ (k_X9_isTray_0 l V a1) mt_X9_isTray q_3_228 ⟨Nat.le_of_ble_eq_true rfl, Nat.le_of_ble_eq_true rfl⟩ hK hP hD hS hA hE [] rfl rfl rfl hl.1 rfl (Nat.le_of_ble_eq_true rfl) dX9_refusalOfTold_1 ⟨Nat.le_of_ble_eq_true rfl, Nat.le_of_ble_eq_true rfl⟩) hP hD hS hA [] [0, 1, 2, 3, 4, 5, 6, 7, 8, 9, 10] rfl rfl rfl (by decide) (fun r_1 w H locs hw hP hD hS => ?_)
  rcases hw with ⟨c_2, rfl, et_3, rfl⟩ | ⟨c_4, c_5, rfl, et_6, rfl⟩ | ⟨c_7, c_8, rfl, et_9, rfl⟩
  · have hP : va_P V.1 vwCl [(y 0, .inr (9, o9_rirrrrrrrrvviii (y 1) py0_1 (y 2) (y 10) (y 19) (y 25) (y 26) (y 30) (y 31) (y 32) o10 o11 py0_12 py0_13 py0_14)), (y 2, .inr (1, o1_iiiiiirrrrrrriiiii py2_0 py2_1 py2_2 py2_3 py2_4 py2_5 (y 3) (y 4) (y 5) (y 6) (y 7) (y 8) (y 9) py2_13 py2_14 py2_15 py2_16 py2_17)), (y 30, aT V 4 (va_up (va_up (va_up (va_up (fun _ => none) 0 (some (y 33))) 1 (some (y 35))) 2 (some (y 37))) 3 (some (y 39)))), (y 33, .inr (7, o7_rii (y 34) py33_1 py33_2)), (y 34, aJ V 40 fy34), (y 35, .inr (7, o7_rii (y 36) py35_1 py35_2)), (y 36, aJ V 40 fy36), (y 37, .inr (7, o7_rii (y 38) py37_1 py37_2)), (y 38, aJ V 40 fy38), (y 39, .inr (7, o7_rii (y 40) py39_1 py39_2)), (y 40, aJ V 40 fy40)] H := hP
    have hD := cpD hP hD
    have b_10 : iv (-2147483648) (-1) a1 := iv_l1 c_2 (iv_top a1) (iv_c (0 : Int32) (a := 0) (b := 0) (by decide)) (by decide)
    refine lv_if_eq (tgt := 15) hx hb dX9_refusalOfTold_4 (by decide) (fun _ => ?_) (fun c_12 => absurd c_12 (by decide))
    refine lv_bipush (v := (-2)) hx hb dX9_refusalOfTold_15 (by decide) ?_
    exact fiI hx hb hr hlk hK hP hD hS dX9_refusalOfTold_17 (Nat.le_of_ble_eq_true rfl) (Nat.le_of_ble_eq_true rfl) (Or.inl ⟨c_2, rfl, (rfF_2 (by have z_0 := Int32.lt_iff_toInt_lt.mp c_2; have k_0 : (0 : Int32).toInt = 0 := (by decide); omega)), rfl⟩)
  · have hP : va_P V.1 vwCl [(y 0, .inr (9, o9_rirrrrrrrrvviii (y 1) py0_1 (y 2) (y 10) (y 19) (y 25) (y 26) (y 30) (y 31) (y 32) o10 o11 py0_12 py0_13 py0_14)), (y 2, .inr (1, o1_iiiiiirrrrrrriiiii py2_0 py2_1 py2_2 py2_3 py2_4 py2_5 (y 3) (y 4) (y 5) (y 6) (y 7) (y 8) (y 9) py2_13 py2_14 py2_15 py2_16 py2_17)), (y 30, aT V 4 (va_up (va_up (va_up (va_up (fun _ => none) 0 (some (y 33))) 1 (some (y 35))) 2 (some (y 37))) 3 (some (y 39)))), (y 33, .inr (7, o7_rii (y 34) py33_1 py33_2)), (y 34, aJ V 40 fy34), (y 35, .inr (7, o7_rii (y 36) py35_1 py35_2)), (y 36, aJ V 40 fy36), (y 37, .inr (7, o7_rii (y 38) py37_1 py37_2)), (y 38, aJ V 40 fy38), (y 39, .inr (7, o7_rii (y 40) py39_1 py39_2)), (y 40, aJ V 40 fy40)] H := hP
    have hD := cpD hP hD
    have b_13 : iv 0 2147483647 a1 := iv_e2 (Int32.not_lt.mp c_4) (iv_c (0 : Int32) (a := 0) (b := 0) (by decide)) (iv_top a1) (by decide)
    have b_14 : iv 4 2147483647 a1 := iv_e2 c_5 (iv_c (4 : Int32) (a := 4) (b := 4) (by decide)) b_13 (by decide)
    refine lv_if_eq (tgt := 15) hx hb dX9_refusalOfTold_4 (by decide) (fun _ => ?_) (fun c_16 => absurd c_16 (by decide))
    refine lv_bipush (v := (-2)) hx hb dX9_refusalOfTold_15 (by decide) ?_
    exact fiI hx hb hr hlk hK hP hD hS dX9_refusalOfTold_17 (Nat.le_of_ble_eq_true rfl) (Nat.le_of_ble_eq_true rfl) (Or.inr (Or.inl ⟨c_4, c_5, rfl, (rfF_2 (by have z_0 := Int32.le_iff_toInt_le.mp (Int32.not_lt.mp c_4); have z_1 := Int32.le_iff_toInt_le.mp c_5; have k_0 : (0 : Int32).toInt = 0 := (by decide); have k_4 : (4 : Int32).toInt = 4 := (by decide); omega)), rfl⟩))
  · have hP : va_P V.1 vwCl [(y 0, .inr (9, o9_rirrrrrrrrvviii (y 1) py0_1 (y 2) (y 10) (y 19) (y 25) (y 26) (y 30) (y 31) (y 32) o10 o11 py0_12 py0_13 py0_14)), (y 2, .inr (1, o1_iiiiiirrrrrrriiiii py2_0 py2_1 py2_2 py2_3 py2_4 py2_5 (y 3) (y 4) (y 5) (y 6) (y 7) (y 8) (y 9) py2_13 py2_14 py2_15 py2_16 py2_17)), (y 30, aT V 4 (va_up (va_up (va_up (va_up (fun _ => none) 0 (some (y 33))) 1 (some (y 35))) 2 (some (y 37))) 3 (some (y 39)))), (y 33, .inr (7, o7_rii (y 34) py33_1 py33_2)), (y 34, aJ V 40 fy34), (y 35, .inr (7, o7_rii (y 36) py35_1 py35_2)), (y 36, aJ V 40 fy36), (y 37, .inr (7, o7_rii (y 38) py37_1 py37_2)), (y 38, aJ V 40 fy38), (y 39, .inr (7, o7_rii (y 40) py39_1 py39_2)), (y 40, aJ V 40 fy40)] H := hP
    have hD := cpD hP hD
    have b_17 : iv 0 2147483647 a1 := iv_e2 (Int32.not_lt.mp c_7) (iv_c (0 : Int32) (a := 0) (b := 0) (by decide)) (iv_top a1) (by decide)
    have b_18 : iv 0 3 a1 := iv_l1 (Int32.not_le.mp c_8) b_17 (iv_c (4 : Int32) (a := 4) (b := 4) (by decide)) (by decide)
    refine lv_if_eq (tgt := 15) hx hb dX9_refusalOfTold_4 (by decide) (fun c_20 => absurd c_20 (by decide)) (fun _ => ?_)
    refine lv_aload_n hx hb dX9_refusalOfTold_7 rfl (lv_at hl 0 rfl) ?_
    refine lv_iload_n hx hb dX9_refusalOfTold_8 rfl (lv_at hl 2 rfl) ?_
    refine jnI (wr := [(y 30, aT V 4 (va_up (va_up (va_up (va_up (fun _ => none) 0 (some (y 33))) 1 (some (y 35))) 2 (some (y 37))) 3 (some (y 39)))), (y 33, .inr (7, o7_rii (y 34) py33_1 py33_2)), (y 34, aJ V 40 fy34), (y 35, .inr (7, o7_rii (y 36) py35_1 py35_2)), (y 36, aJ V 40 fy36), (y 37, .inr (7, o7_rii (y 38) py37_1 py37_2)), (y 38, aJ V 40 fy38), (y 39, .inr (7, o7_rii (y 40) py39_1 py39_2)), (y 40, aJ V 40 fy40)]) (rnV (rest := []) ⟨hx, hb, hml, hown, hg⟩ (k_X9_isHill_0 l V y a2 py0_1 o10 o11 py0_12 py0_13 py0_14 py2_0 py2_1 py2_2 py2_3 py2_4 py2_5 py2_13 py2_14 py2_15 py2_16 py2_17 bpy0_1 bpy0_12 bpy0_13 bpy2_1 bpy2_2 bpy2_3 bpy2_4 bpy2_5 bpy2_13 bpy2_14 bpy2_15 bpy2_16 bpy2_17) mt_X9_isHill q_3_122 ⟨Nat.le_of_ble_eq_true rfl, Nat.le_of_ble_eq_true rfl⟩ hK hP hD hS hA hE [0, 1] rfl rfl 0 rfl rfl rfl rfl hl.1 rfl (Nat.le_of_ble_eq_true rfl) dX9_refusalOfTold_9 ⟨Nat.le_of_ble_eq_true rfl, Nat.le_of_ble_eq_true rfl⟩) hP hD hS hA [0, 1] [2, 3, 4, 5, 6, 7, 8, 9, 10] rfl rfl rfl (by decide) (fun r_21 w H locs hw hP hD hS => ?_)
    rcases hw with ⟨c_22, rfl, et_23, rfl⟩ | ⟨c_24, c_25, rfl, et_26, rfl⟩ | ⟨c_27, c_28, rfl, et_29, rfl⟩
    · have hP : va_P V.1 vwCl [(y 30, aT V 4 (va_up (va_up (va_up (va_up (fun _ => none) 0 (some (y 33))) 1 (some (y 35))) 2 (some (y 37))) 3 (some (y 39)))), (y 33, .inr (7, o7_rii (y 34) py33_1 py33_2)), (y 34, aJ V 40 fy34), (y 35, .inr (7, o7_rii (y 36) py35_1 py35_2)), (y 36, aJ V 40 fy36), (y 37, .inr (7, o7_rii (y 38) py37_1 py37_2)), (y 38, aJ V 40 fy38), (y 39, .inr (7, o7_rii (y 40) py39_1 py39_2)), (y 40, aJ V 40 fy40), (y 0, .inr (9, o9_rirrrrrrrrvviii (y 1) py0_1 (y 2) (y 10) (y 19) (y 25) (y 26) (y 30) (y 31) (y 32) o10 o11 py0_12 py0_13 py0_14)), (y 2, .inr (1, o1_iiiiiirrrrrrriiiii py2_0 py2_1 py2_2 py2_3 py2_4 py2_5 (y 3) (y 4) (y 5) (y 6) (y 7) (y 8) (y 9) py2_13 py2_14 py2_15 py2_16 py2_17))] H := hP
      have hD := cpD hP hD
      have b_30 : iv (-2147483648) (-1) a2 := iv_l1 c_22 (iv_top a2) (iv_c (0 : Int32) (a := 0) (b := 0) (by decide)) (by decide)
      refine lv_if_ne (tgt := 18) hx hb dX9_refusalOfTold_12 (by decide) (fun c_32 => absurd c_32 (by decide)) (fun _ => ?_)
      refine lv_bipush (v := (-2)) hx hb dX9_refusalOfTold_15 (by decide) ?_
      have hP := subP (ws' := [(y 0, .inr (9, o9_rirrrrrrrrvviii (y 1) py0_1 (y 2) (y 10) (y 19) (y 25) (y 26) (y 30) (y 31) (y 32) o10 o11 py0_12 py0_13 py0_14)), (y 2, .inr (1, o1_iiiiiirrrrrrriiiii py2_0 py2_1 py2_2 py2_3 py2_4 py2_5 (y 3) (y 4) (y 5) (y 6) (y 7) (y 8) (y 9) py2_13 py2_14 py2_15 py2_16 py2_17)), (y 30, aT V 4 (va_up (va_up (va_up (va_up (fun _ => none) 0 (some (y 33))) 1 (some (y 35))) 2 (some (y 37))) 3 (some (y 39)))), (y 33, .inr (7, o7_rii (y 34) py33_1 py33_2)), (y 34, aJ V 40 fy34), (y 35, .inr (7, o7_rii (y 36) py35_1 py35_2)), (y 36, aJ V 40 fy36), (y 37, .inr (7, o7_rii (y 38) py37_1 py37_2)), (y 38, aJ V 40 fy38), (y 39, .inr (7, o7_rii (y 40) py39_1 py39_2)), (y 40, aJ V 40 fy40)]) hP [9, 10, 0, 1, 2, 3, 4, 5, 6, 7, 8] rfl
      have hD := subD hP hD [9, 10, 0, 1, 2, 3, 4, 5, 6, 7, 8] rfl rfl
      exact fiI hx hb hr hlk hK hP hD hS dX9_refusalOfTold_17 (Nat.le_of_ble_eq_true rfl) (Nat.le_of_ble_eq_true rfl) (Or.inr (Or.inr (Or.inl ⟨c_7, c_8, c_22, rfl, (rfF_2 (by have z_0 := Int32.le_iff_toInt_le.mp (Int32.not_lt.mp c_7); have z_1 := Int32.lt_iff_toInt_lt.mp (Int32.not_le.mp c_8); have z_2 := Int32.lt_iff_toInt_lt.mp c_22; have k_0 : (0 : Int32).toInt = 0 := (by decide); have k_4 : (4 : Int32).toInt = 4 := (by decide); omega)), rfl⟩)))
    · have hP : va_P V.1 vwCl [(y 30, aT V 4 (va_up (va_up (va_up (va_up (fun _ => none) 0 (some (y 33))) 1 (some (y 35))) 2 (some (y 37))) 3 (some (y 39)))), (y 33, .inr (7, o7_rii (y 34) py33_1 py33_2)), (y 34, aJ V 40 fy34), (y 35, .inr (7, o7_rii (y 36) py35_1 py35_2)), (y 36, aJ V 40 fy36), (y 37, .inr (7, o7_rii (y 38) py37_1 py37_2)), (y 38, aJ V 40 fy38), (y 39, .inr (7, o7_rii (y 40) py39_1 py39_2)), (y 40, aJ V 40 fy40), (y 0, .inr (9, o9_rirrrrrrrrvviii (y 1) py0_1 (y 2) (y 10) (y 19) (y 25) (y 26) (y 30) (y 31) (y 32) o10 o11 py0_12 py0_13 py0_14)), (y 2, .inr (1, o1_iiiiiirrrrrrriiiii py2_0 py2_1 py2_2 py2_3 py2_4 py2_5 (y 3) (y 4) (y 5) (y 6) (y 7) (y 8) (y 9) py2_13 py2_14 py2_15 py2_16 py2_17))] H := hP
      have hD := cpD hP hD
      have b_33 : iv 0 2147483647 a2 := iv_e2 (Int32.not_lt.mp c_24) (iv_c (0 : Int32) (a := 0) (b := 0) (by decide)) (iv_top a2) (by decide)
      refine lv_if_ne (tgt := 18) hx hb dX9_refusalOfTold_12 (by decide) (fun c_35 => absurd c_35 (by decide)) (fun _ => ?_)
      refine lv_bipush (v := (-2)) hx hb dX9_refusalOfTold_15 (by decide) ?_
      have hP := subP (ws' := [(y 0, .inr (9, o9_rirrrrrrrrvviii (y 1) py0_1 (y 2) (y 10) (y 19) (y 25) (y 26) (y 30) (y 31) (y 32) o10 o11 py0_12 py0_13 py0_14)), (y 2, .inr (1, o1_iiiiiirrrrrrriiiii py2_0 py2_1 py2_2 py2_3 py2_4 py2_5 (y 3) (y 4) (y 5) (y 6) (y 7) (y 8) (y 9) py2_13 py2_14 py2_15 py2_16 py2_17)), (y 30, aT V 4 (va_up (va_up (va_up (va_up (fun _ => none) 0 (some (y 33))) 1 (some (y 35))) 2 (some (y 37))) 3 (some (y 39)))), (y 33, .inr (7, o7_rii (y 34) py33_1 py33_2)), (y 34, aJ V 40 fy34), (y 35, .inr (7, o7_rii (y 36) py35_1 py35_2)), (y 36, aJ V 40 fy36), (y 37, .inr (7, o7_rii (y 38) py37_1 py37_2)), (y 38, aJ V 40 fy38), (y 39, .inr (7, o7_rii (y 40) py39_1 py39_2)), (y 40, aJ V 40 fy40)]) hP [9, 10, 0, 1, 2, 3, 4, 5, 6, 7, 8] rfl
      have hD := subD hP hD [9, 10, 0, 1, 2, 3, 4, 5, 6, 7, 8] rfl rfl
      exact fiI hx hb hr hlk hK hP hD hS dX9_refusalOfTold_17 (Nat.le_of_ble_eq_true rfl) (Nat.le_of_ble_eq_true rfl) (Or.inr (Or.inr (Or.inr (Or.inl ⟨c_7, c_8, c_24, c_25, rfl, (rfF_2 (by have z_0 := Int32.le_iff_toInt_le.mp (Int32.not_lt.mp c_7); have z_1 := Int32.lt_iff_toInt_lt.mp (Int32.not_le.mp c_8); have z_2 := Int32.le_iff_toInt_le.mp (Int32.not_lt.mp c_24); have z_3 := Int32.le_iff_toInt_le.mp c_25; have k_0 : (0 : Int32).toInt = 0 := (by decide); have k_4 : (4 : Int32).toInt = 4 := (by decide); omega)), rfl⟩))))
    · have hP : va_P V.1 vwCl [(y 30, aT V 4 (va_up (va_up (va_up (va_up (fun _ => none) 0 (some (y 33))) 1 (some (y 35))) 2 (some (y 37))) 3 (some (y 39)))), (y 33, .inr (7, o7_rii (y 34) py33_1 py33_2)), (y 34, aJ V 40 fy34), (y 35, .inr (7, o7_rii (y 36) py35_1 py35_2)), (y 36, aJ V 40 fy36), (y 37, .inr (7, o7_rii (y 38) py37_1 py37_2)), (y 38, aJ V 40 fy38), (y 39, .inr (7, o7_rii (y 40) py39_1 py39_2)), (y 40, aJ V 40 fy40), (y 0, .inr (9, o9_rirrrrrrrrvviii (y 1) py0_1 (y 2) (y 10) (y 19) (y 25) (y 26) (y 30) (y 31) (y 32) o10 o11 py0_12 py0_13 py0_14)), (y 2, .inr (1, o1_iiiiiirrrrrrriiiii py2_0 py2_1 py2_2 py2_3 py2_4 py2_5 (y 3) (y 4) (y 5) (y 6) (y 7) (y 8) (y 9) py2_13 py2_14 py2_15 py2_16 py2_17))] H := hP
      have hD := cpD hP hD
      have b_36 : iv 0 2147483647 a2 := iv_e2 (Int32.not_lt.mp c_27) (iv_c (0 : Int32) (a := 0) (b := 0) (by decide)) (iv_top a2) (by decide)
      have b_37 : iv 0 3 a2 := iv_l1 (Int32.not_le.mp c_28) b_36 bpy2_1 (by decide)
      have b_38 : iv 1 4 py2_1 := iv_l2 (Int32.not_le.mp c_28) b_36 bpy2_1 (by decide)
      refine lv_if_ne (tgt := 18) hx hb dX9_refusalOfTold_12 (by decide) (fun _ => ?_) (fun c_40 => absurd c_40 (by decide))
      refine lv_aload_n hx hb dX9_refusalOfTold_18 rfl (lv_at hl 0 rfl) ?_
      refine va_get (ci := 9) (v := .ref (y 30)) (C := RX9) (T := TX9) (N := 15) hx hb hg inX9 hown hK hP 9 rfl rfl 7 (by decide) (hg _ q_2_43) (fun _ h9 => h9) rfl dX9_refusalOfTold_19 ?_
      refine lv_iload_n hx hb dX9_refusalOfTold_22 rfl (lv_at hl 1 rfl) ?_
      have c_41 : a1 = 0 ∨ a1 = 1 ∨ a1 = 2 ∨ a1 = 3 := by have q9 := b_18; unfold iv at q9; simp only [tI_eq, (by decide : (0 : Int32).toInt = 0), (by decide : (1 : Int32).toInt = 1), (by decide : (2 : Int32).toInt = 2), (by decide : (3 : Int32).toInt = 3)]; omega
      rcases c_41 with rfl | rfl | rfl | rfl
      · refine va_aldq hx hb hK hP 0 4 rfl rfl (vin (by decide +kernel)) dX9_refusalOfTold_23 ?_
        refine W.eq (g2 := F0 m 24 ls (.ref (y 33) :: [])) rfl ?_
        refine lv_astore (lv' := [(4, .ref (y 33)), (0, .ref (y 0)), (1, .int 0), (2, .int a2), (3, .int a3)]) hx hb dX9_refusalOfTold_24 hl (by decide) rfl (fun ls hl => ?_)
        refine lv_aload hx hb dX9_refusalOfTold_26 (lv_at hl 0 rfl) ?_
        refine jnI (wr := [(y 30, aT V 4 (va_up (va_up (va_up (va_up (fun _ => none) 0 (some (y 33))) 1 (some (y 35))) 2 (some (y 37))) 3 (some (y 39)))), (y 34, aJ V 40 fy34), (y 35, .inr (7, o7_rii (y 36) py35_1 py35_2)), (y 36, aJ V 40 fy36), (y 37, .inr (7, o7_rii (y 38) py37_1 py37_2)), (y 38, aJ V 40 fy38), (y 39, .inr (7, o7_rii (y 40) py39_1 py39_2)), (y 40, aJ V 40 fy40), (y 0, .inr (9, o9_rirrrrrrrrvviii (y 1) py0_1 (y 2) (y 10) (y 19) (y 25) (y 26) (y 30) (y 31) (y 32) o10 o11 py0_12 py0_13 py0_14)), (y 2, .inr (1, o1_iiiiiirrrrrrriiiii py2_0 py2_1 py2_2 py2_3 py2_4 py2_5 (y 3) (y 4) (y 5) (y 6) (y 7) (y 8) (y 9) py2_13 py2_14 py2_15 py2_16 py2_17))]) (rnV (rest := []) ⟨hx, hb, hml, hown, hg⟩ (k_X7_isMissing_0 l V y py33_1 py33_2 bpy33_1) mt_X7_isMissing q_3_231 ⟨Nat.le_of_ble_eq_true rfl, Nat.le_of_ble_eq_true rfl⟩ hK hP hD hS hA hE [1] rfl rfl 1 rfl rfl rfl rfl hl.1 rfl (Nat.le_of_ble_eq_true rfl) dX9_refusalOfTold_28 ⟨Nat.le_of_ble_eq_true rfl, Nat.le_of_ble_eq_true rfl⟩) hP hD hS hA [1] [0, 2, 3, 4, 5, 6, 7, 8, 9, 10] rfl rfl rfl (by decide) (fun r_42 w H locs hw hP hD hS => ?_)
        rcases hw with ⟨c_43, rfl, et_44, rfl⟩ | ⟨c_45, rfl, et_46, rfl⟩
        · have hP : va_P V.1 vwCl [(y 30, aT V 4 (va_up (va_up (va_up (va_up (fun _ => none) 0 (some (y 33))) 1 (some (y 35))) 2 (some (y 37))) 3 (some (y 39)))), (y 34, aJ V 40 fy34), (y 35, .inr (7, o7_rii (y 36) py35_1 py35_2)), (y 36, aJ V 40 fy36), (y 37, .inr (7, o7_rii (y 38) py37_1 py37_2)), (y 38, aJ V 40 fy38), (y 39, .inr (7, o7_rii (y 40) py39_1 py39_2)), (y 40, aJ V 40 fy40), (y 0, .inr (9, o9_rirrrrrrrrvviii (y 1) py0_1 (y 2) (y 10) (y 19) (y 25) (y 26) (y 30) (y 31) (y 32) o10 o11 py0_12 py0_13 py0_14)), (y 2, .inr (1, o1_iiiiiirrrrrrriiiii py2_0 py2_1 py2_2 py2_3 py2_4 py2_5 (y 3) (y 4) (y 5) (y 6) (y 7) (y 8) (y 9) py2_13 py2_14 py2_15 py2_16 py2_17)), (y 33, .inr (7, o7_rii (y 34) py33_1 py33_2))] H := hP
          have hD := cpD hP hD
          have b_47 : iv 0 40 py33_1 := iv_e2 c_43 (iv_c (0 : Int32) (a := 0) (b := 0) (by decide)) bpy33_1 (by decide)
          refine lv_if_eq (tgt := 37) hx hb dX9_refusalOfTold_31 (by decide) (fun _ => ?_) (fun c_49 => absurd c_49 (by decide))
          refine lv_aload hx hb dX9_refusalOfTold_37 (lv_at hl 0 rfl) ?_
          refine va_get (ci := 7) (v := .int py33_1) (C := RX7) (T := TX7) (N := 3) hx hb hg inX7 hown hK hP 10 rfl rfl 1 (by decide) (hg _ q_2_2) (fun _ h9 => h9) rfl dX9_refusalOfTold_39 ?_
          refine lv_iconst (v := 1) hx hb dX9_refusalOfTold_42 (by decide) ?_
          refine lv_icmp_lt (tgt := 56) hx hb dX9_refusalOfTold_43 (by decide) (fun c_50 => ?_) (fun c_50 => ?_)
          · have b_51 : iv 0 0 py33_1 := iv_l1 c_50 b_47 (iv_c (1 : Int32) (a := 1) (b := 1) (by decide)) (by decide)
            refine lv_bipush (v := (-4)) hx hb dX9_refusalOfTold_56 (by decide) ?_
            have hP := subP (ws' := [(y 0, .inr (9, o9_rirrrrrrrrvviii (y 1) py0_1 (y 2) (y 10) (y 19) (y 25) (y 26) (y 30) (y 31) (y 32) o10 o11 py0_12 py0_13 py0_14)), (y 2, .inr (1, o1_iiiiiirrrrrrriiiii py2_0 py2_1 py2_2 py2_3 py2_4 py2_5 (y 3) (y 4) (y 5) (y 6) (y 7) (y 8) (y 9) py2_13 py2_14 py2_15 py2_16 py2_17)), (y 30, aT V 4 (va_up (va_up (va_up (va_up (fun _ => none) 0 (some (y 33))) 1 (some (y 35))) 2 (some (y 37))) 3 (some (y 39)))), (y 33, .inr (7, o7_rii (y 34) py33_1 py33_2)), (y 34, aJ V 40 fy34), (y 35, .inr (7, o7_rii (y 36) py35_1 py35_2)), (y 36, aJ V 40 fy36), (y 37, .inr (7, o7_rii (y 38) py37_1 py37_2)), (y 38, aJ V 40 fy38), (y 39, .inr (7, o7_rii (y 40) py39_1 py39_2)), (y 40, aJ V 40 fy40)]) hP [8, 9, 0, 10, 1, 2, 3, 4, 5, 6, 7] rfl
            have hD := subD hP hD [8, 9, 0, 10, 1, 2, 3, 4, 5, 6, 7] rfl rfl
            exact fiI hx hb hr hlk hK hP hD hS dX9_refusalOfTold_58 (Nat.le_of_ble_eq_true rfl) (Nat.le_of_ble_eq_true rfl) (Or.inr (Or.inr (Or.inr (Or.inr (Or.inl ⟨c_7, c_8, c_27, c_28, rfl, c_43, c_50, rfl, (rfF_t0 (by have z_0 := Int32.le_iff_toInt_le.mp (Int32.not_lt.mp c_7); have z_1 := Int32.lt_iff_toInt_lt.mp (Int32.not_le.mp c_8); have z_2 := Int32.le_iff_toInt_le.mp (Int32.not_lt.mp c_27); have z_3 := Int32.lt_iff_toInt_lt.mp (Int32.not_le.mp c_28); have z_4 := Int32.le_iff_toInt_le.mp c_43; have z_5 := Int32.lt_iff_toInt_lt.mp c_50; have k_0 : (0 : Int32).toInt = 0 := (by decide); have k_1 : (1 : Int32).toInt = 1 := (by decide); have k_4 : (4 : Int32).toInt = 4 := (by decide); omega) (rf2_4 (by have z_0 := Int32.le_iff_toInt_le.mp (Int32.not_lt.mp c_7); have z_1 := Int32.lt_iff_toInt_lt.mp (Int32.not_le.mp c_8); have z_2 := Int32.le_iff_toInt_le.mp (Int32.not_lt.mp c_27); have z_3 := Int32.lt_iff_toInt_lt.mp (Int32.not_le.mp c_28); have z_4 := Int32.le_iff_toInt_le.mp c_43; have z_5 := Int32.lt_iff_toInt_lt.mp c_50; have k_0 : (0 : Int32).toInt = 0 := (by decide); have k_1 : (1 : Int32).toInt = 1 := (by decide); have k_4 : (4 : Int32).toInt = 4 := (by decide); have kk_1 : (1 : Int32).toInt = 1 := (by decide); have kk_8 : (8 : Int32).toInt = 8 := (by decide); omega) (by have z_0 := Int32.le_iff_toInt_le.mp (Int32.not_lt.mp c_7); have z_1 := Int32.lt_iff_toInt_lt.mp (Int32.not_le.mp c_8); have z_2 := Int32.le_iff_toInt_le.mp (Int32.not_lt.mp c_27); have z_3 := Int32.lt_iff_toInt_lt.mp (Int32.not_le.mp c_28); have z_4 := Int32.le_iff_toInt_le.mp c_43; have z_5 := Int32.lt_iff_toInt_lt.mp c_50; have k_0 : (0 : Int32).toInt = 0 := (by decide); have k_1 : (1 : Int32).toInt = 1 := (by decide); have k_4 : (4 : Int32).toInt = 4 := (by decide); have kk_1 : (1 : Int32).toInt = 1 := (by decide); have kk_8 : (8 : Int32).toInt = 8 := (by decide); omega))), rfl⟩)))))
          · have b_52 : iv 1 40 py33_1 := iv_e2 (Int32.not_lt.mp c_50) (iv_c (1 : Int32) (a := 1) (b := 1) (by decide)) b_47 (by decide)
            refine lv_aload hx hb dX9_refusalOfTold_46 (lv_at hl 0 rfl) ?_
            refine va_get (ci := 7) (v := .int py33_1) (C := RX7) (T := TX7) (N := 3) hx hb hg inX7 hown hK hP 10 rfl rfl 1 (by decide) (hg _ q_2_2) (fun _ h9 => h9) rfl dX9_refusalOfTold_48 ?_
            refine lv_bipush (v := 8) hx hb dX9_refusalOfTold_51 (by decide) ?_
            refine lv_icmp_le (tgt := 59) hx hb dX9_refusalOfTold_53 (by decide) (fun c_53 => ?_) (fun c_53 => ?_)
            · have b_54 : iv 1 8 py33_1 := iv_e1 c_53 b_52 (iv_c (8 : Int32) (a := 8) (b := 8) (by decide)) (by decide)
              refine lv_iconst (v := 0) hx hb dX9_refusalOfTold_59 (by decide) ?_
              refine lv_istore (lv' := [(5, .int 0), (4, .ref (y 33)), (0, .ref (y 0)), (1, .int 0), (2, .int a2), (3, .int a3)]) hx hb dX9_refusalOfTold_60 hl (by decide) rfl (fun ls hl => ?_)
              refine loopF (X := fun (n_56 : Nat) (H : Heap) (locs : List Loc) (ls : Array Slot) => ∃ (u_55 : Int32), (iv 0 2147483647 u_55) ∧ (∀ j : Nat, (j : Int) < (u_55 : Int32).toInt → ¬ (fy34 j < (a3 : Int32).toInt64 ∨ 4 < fy34 j)) ∧ n_56 = (2147483647 - (u_55 : Int32).toInt).toNat ∧ va_P V.1 vwCl [(y 30, aT V 4 (va_up (va_up (va_up (va_up (fun _ => none) 0 (some (y 33))) 1 (some (y 35))) 2 (some (y 37))) 3 (some (y 39)))), (y 34, aJ V 40 fy34), (y 35, .inr (7, o7_rii (y 36) py35_1 py35_2)), (y 36, aJ V 40 fy36), (y 37, .inr (7, o7_rii (y 38) py37_1 py37_2)), (y 38, aJ V 40 fy38), (y 39, .inr (7, o7_rii (y 40) py39_1 py39_2)), (y 40, aJ V 40 fy40), (y 0, .inr (9, o9_rirrrrrrrrvviii (y 1) py0_1 (y 2) (y 10) (y 19) (y 25) (y 26) (y 30) (y 31) (y 32) o10 o11 py0_12 py0_13 py0_14)), (y 2, .inr (1, o1_iiiiiirrrrrrriiiii py2_0 py2_1 py2_2 py2_3 py2_4 py2_5 (y 3) (y 4) (y 5) (y 6) (y 7) (y 8) (y 9) py2_13 py2_14 py2_15 py2_16 py2_17)), (y 33, .inr (7, o7_rii (y 34) py33_1 py33_2))] H ∧ va_D A [(y 30, aT V 4 (va_up (va_up (va_up (va_up (fun _ => none) 0 (some (y 33))) 1 (some (y 35))) 2 (some (y 37))) 3 (some (y 39)))), (y 34, aJ V 40 fy34), (y 35, .inr (7, o7_rii (y 36) py35_1 py35_2)), (y 36, aJ V 40 fy36), (y 37, .inr (7, o7_rii (y 38) py37_1 py37_2)), (y 38, aJ V 40 fy38), (y 39, .inr (7, o7_rii (y 40) py39_1 py39_2)), (y 40, aJ V 40 fy40), (y 0, .inr (9, o9_rirrrrrrrrvviii (y 1) py0_1 (y 2) (y 10) (y 19) (y 25) (y 26) (y 30) (y 31) (y 32) o10 o11 py0_12 py0_13 py0_14)), (y 2, .inr (1, o1_iiiiiirrrrrrriiiii py2_0 py2_1 py2_2 py2_3 py2_4 py2_5 (y 3) (y 4) (y 5) (y 6) (y 7) (y 8) (y 9) py2_13 py2_14 py2_15 py2_16 py2_17)), (y 33, .inr (7, o7_rii (y 34) py33_1 py33_2))] ∧ va_S A s.heap H locs ∧ lv_has ls 6 [(5, .int u_55), (4, .ref (y 33)), (0, .ref (y 0)), (1, .int 0), (2, .int a2), (3, .int a3)]) (g := fun ls => F0 m 62 ls []) (fun n_56 H locs ls hX ihn_56 => ?_) _ ⟨0, (iv_c (0 : Int32) (by decide)), (fun j hj => absurd hj (by have h9 : (0 : Int32).toInt = 0 := (by decide); omega)), rfl, hP, hD, hS, lv_sub hl [0, 1, 2, 3, 4, 5] rfl⟩
              obtain ⟨u_55, bu_55, inn_56_0, en_56, hP, hD, hS, hl⟩ := hX
              refine lv_iload hx hb dX9_refusalOfTold_62 (lv_at hl 0 rfl) ?_
              refine lv_aload hx hb dX9_refusalOfTold_64 (lv_at hl 1 rfl) ?_
              refine va_get (ci := 7) (v := .int py33_1) (C := RX7) (T := TX7) (N := 3) hx hb hg inX7 hown hK hP 10 rfl rfl 1 (by decide) (hg _ q_2_2) (fun _ h9 => h9) rfl dX9_refusalOfTold_66 ?_
              refine lv_icmp_ge (tgt := 110) hx hb dX9_refusalOfTold_69 (by decide) (fun c_57 => ?_) (fun c_57 => ?_)
              · have b_58 : iv 1 2147483647 u_55 := iv_e2 c_57 b_54 bu_55 (by decide)
                refine lv_iconst (v := 0) hx hb dX9_refusalOfTold_110 (by decide) ?_
                have hP := subP (ws' := [(y 0, .inr (9, o9_rirrrrrrrrvviii (y 1) py0_1 (y 2) (y 10) (y 19) (y 25) (y 26) (y 30) (y 31) (y 32) o10 o11 py0_12 py0_13 py0_14)), (y 2, .inr (1, o1_iiiiiirrrrrrriiiii py2_0 py2_1 py2_2 py2_3 py2_4 py2_5 (y 3) (y 4) (y 5) (y 6) (y 7) (y 8) (y 9) py2_13 py2_14 py2_15 py2_16 py2_17)), (y 30, aT V 4 (va_up (va_up (va_up (va_up (fun _ => none) 0 (some (y 33))) 1 (some (y 35))) 2 (some (y 37))) 3 (some (y 39)))), (y 33, .inr (7, o7_rii (y 34) py33_1 py33_2)), (y 34, aJ V 40 fy34), (y 35, .inr (7, o7_rii (y 36) py35_1 py35_2)), (y 36, aJ V 40 fy36), (y 37, .inr (7, o7_rii (y 38) py37_1 py37_2)), (y 38, aJ V 40 fy38), (y 39, .inr (7, o7_rii (y 40) py39_1 py39_2)), (y 40, aJ V 40 fy40)]) hP [8, 9, 0, 10, 1, 2, 3, 4, 5, 6, 7] rfl
                have hD := subD hP hD [8, 9, 0, 10, 1, 2, 3, 4, 5, 6, 7] rfl rfl
                exact fiI hx hb hr hlk hK hP hD hS dX9_refusalOfTold_111 (Nat.le_of_ble_eq_true rfl) (Nat.le_of_ble_eq_true rfl) (Or.inr (Or.inr (Or.inr (Or.inr (Or.inr (Or.inl ⟨c_7, c_8, c_27, c_28, rfl, c_43, c_50, c_53, rfl, (rfF_t0 (by have z_0 := Int32.le_iff_toInt_le.mp (Int32.not_lt.mp c_7); have z_1 := Int32.lt_iff_toInt_lt.mp (Int32.not_le.mp c_8); have z_2 := Int32.le_iff_toInt_le.mp (Int32.not_lt.mp c_27); have z_3 := Int32.lt_iff_toInt_lt.mp (Int32.not_le.mp c_28); have z_4 := Int32.le_iff_toInt_le.mp c_43; have z_5 := Int32.le_iff_toInt_le.mp (Int32.not_lt.mp c_50); have z_6 := Int32.le_iff_toInt_le.mp c_53; have z_7 := Int32.le_iff_toInt_le.mp c_57; have k_0 : (0 : Int32).toInt = 0 := (by decide); have k_1 : (1 : Int32).toInt = 1 := (by decide); have k_4 : (4 : Int32).toInt = 4 := (by decide); have k_8 : (8 : Int32).toInt = 8 := (by decide); omega) (rf2_0 (u := u_55) (by have z_0 := Int32.le_iff_toInt_le.mp (Int32.not_lt.mp c_7); have z_1 := Int32.lt_iff_toInt_lt.mp (Int32.not_le.mp c_8); have z_2 := Int32.le_iff_toInt_le.mp (Int32.not_lt.mp c_27); have z_3 := Int32.lt_iff_toInt_lt.mp (Int32.not_le.mp c_28); have z_4 := Int32.le_iff_toInt_le.mp c_43; have z_5 := Int32.le_iff_toInt_le.mp (Int32.not_lt.mp c_50); have z_6 := Int32.le_iff_toInt_le.mp c_53; have z_7 := Int32.le_iff_toInt_le.mp c_57; have k_0 : (0 : Int32).toInt = 0 := (by decide); have k_1 : (1 : Int32).toInt = 1 := (by decide); have k_4 : (4 : Int32).toInt = 4 := (by decide); have k_8 : (8 : Int32).toInt = 8 := (by decide); have kk_1 : (1 : Int32).toInt = 1 := (by decide); have kk_8 : (8 : Int32).toInt = 8 := (by decide); omega) (by have z_0 := Int32.le_iff_toInt_le.mp (Int32.not_lt.mp c_7); have z_1 := Int32.lt_iff_toInt_lt.mp (Int32.not_le.mp c_8); have z_2 := Int32.le_iff_toInt_le.mp (Int32.not_lt.mp c_27); have z_3 := Int32.lt_iff_toInt_lt.mp (Int32.not_le.mp c_28); have z_4 := Int32.le_iff_toInt_le.mp c_43; have z_5 := Int32.le_iff_toInt_le.mp (Int32.not_lt.mp c_50); have z_6 := Int32.le_iff_toInt_le.mp c_53; have z_7 := Int32.le_iff_toInt_le.mp c_57; have k_0 : (0 : Int32).toInt = 0 := (by decide); have k_1 : (1 : Int32).toInt = 1 := (by decide); have k_4 : (4 : Int32).toInt = 4 := (by decide); have k_8 : (8 : Int32).toInt = 8 := (by decide); have kk_1 : (1 : Int32).toInt = 1 := (by decide); have kk_8 : (8 : Int32).toInt = 8 := (by decide); omega) inn_56_0 (by have z_0 := Int32.le_iff_toInt_le.mp (Int32.not_lt.mp c_7); have z_1 := Int32.lt_iff_toInt_lt.mp (Int32.not_le.mp c_8); have z_2 := Int32.le_iff_toInt_le.mp (Int32.not_lt.mp c_27); have z_3 := Int32.lt_iff_toInt_lt.mp (Int32.not_le.mp c_28); have z_4 := Int32.le_iff_toInt_le.mp c_43; have z_5 := Int32.le_iff_toInt_le.mp (Int32.not_lt.mp c_50); have z_6 := Int32.le_iff_toInt_le.mp c_53; have z_7 := Int32.le_iff_toInt_le.mp c_57; have k_0 : (0 : Int32).toInt = 0 := (by decide); have k_1 : (1 : Int32).toInt = 1 := (by decide); have k_4 : (4 : Int32).toInt = 4 := (by decide); have k_8 : (8 : Int32).toInt = 8 := (by decide); have kk_1 : (1 : Int32).toInt = 1 := (by decide); have kk_8 : (8 : Int32).toInt = 8 := (by decide); omega))), rfl⟩))))))
              · have b_59 : iv 0 7 u_55 := iv_l1 (Int32.not_le.mp c_57) bu_55 b_54 (by decide)
                refine lv_aload hx hb dX9_refusalOfTold_72 (lv_at hl 1 rfl) ?_
                refine va_get (ci := 7) (v := .ref (y 34)) (C := RX7) (T := TX7) (N := 3) hx hb hg inX7 hown hK hP 10 rfl rfl 0 (by decide) (hg _ q_1_239) (fun _ h9 => h9) rfl dX9_refusalOfTold_74 ?_
                refine lv_iload hx hb dX9_refusalOfTold_77 (lv_at hl 0 rfl) ?_
                refine va_lald hx hb hK hP 1 2 rfl rfl (iv_in b_59 (by decide)) dX9_refusalOfTold_79 ?_
                refine lv_topl (fun j_60 ej_60 => ?_)
                refine lv_iload_n hx hb dX9_refusalOfTold_80 rfl (lv_at hl 5 rfl) ?_
                refine lv_i2l hx hb dX9_refusalOfTold_81 rfl ?_
                refine lv_topl (fun j_61 ej_61 => ?_)
                refine W.lcmp hx hb dX9_refusalOfTold_82 ?_
                refine lv_if_lt (tgt := 101) hx hb dX9_refusalOfTold_83 (by decide) (fun c_62 => ?_) (fun c_62 => ?_)
                · replace c_62 : j_60 < j_61 := (lg_cmp_lt _ _).mp c_62
                  have b_63 : ivL (-9223372036854775808) 9223372036854775806 j_60 := ivL_l1 c_62 (ivL_top j_60) (ivL_top j_61) (by decide)
                  have b_64 : ivL (-9223372036854775807) 9223372036854775807 j_61 := ivL_l2 c_62 (ivL_top j_60) (ivL_top j_61) (by decide)
                  refine lv_bipush (v := (-3)) hx hb dX9_refusalOfTold_101 (by decide) ?_
                  have hP := subP (ws' := [(y 0, .inr (9, o9_rirrrrrrrrvviii (y 1) py0_1 (y 2) (y 10) (y 19) (y 25) (y 26) (y 30) (y 31) (y 32) o10 o11 py0_12 py0_13 py0_14)), (y 2, .inr (1, o1_iiiiiirrrrrrriiiii py2_0 py2_1 py2_2 py2_3 py2_4 py2_5 (y 3) (y 4) (y 5) (y 6) (y 7) (y 8) (y 9) py2_13 py2_14 py2_15 py2_16 py2_17)), (y 30, aT V 4 (va_up (va_up (va_up (va_up (fun _ => none) 0 (some (y 33))) 1 (some (y 35))) 2 (some (y 37))) 3 (some (y 39)))), (y 33, .inr (7, o7_rii (y 34) py33_1 py33_2)), (y 34, aJ V 40 fy34), (y 35, .inr (7, o7_rii (y 36) py35_1 py35_2)), (y 36, aJ V 40 fy36), (y 37, .inr (7, o7_rii (y 38) py37_1 py37_2)), (y 38, aJ V 40 fy38), (y 39, .inr (7, o7_rii (y 40) py39_1 py39_2)), (y 40, aJ V 40 fy40)]) hP [8, 9, 0, 10, 1, 2, 3, 4, 5, 6, 7] rfl
                  have hD := subD hP hD [8, 9, 0, 10, 1, 2, 3, 4, 5, 6, 7] rfl rfl
                  exact fiI hx hb hr hlk hK hP hD hS dX9_refusalOfTold_103 (Nat.le_of_ble_eq_true rfl) (Nat.le_of_ble_eq_true rfl) (Or.inr (Or.inr (Or.inr (Or.inr (Or.inr (Or.inr (Or.inl ⟨c_7, c_8, c_27, c_28, rfl, c_43, c_50, c_53, rfl, (rfF_t0 (by have z_0 := Int32.le_iff_toInt_le.mp (Int32.not_lt.mp c_7); have z_1 := Int32.lt_iff_toInt_lt.mp (Int32.not_le.mp c_8); have z_2 := Int32.le_iff_toInt_le.mp (Int32.not_lt.mp c_27); have z_3 := Int32.lt_iff_toInt_lt.mp (Int32.not_le.mp c_28); have z_4 := Int32.le_iff_toInt_le.mp c_43; have z_5 := Int32.le_iff_toInt_le.mp (Int32.not_lt.mp c_50); have z_6 := Int32.le_iff_toInt_le.mp c_53; have z_7 := Int32.lt_iff_toInt_lt.mp (Int32.not_le.mp c_57); have k_0 : (0 : Int32).toInt = 0 := (by decide); have k_1 : (1 : Int32).toInt = 1 := (by decide); have k_4 : (4 : Int32).toInt = 4 := (by decide); have k_8 : (8 : Int32).toInt = 8 := (by decide); omega) (rf2_3 (u := u_55) (by have z_0 := Int32.le_iff_toInt_le.mp (Int32.not_lt.mp c_7); have z_1 := Int32.lt_iff_toInt_lt.mp (Int32.not_le.mp c_8); have z_2 := Int32.le_iff_toInt_le.mp (Int32.not_lt.mp c_27); have z_3 := Int32.lt_iff_toInt_lt.mp (Int32.not_le.mp c_28); have z_4 := Int32.le_iff_toInt_le.mp c_43; have z_5 := Int32.le_iff_toInt_le.mp (Int32.not_lt.mp c_50); have z_6 := Int32.le_iff_toInt_le.mp c_53; have z_7 := Int32.lt_iff_toInt_lt.mp (Int32.not_le.mp c_57); have k_0 : (0 : Int32).toInt = 0 := (by decide); have k_1 : (1 : Int32).toInt = 1 := (by decide); have k_4 : (4 : Int32).toInt = 4 := (by decide); have k_8 : (8 : Int32).toInt = 8 := (by decide); have kk_1 : (1 : Int32).toInt = 1 := (by decide); have kk_8 : (8 : Int32).toInt = 8 := (by decide); omega) (by have z_0 := Int32.le_iff_toInt_le.mp (Int32.not_lt.mp c_7); have z_1 := Int32.lt_iff_toInt_lt.mp (Int32.not_le.mp c_8); have z_2 := Int32.le_iff_toInt_le.mp (Int32.not_lt.mp c_27); have z_3 := Int32.lt_iff_toInt_lt.mp (Int32.not_le.mp c_28); have z_4 := Int32.le_iff_toInt_le.mp c_43; have z_5 := Int32.le_iff_toInt_le.mp (Int32.not_lt.mp c_50); have z_6 := Int32.le_iff_toInt_le.mp c_53; have z_7 := Int32.lt_iff_toInt_lt.mp (Int32.not_le.mp c_57); have k_0 : (0 : Int32).toInt = 0 := (by decide); have k_1 : (1 : Int32).toInt = 1 := (by decide); have k_4 : (4 : Int32).toInt = 4 := (by decide); have k_8 : (8 : Int32).toInt = 8 := (by decide); have kk_1 : (1 : Int32).toInt = 1 := (by decide); have kk_8 : (8 : Int32).toInt = 8 := (by decide); omega) b_59 (by decide) (by have z_0 := Int32.le_iff_toInt_le.mp (Int32.not_lt.mp c_7); have z_1 := Int32.lt_iff_toInt_lt.mp (Int32.not_le.mp c_8); have z_2 := Int32.le_iff_toInt_le.mp (Int32.not_lt.mp c_27); have z_3 := Int32.lt_iff_toInt_lt.mp (Int32.not_le.mp c_28); have z_4 := Int32.le_iff_toInt_le.mp c_43; have z_5 := Int32.le_iff_toInt_le.mp (Int32.not_lt.mp c_50); have z_6 := Int32.le_iff_toInt_le.mp c_53; have z_7 := Int32.lt_iff_toInt_lt.mp (Int32.not_le.mp c_57); have k_0 : (0 : Int32).toInt = 0 := (by decide); have k_1 : (1 : Int32).toInt = 1 := (by decide); have k_4 : (4 : Int32).toInt = 4 := (by decide); have k_8 : (8 : Int32).toInt = 8 := (by decide); have kk_1 : (1 : Int32).toInt = 1 := (by decide); have kk_8 : (8 : Int32).toInt = 8 := (by decide); omega) (Or.inl (by rw [← ej_60, ← ej_61]; exact c_62)))), rfl⟩)))))))
                · replace c_62 : ¬ j_60 < j_61 := fun z => c_62 ((lg_cmp_lt _ _).mpr z)
                  refine lv_aload hx hb dX9_refusalOfTold_86 (lv_at hl 1 rfl) ?_
                  refine va_get (ci := 7) (v := .ref (y 34)) (C := RX7) (T := TX7) (N := 3) hx hb hg inX7 hown hK hP 10 rfl rfl 0 (by decide) (hg _ q_1_239) (fun _ h9 => h9) rfl dX9_refusalOfTold_88 ?_
                  refine lv_iload hx hb dX9_refusalOfTold_91 (lv_at hl 0 rfl) ?_
                  refine va_lald hx hb hK hP 1 2 rfl rfl (iv_in b_59 (by decide)) dX9_refusalOfTold_93 ?_
                  refine tpl (y := j_60) ej_60.symm ?_
                  refine lv_ldc2 (v := 4) hx hb hown (hg _ q_5_25) dX9_refusalOfTold_94 ?_
                  refine W.lcmp hx hb dX9_refusalOfTold_97 ?_
                  refine lv_if_le (tgt := 104) hx hb dX9_refusalOfTold_98 (by decide) (fun c_65 => ?_) (fun c_65 => ?_)
                  · replace c_65 : j_60 ≤ (4 : Int64) := (lg_cmp_le _ _).mp c_65
                    have b_66 : ivL (-9223372036854775808) 4 j_60 := ivL_e1 c_65 (ivL_top j_60) (ivL_c (4 : Int64) (a := 4) (b := 4) (by decide)) (by decide)
                    obtain ⟨x_67, ex_67⟩ : ∃ z9 : Int32, z9 = u_55 + 1 := ⟨_, rfl⟩
                    have bx_67 : iv 1 8 x_67 := by rw [ex_67]; exact iv_add b_59 (iv_c (1 : Int32) (a := 1) (b := 1) (by decide)) (by decide)
                    refine lv_iinc (v := x_67) (lv' := [(5, .int x_67), (4, .ref (y 33)), (0, .ref (y 0)), (1, .int 0), (2, .int a2), (3, .int a3)]) hx hb dX9_refusalOfTold_104 hl (k := 0) rfl (by rw [ex_67]; rfl) (by decide) rfl (fun ls hl => ?_)
                    refine lv_goto (tgt := 62) hx hb dX9_refusalOfTold_107 (by decide) ?_
                    exact ihn_56 _ _ _ _ (by rw [en_56, ex_67]; exact mu_up b_59 (by decide)) ⟨x_67, (iv_w bx_67 (by decide)), (rf_s inn_56_0 b_59 (by decide) ej_60 ej_61 c_62 c_65 ex_67), rfl, hP, hD, hS, lv_sub hl [0, 1, 2, 3, 4, 5] rfl⟩
                  · replace c_65 : ¬ j_60 ≤ (4 : Int64) := fun z => c_65 ((lg_cmp_le _ _).mpr z)
                    have b_68 : ivL 5 9223372036854775807 j_60 := ivL_l2 (Int64.not_le.mp c_65) (ivL_c (4 : Int64) (a := 4) (b := 4) (by decide)) (ivL_top j_60) (by decide)
                    refine lv_bipush (v := (-3)) hx hb dX9_refusalOfTold_101 (by decide) ?_
                    have hP := subP (ws' := [(y 0, .inr (9, o9_rirrrrrrrrvviii (y 1) py0_1 (y 2) (y 10) (y 19) (y 25) (y 26) (y 30) (y 31) (y 32) o10 o11 py0_12 py0_13 py0_14)), (y 2, .inr (1, o1_iiiiiirrrrrrriiiii py2_0 py2_1 py2_2 py2_3 py2_4 py2_5 (y 3) (y 4) (y 5) (y 6) (y 7) (y 8) (y 9) py2_13 py2_14 py2_15 py2_16 py2_17)), (y 30, aT V 4 (va_up (va_up (va_up (va_up (fun _ => none) 0 (some (y 33))) 1 (some (y 35))) 2 (some (y 37))) 3 (some (y 39)))), (y 33, .inr (7, o7_rii (y 34) py33_1 py33_2)), (y 34, aJ V 40 fy34), (y 35, .inr (7, o7_rii (y 36) py35_1 py35_2)), (y 36, aJ V 40 fy36), (y 37, .inr (7, o7_rii (y 38) py37_1 py37_2)), (y 38, aJ V 40 fy38), (y 39, .inr (7, o7_rii (y 40) py39_1 py39_2)), (y 40, aJ V 40 fy40)]) hP [8, 9, 0, 10, 1, 2, 3, 4, 5, 6, 7] rfl
                    have hD := subD hP hD [8, 9, 0, 10, 1, 2, 3, 4, 5, 6, 7] rfl rfl
                    exact fiI hx hb hr hlk hK hP hD hS dX9_refusalOfTold_103 (Nat.le_of_ble_eq_true rfl) (Nat.le_of_ble_eq_true rfl) (Or.inr (Or.inr (Or.inr (Or.inr (Or.inr (Or.inr (Or.inl ⟨c_7, c_8, c_27, c_28, rfl, c_43, c_50, c_53, rfl, (rfF_t0 (by have z_0 := Int32.le_iff_toInt_le.mp (Int32.not_lt.mp c_7); have z_1 := Int32.lt_iff_toInt_lt.mp (Int32.not_le.mp c_8); have z_2 := Int32.le_iff_toInt_le.mp (Int32.not_lt.mp c_27); have z_3 := Int32.lt_iff_toInt_lt.mp (Int32.not_le.mp c_28); have z_4 := Int32.le_iff_toInt_le.mp c_43; have z_5 := Int32.le_iff_toInt_le.mp (Int32.not_lt.mp c_50); have z_6 := Int32.le_iff_toInt_le.mp c_53; have z_7 := Int32.lt_iff_toInt_lt.mp (Int32.not_le.mp c_57); have k_0 : (0 : Int32).toInt = 0 := (by decide); have k_1 : (1 : Int32).toInt = 1 := (by decide); have k_4 : (4 : Int32).toInt = 4 := (by decide); have k_8 : (8 : Int32).toInt = 8 := (by decide); omega) (rf2_3 (u := u_55) (by have z_0 := Int32.le_iff_toInt_le.mp (Int32.not_lt.mp c_7); have z_1 := Int32.lt_iff_toInt_lt.mp (Int32.not_le.mp c_8); have z_2 := Int32.le_iff_toInt_le.mp (Int32.not_lt.mp c_27); have z_3 := Int32.lt_iff_toInt_lt.mp (Int32.not_le.mp c_28); have z_4 := Int32.le_iff_toInt_le.mp c_43; have z_5 := Int32.le_iff_toInt_le.mp (Int32.not_lt.mp c_50); have z_6 := Int32.le_iff_toInt_le.mp c_53; have z_7 := Int32.lt_iff_toInt_lt.mp (Int32.not_le.mp c_57); have k_0 : (0 : Int32).toInt = 0 := (by decide); have k_1 : (1 : Int32).toInt = 1 := (by decide); have k_4 : (4 : Int32).toInt = 4 := (by decide); have k_8 : (8 : Int32).toInt = 8 := (by decide); have kk_1 : (1 : Int32).toInt = 1 := (by decide); have kk_8 : (8 : Int32).toInt = 8 := (by decide); omega) (by have z_0 := Int32.le_iff_toInt_le.mp (Int32.not_lt.mp c_7); have z_1 := Int32.lt_iff_toInt_lt.mp (Int32.not_le.mp c_8); have z_2 := Int32.le_iff_toInt_le.mp (Int32.not_lt.mp c_27); have z_3 := Int32.lt_iff_toInt_lt.mp (Int32.not_le.mp c_28); have z_4 := Int32.le_iff_toInt_le.mp c_43; have z_5 := Int32.le_iff_toInt_le.mp (Int32.not_lt.mp c_50); have z_6 := Int32.le_iff_toInt_le.mp c_53; have z_7 := Int32.lt_iff_toInt_lt.mp (Int32.not_le.mp c_57); have k_0 : (0 : Int32).toInt = 0 := (by decide); have k_1 : (1 : Int32).toInt = 1 := (by decide); have k_4 : (4 : Int32).toInt = 4 := (by decide); have k_8 : (8 : Int32).toInt = 8 := (by decide); have kk_1 : (1 : Int32).toInt = 1 := (by decide); have kk_8 : (8 : Int32).toInt = 8 := (by decide); omega) b_59 (by decide) (by have z_0 := Int32.le_iff_toInt_le.mp (Int32.not_lt.mp c_7); have z_1 := Int32.lt_iff_toInt_lt.mp (Int32.not_le.mp c_8); have z_2 := Int32.le_iff_toInt_le.mp (Int32.not_lt.mp c_27); have z_3 := Int32.lt_iff_toInt_lt.mp (Int32.not_le.mp c_28); have z_4 := Int32.le_iff_toInt_le.mp c_43; have z_5 := Int32.le_iff_toInt_le.mp (Int32.not_lt.mp c_50); have z_6 := Int32.le_iff_toInt_le.mp c_53; have z_7 := Int32.lt_iff_toInt_lt.mp (Int32.not_le.mp c_57); have k_0 : (0 : Int32).toInt = 0 := (by decide); have k_1 : (1 : Int32).toInt = 1 := (by decide); have k_4 : (4 : Int32).toInt = 4 := (by decide); have k_8 : (8 : Int32).toInt = 8 := (by decide); have kk_1 : (1 : Int32).toInt = 1 := (by decide); have kk_8 : (8 : Int32).toInt = 8 := (by decide); omega) (Or.inr (by rw [← ej_60]; exact Int64.not_le.mp c_65)))), rfl⟩)))))))
            · have b_69 : iv 9 40 py33_1 := iv_l2 (Int32.not_le.mp c_53) (iv_c (8 : Int32) (a := 8) (b := 8) (by decide)) b_52 (by decide)
              refine lv_bipush (v := (-4)) hx hb dX9_refusalOfTold_56 (by decide) ?_
              have hP := subP (ws' := [(y 0, .inr (9, o9_rirrrrrrrrvviii (y 1) py0_1 (y 2) (y 10) (y 19) (y 25) (y 26) (y 30) (y 31) (y 32) o10 o11 py0_12 py0_13 py0_14)), (y 2, .inr (1, o1_iiiiiirrrrrrriiiii py2_0 py2_1 py2_2 py2_3 py2_4 py2_5 (y 3) (y 4) (y 5) (y 6) (y 7) (y 8) (y 9) py2_13 py2_14 py2_15 py2_16 py2_17)), (y 30, aT V 4 (va_up (va_up (va_up (va_up (fun _ => none) 0 (some (y 33))) 1 (some (y 35))) 2 (some (y 37))) 3 (some (y 39)))), (y 33, .inr (7, o7_rii (y 34) py33_1 py33_2)), (y 34, aJ V 40 fy34), (y 35, .inr (7, o7_rii (y 36) py35_1 py35_2)), (y 36, aJ V 40 fy36), (y 37, .inr (7, o7_rii (y 38) py37_1 py37_2)), (y 38, aJ V 40 fy38), (y 39, .inr (7, o7_rii (y 40) py39_1 py39_2)), (y 40, aJ V 40 fy40)]) hP [8, 9, 0, 10, 1, 2, 3, 4, 5, 6, 7] rfl
              have hD := subD hP hD [8, 9, 0, 10, 1, 2, 3, 4, 5, 6, 7] rfl rfl
              exact fiI hx hb hr hlk hK hP hD hS dX9_refusalOfTold_58 (Nat.le_of_ble_eq_true rfl) (Nat.le_of_ble_eq_true rfl) (Or.inr (Or.inr (Or.inr (Or.inr (Or.inr (Or.inr (Or.inr (Or.inl ⟨c_7, c_8, c_27, c_28, rfl, c_43, c_50, c_53, rfl, (rfF_t0 (by have z_0 := Int32.le_iff_toInt_le.mp (Int32.not_lt.mp c_7); have z_1 := Int32.lt_iff_toInt_lt.mp (Int32.not_le.mp c_8); have z_2 := Int32.le_iff_toInt_le.mp (Int32.not_lt.mp c_27); have z_3 := Int32.lt_iff_toInt_lt.mp (Int32.not_le.mp c_28); have z_4 := Int32.le_iff_toInt_le.mp c_43; have z_5 := Int32.le_iff_toInt_le.mp (Int32.not_lt.mp c_50); have z_6 := Int32.lt_iff_toInt_lt.mp (Int32.not_le.mp c_53); have k_0 : (0 : Int32).toInt = 0 := (by decide); have k_1 : (1 : Int32).toInt = 1 := (by decide); have k_4 : (4 : Int32).toInt = 4 := (by decide); have k_8 : (8 : Int32).toInt = 8 := (by decide); omega) (rf2_4 (by have z_0 := Int32.le_iff_toInt_le.mp (Int32.not_lt.mp c_7); have z_1 := Int32.lt_iff_toInt_lt.mp (Int32.not_le.mp c_8); have z_2 := Int32.le_iff_toInt_le.mp (Int32.not_lt.mp c_27); have z_3 := Int32.lt_iff_toInt_lt.mp (Int32.not_le.mp c_28); have z_4 := Int32.le_iff_toInt_le.mp c_43; have z_5 := Int32.le_iff_toInt_le.mp (Int32.not_lt.mp c_50); have z_6 := Int32.lt_iff_toInt_lt.mp (Int32.not_le.mp c_53); have k_0 : (0 : Int32).toInt = 0 := (by decide); have k_1 : (1 : Int32).toInt = 1 := (by decide); have k_4 : (4 : Int32).toInt = 4 := (by decide); have k_8 : (8 : Int32).toInt = 8 := (by decide); have kk_1 : (1 : Int32).toInt = 1 := (by decide); have kk_8 : (8 : Int32).toInt = 8 := (by decide); omega) (by have z_0 := Int32.le_iff_toInt_le.mp (Int32.not_lt.mp c_7); have z_1 := Int32.lt_iff_toInt_lt.mp (Int32.not_le.mp c_8); have z_2 := Int32.le_iff_toInt_le.mp (Int32.not_lt.mp c_27); have z_3 := Int32.lt_iff_toInt_lt.mp (Int32.not_le.mp c_28); have z_4 := Int32.le_iff_toInt_le.mp c_43; have z_5 := Int32.le_iff_toInt_le.mp (Int32.not_lt.mp c_50); have z_6 := Int32.lt_iff_toInt_lt.mp (Int32.not_le.mp c_53); have k_0 : (0 : Int32).toInt = 0 := (by decide); have k_1 : (1 : Int32).toInt = 1 := (by decide); have k_4 : (4 : Int32).toInt = 4 := (by decide); have k_8 : (8 : Int32).toInt = 8 := (by decide); have kk_1 : (1 : Int32).toInt = 1 := (by decide); have kk_8 : (8 : Int32).toInt = 8 := (by decide); omega))), rfl⟩))))))))
        · have hP : va_P V.1 vwCl [(y 30, aT V 4 (va_up (va_up (va_up (va_up (fun _ => none) 0 (some (y 33))) 1 (some (y 35))) 2 (some (y 37))) 3 (some (y 39)))), (y 34, aJ V 40 fy34), (y 35, .inr (7, o7_rii (y 36) py35_1 py35_2)), (y 36, aJ V 40 fy36), (y 37, .inr (7, o7_rii (y 38) py37_1 py37_2)), (y 38, aJ V 40 fy38), (y 39, .inr (7, o7_rii (y 40) py39_1 py39_2)), (y 40, aJ V 40 fy40), (y 0, .inr (9, o9_rirrrrrrrrvviii (y 1) py0_1 (y 2) (y 10) (y 19) (y 25) (y 26) (y 30) (y 31) (y 32) o10 o11 py0_12 py0_13 py0_14)), (y 2, .inr (1, o1_iiiiiirrrrrrriiiii py2_0 py2_1 py2_2 py2_3 py2_4 py2_5 (y 3) (y 4) (y 5) (y 6) (y 7) (y 8) (y 9) py2_13 py2_14 py2_15 py2_16 py2_17)), (y 33, .inr (7, o7_rii (y 34) py33_1 py33_2))] H := hP
          have hD := cpD hP hD
          have b_70 : iv (-1) (-1) py33_1 := iv_l1 (Int32.not_le.mp c_45) bpy33_1 (iv_c (0 : Int32) (a := 0) (b := 0) (by decide)) (by decide)
          refine lv_if_eq (tgt := 37) hx hb dX9_refusalOfTold_31 (by decide) (fun c_72 => absurd c_72 (by decide)) (fun _ => ?_)
          refine lv_bipush (v := (-6)) hx hb dX9_refusalOfTold_34 (by decide) ?_
          have hP := subP (ws' := [(y 0, .inr (9, o9_rirrrrrrrrvviii (y 1) py0_1 (y 2) (y 10) (y 19) (y 25) (y 26) (y 30) (y 31) (y 32) o10 o11 py0_12 py0_13 py0_14)), (y 2, .inr (1, o1_iiiiiirrrrrrriiiii py2_0 py2_1 py2_2 py2_3 py2_4 py2_5 (y 3) (y 4) (y 5) (y 6) (y 7) (y 8) (y 9) py2_13 py2_14 py2_15 py2_16 py2_17)), (y 30, aT V 4 (va_up (va_up (va_up (va_up (fun _ => none) 0 (some (y 33))) 1 (some (y 35))) 2 (some (y 37))) 3 (some (y 39)))), (y 33, .inr (7, o7_rii (y 34) py33_1 py33_2)), (y 34, aJ V 40 fy34), (y 35, .inr (7, o7_rii (y 36) py35_1 py35_2)), (y 36, aJ V 40 fy36), (y 37, .inr (7, o7_rii (y 38) py37_1 py37_2)), (y 38, aJ V 40 fy38), (y 39, .inr (7, o7_rii (y 40) py39_1 py39_2)), (y 40, aJ V 40 fy40)]) hP [8, 9, 0, 10, 1, 2, 3, 4, 5, 6, 7] rfl
          have hD := subD hP hD [8, 9, 0, 10, 1, 2, 3, 4, 5, 6, 7] rfl rfl
          exact fiI hx hb hr hlk hK hP hD hS dX9_refusalOfTold_36 (Nat.le_of_ble_eq_true rfl) (Nat.le_of_ble_eq_true rfl) (Or.inr (Or.inr (Or.inr (Or.inr (Or.inr (Or.inr (Or.inr (Or.inr (Or.inl ⟨c_7, c_8, c_27, c_28, rfl, c_45, rfl, (rfF_t0 (by have z_0 := Int32.le_iff_toInt_le.mp (Int32.not_lt.mp c_7); have z_1 := Int32.lt_iff_toInt_lt.mp (Int32.not_le.mp c_8); have z_2 := Int32.le_iff_toInt_le.mp (Int32.not_lt.mp c_27); have z_3 := Int32.lt_iff_toInt_lt.mp (Int32.not_le.mp c_28); have z_4 := Int32.lt_iff_toInt_lt.mp (Int32.not_le.mp c_45); have k_0 : (0 : Int32).toInt = 0 := (by decide); have k_4 : (4 : Int32).toInt = 4 := (by decide); omega) (rf2_6 (by have z_0 := Int32.le_iff_toInt_le.mp (Int32.not_lt.mp c_7); have z_1 := Int32.lt_iff_toInt_lt.mp (Int32.not_le.mp c_8); have z_2 := Int32.le_iff_toInt_le.mp (Int32.not_lt.mp c_27); have z_3 := Int32.lt_iff_toInt_lt.mp (Int32.not_le.mp c_28); have z_4 := Int32.lt_iff_toInt_lt.mp (Int32.not_le.mp c_45); have k_0 : (0 : Int32).toInt = 0 := (by decide); have k_4 : (4 : Int32).toInt = 4 := (by decide); have kk_1 : (1 : Int32).toInt = 1 := (by decide); have kk_8 : (8 : Int32).toInt = 8 := (by decide); omega))), rfl⟩)))))))))
      · refine va_aldq hx hb hK hP 0 4 rfl rfl (vin (by decide +kernel)) dX9_refusalOfTold_23 ?_
        refine W.eq (g2 := F0 m 24 ls (.ref (y 35) :: [])) rfl ?_
        refine lv_astore (lv' := [(4, .ref (y 35)), (0, .ref (y 0)), (1, .int 1), (2, .int a2), (3, .int a3)]) hx hb dX9_refusalOfTold_24 hl (by decide) rfl (fun ls hl => ?_)
        refine lv_aload hx hb dX9_refusalOfTold_26 (lv_at hl 0 rfl) ?_
        refine jnI (wr := [(y 30, aT V 4 (va_up (va_up (va_up (va_up (fun _ => none) 0 (some (y 33))) 1 (some (y 35))) 2 (some (y 37))) 3 (some (y 39)))), (y 33, .inr (7, o7_rii (y 34) py33_1 py33_2)), (y 34, aJ V 40 fy34), (y 36, aJ V 40 fy36), (y 37, .inr (7, o7_rii (y 38) py37_1 py37_2)), (y 38, aJ V 40 fy38), (y 39, .inr (7, o7_rii (y 40) py39_1 py39_2)), (y 40, aJ V 40 fy40), (y 0, .inr (9, o9_rirrrrrrrrvviii (y 1) py0_1 (y 2) (y 10) (y 19) (y 25) (y 26) (y 30) (y 31) (y 32) o10 o11 py0_12 py0_13 py0_14)), (y 2, .inr (1, o1_iiiiiirrrrrrriiiii py2_0 py2_1 py2_2 py2_3 py2_4 py2_5 (y 3) (y 4) (y 5) (y 6) (y 7) (y 8) (y 9) py2_13 py2_14 py2_15 py2_16 py2_17))]) (rnV (rest := []) ⟨hx, hb, hml, hown, hg⟩ (k_X7_isMissing_1 l V y py35_1 py35_2 bpy35_1) mt_X7_isMissing q_3_231 ⟨Nat.le_of_ble_eq_true rfl, Nat.le_of_ble_eq_true rfl⟩ hK hP hD hS hA hE [3] rfl rfl 3 rfl rfl rfl rfl hl.1 rfl (Nat.le_of_ble_eq_true rfl) dX9_refusalOfTold_28 ⟨Nat.le_of_ble_eq_true rfl, Nat.le_of_ble_eq_true rfl⟩) hP hD hS hA [3] [0, 1, 2, 4, 5, 6, 7, 8, 9, 10] rfl rfl rfl (by decide) (fun r_73 w H locs hw hP hD hS => ?_)
        rcases hw with ⟨c_74, rfl, et_75, rfl⟩ | ⟨c_76, rfl, et_77, rfl⟩
        · have hP : va_P V.1 vwCl [(y 30, aT V 4 (va_up (va_up (va_up (va_up (fun _ => none) 0 (some (y 33))) 1 (some (y 35))) 2 (some (y 37))) 3 (some (y 39)))), (y 33, .inr (7, o7_rii (y 34) py33_1 py33_2)), (y 34, aJ V 40 fy34), (y 36, aJ V 40 fy36), (y 37, .inr (7, o7_rii (y 38) py37_1 py37_2)), (y 38, aJ V 40 fy38), (y 39, .inr (7, o7_rii (y 40) py39_1 py39_2)), (y 40, aJ V 40 fy40), (y 0, .inr (9, o9_rirrrrrrrrvviii (y 1) py0_1 (y 2) (y 10) (y 19) (y 25) (y 26) (y 30) (y 31) (y 32) o10 o11 py0_12 py0_13 py0_14)), (y 2, .inr (1, o1_iiiiiirrrrrrriiiii py2_0 py2_1 py2_2 py2_3 py2_4 py2_5 (y 3) (y 4) (y 5) (y 6) (y 7) (y 8) (y 9) py2_13 py2_14 py2_15 py2_16 py2_17)), (y 35, .inr (7, o7_rii (y 36) py35_1 py35_2))] H := hP
          have hD := cpD hP hD
          have b_78 : iv 0 40 py35_1 := iv_e2 c_74 (iv_c (0 : Int32) (a := 0) (b := 0) (by decide)) bpy35_1 (by decide)
          refine lv_if_eq (tgt := 37) hx hb dX9_refusalOfTold_31 (by decide) (fun _ => ?_) (fun c_80 => absurd c_80 (by decide))
          refine lv_aload hx hb dX9_refusalOfTold_37 (lv_at hl 0 rfl) ?_
          refine va_get (ci := 7) (v := .int py35_1) (C := RX7) (T := TX7) (N := 3) hx hb hg inX7 hown hK hP 10 rfl rfl 1 (by decide) (hg _ q_2_2) (fun _ h9 => h9) rfl dX9_refusalOfTold_39 ?_
          refine lv_iconst (v := 1) hx hb dX9_refusalOfTold_42 (by decide) ?_
          refine lv_icmp_lt (tgt := 56) hx hb dX9_refusalOfTold_43 (by decide) (fun c_81 => ?_) (fun c_81 => ?_)
          · have b_82 : iv 0 0 py35_1 := iv_l1 c_81 b_78 (iv_c (1 : Int32) (a := 1) (b := 1) (by decide)) (by decide)
            refine lv_bipush (v := (-4)) hx hb dX9_refusalOfTold_56 (by decide) ?_
            have hP := subP (ws' := [(y 0, .inr (9, o9_rirrrrrrrrvviii (y 1) py0_1 (y 2) (y 10) (y 19) (y 25) (y 26) (y 30) (y 31) (y 32) o10 o11 py0_12 py0_13 py0_14)), (y 2, .inr (1, o1_iiiiiirrrrrrriiiii py2_0 py2_1 py2_2 py2_3 py2_4 py2_5 (y 3) (y 4) (y 5) (y 6) (y 7) (y 8) (y 9) py2_13 py2_14 py2_15 py2_16 py2_17)), (y 30, aT V 4 (va_up (va_up (va_up (va_up (fun _ => none) 0 (some (y 33))) 1 (some (y 35))) 2 (some (y 37))) 3 (some (y 39)))), (y 33, .inr (7, o7_rii (y 34) py33_1 py33_2)), (y 34, aJ V 40 fy34), (y 35, .inr (7, o7_rii (y 36) py35_1 py35_2)), (y 36, aJ V 40 fy36), (y 37, .inr (7, o7_rii (y 38) py37_1 py37_2)), (y 38, aJ V 40 fy38), (y 39, .inr (7, o7_rii (y 40) py39_1 py39_2)), (y 40, aJ V 40 fy40)]) hP [8, 9, 0, 1, 2, 10, 3, 4, 5, 6, 7] rfl
            have hD := subD hP hD [8, 9, 0, 1, 2, 10, 3, 4, 5, 6, 7] rfl rfl
            exact fiI hx hb hr hlk hK hP hD hS dX9_refusalOfTold_58 (Nat.le_of_ble_eq_true rfl) (Nat.le_of_ble_eq_true rfl) (Or.inr (Or.inr (Or.inr (Or.inr (Or.inr (Or.inr (Or.inr (Or.inr (Or.inr (Or.inl ⟨c_7, c_8, c_27, c_28, rfl, c_74, c_81, rfl, (rfF_t1 (by have z_0 := Int32.le_iff_toInt_le.mp (Int32.not_lt.mp c_7); have z_1 := Int32.lt_iff_toInt_lt.mp (Int32.not_le.mp c_8); have z_2 := Int32.le_iff_toInt_le.mp (Int32.not_lt.mp c_27); have z_3 := Int32.lt_iff_toInt_lt.mp (Int32.not_le.mp c_28); have z_4 := Int32.le_iff_toInt_le.mp c_74; have z_5 := Int32.lt_iff_toInt_lt.mp c_81; have k_0 : (0 : Int32).toInt = 0 := (by decide); have k_1 : (1 : Int32).toInt = 1 := (by decide); have k_4 : (4 : Int32).toInt = 4 := (by decide); omega) (rf2_4 (by have z_0 := Int32.le_iff_toInt_le.mp (Int32.not_lt.mp c_7); have z_1 := Int32.lt_iff_toInt_lt.mp (Int32.not_le.mp c_8); have z_2 := Int32.le_iff_toInt_le.mp (Int32.not_lt.mp c_27); have z_3 := Int32.lt_iff_toInt_lt.mp (Int32.not_le.mp c_28); have z_4 := Int32.le_iff_toInt_le.mp c_74; have z_5 := Int32.lt_iff_toInt_lt.mp c_81; have k_0 : (0 : Int32).toInt = 0 := (by decide); have k_1 : (1 : Int32).toInt = 1 := (by decide); have k_4 : (4 : Int32).toInt = 4 := (by decide); have kk_1 : (1 : Int32).toInt = 1 := (by decide); have kk_8 : (8 : Int32).toInt = 8 := (by decide); omega) (by have z_0 := Int32.le_iff_toInt_le.mp (Int32.not_lt.mp c_7); have z_1 := Int32.lt_iff_toInt_lt.mp (Int32.not_le.mp c_8); have z_2 := Int32.le_iff_toInt_le.mp (Int32.not_lt.mp c_27); have z_3 := Int32.lt_iff_toInt_lt.mp (Int32.not_le.mp c_28); have z_4 := Int32.le_iff_toInt_le.mp c_74; have z_5 := Int32.lt_iff_toInt_lt.mp c_81; have k_0 : (0 : Int32).toInt = 0 := (by decide); have k_1 : (1 : Int32).toInt = 1 := (by decide); have k_4 : (4 : Int32).toInt = 4 := (by decide); have kk_1 : (1 : Int32).toInt = 1 := (by decide); have kk_8 : (8 : Int32).toInt = 8 := (by decide); omega))), rfl⟩))))))))))
          · have b_83 : iv 1 40 py35_1 := iv_e2 (Int32.not_lt.mp c_81) (iv_c (1 : Int32) (a := 1) (b := 1) (by decide)) b_78 (by decide)
            refine lv_aload hx hb dX9_refusalOfTold_46 (lv_at hl 0 rfl) ?_
            refine va_get (ci := 7) (v := .int py35_1) (C := RX7) (T := TX7) (N := 3) hx hb hg inX7 hown hK hP 10 rfl rfl 1 (by decide) (hg _ q_2_2) (fun _ h9 => h9) rfl dX9_refusalOfTold_48 ?_
            refine lv_bipush (v := 8) hx hb dX9_refusalOfTold_51 (by decide) ?_
            refine lv_icmp_le (tgt := 59) hx hb dX9_refusalOfTold_53 (by decide) (fun c_84 => ?_) (fun c_84 => ?_)
            · have b_85 : iv 1 8 py35_1 := iv_e1 c_84 b_83 (iv_c (8 : Int32) (a := 8) (b := 8) (by decide)) (by decide)
              refine lv_iconst (v := 0) hx hb dX9_refusalOfTold_59 (by decide) ?_
              refine lv_istore (lv' := [(5, .int 0), (4, .ref (y 35)), (0, .ref (y 0)), (1, .int 1), (2, .int a2), (3, .int a3)]) hx hb dX9_refusalOfTold_60 hl (by decide) rfl (fun ls hl => ?_)
              refine loopF (X := fun (n_87 : Nat) (H : Heap) (locs : List Loc) (ls : Array Slot) => ∃ (u_86 : Int32), (iv 0 2147483647 u_86) ∧ (∀ j : Nat, (j : Int) < (u_86 : Int32).toInt → ¬ (fy36 j < (a3 : Int32).toInt64 ∨ 4 < fy36 j)) ∧ n_87 = (2147483647 - (u_86 : Int32).toInt).toNat ∧ va_P V.1 vwCl [(y 30, aT V 4 (va_up (va_up (va_up (va_up (fun _ => none) 0 (some (y 33))) 1 (some (y 35))) 2 (some (y 37))) 3 (some (y 39)))), (y 33, .inr (7, o7_rii (y 34) py33_1 py33_2)), (y 34, aJ V 40 fy34), (y 36, aJ V 40 fy36), (y 37, .inr (7, o7_rii (y 38) py37_1 py37_2)), (y 38, aJ V 40 fy38), (y 39, .inr (7, o7_rii (y 40) py39_1 py39_2)), (y 40, aJ V 40 fy40), (y 0, .inr (9, o9_rirrrrrrrrvviii (y 1) py0_1 (y 2) (y 10) (y 19) (y 25) (y 26) (y 30) (y 31) (y 32) o10 o11 py0_12 py0_13 py0_14)), (y 2, .inr (1, o1_iiiiiirrrrrrriiiii py2_0 py2_1 py2_2 py2_3 py2_4 py2_5 (y 3) (y 4) (y 5) (y 6) (y 7) (y 8) (y 9) py2_13 py2_14 py2_15 py2_16 py2_17)), (y 35, .inr (7, o7_rii (y 36) py35_1 py35_2))] H ∧ va_D A [(y 30, aT V 4 (va_up (va_up (va_up (va_up (fun _ => none) 0 (some (y 33))) 1 (some (y 35))) 2 (some (y 37))) 3 (some (y 39)))), (y 33, .inr (7, o7_rii (y 34) py33_1 py33_2)), (y 34, aJ V 40 fy34), (y 36, aJ V 40 fy36), (y 37, .inr (7, o7_rii (y 38) py37_1 py37_2)), (y 38, aJ V 40 fy38), (y 39, .inr (7, o7_rii (y 40) py39_1 py39_2)), (y 40, aJ V 40 fy40), (y 0, .inr (9, o9_rirrrrrrrrvviii (y 1) py0_1 (y 2) (y 10) (y 19) (y 25) (y 26) (y 30) (y 31) (y 32) o10 o11 py0_12 py0_13 py0_14)), (y 2, .inr (1, o1_iiiiiirrrrrrriiiii py2_0 py2_1 py2_2 py2_3 py2_4 py2_5 (y 3) (y 4) (y 5) (y 6) (y 7) (y 8) (y 9) py2_13 py2_14 py2_15 py2_16 py2_17)), (y 35, .inr (7, o7_rii (y 36) py35_1 py35_2))] ∧ va_S A s.heap H locs ∧ lv_has ls 6 [(5, .int u_86), (4, .ref (y 35)), (0, .ref (y 0)), (1, .int 1), (2, .int a2), (3, .int a3)]) (g := fun ls => F0 m 62 ls []) (fun n_87 H locs ls hX ihn_87 => ?_) _ ⟨0, (iv_c (0 : Int32) (by decide)), (fun j hj => absurd hj (by have h9 : (0 : Int32).toInt = 0 := (by decide); omega)), rfl, hP, hD, hS, lv_sub hl [0, 1, 2, 3, 4, 5] rfl⟩
              obtain ⟨u_86, bu_86, inn_87_0, en_87, hP, hD, hS, hl⟩ := hX
              refine lv_iload hx hb dX9_refusalOfTold_62 (lv_at hl 0 rfl) ?_
              refine lv_aload hx hb dX9_refusalOfTold_64 (lv_at hl 1 rfl) ?_
              refine va_get (ci := 7) (v := .int py35_1) (C := RX7) (T := TX7) (N := 3) hx hb hg inX7 hown hK hP 10 rfl rfl 1 (by decide) (hg _ q_2_2) (fun _ h9 => h9) rfl dX9_refusalOfTold_66 ?_
              refine lv_icmp_ge (tgt := 110) hx hb dX9_refusalOfTold_69 (by decide) (fun c_88 => ?_) (fun c_88 => ?_)
              · have b_89 : iv 1 2147483647 u_86 := iv_e2 c_88 b_85 bu_86 (by decide)
                refine lv_iconst (v := 0) hx hb dX9_refusalOfTold_110 (by decide) ?_
                have hP := subP (ws' := [(y 0, .inr (9, o9_rirrrrrrrrvviii (y 1) py0_1 (y 2) (y 10) (y 19) (y 25) (y 26) (y 30) (y 31) (y 32) o10 o11 py0_12 py0_13 py0_14)), (y 2, .inr (1, o1_iiiiiirrrrrrriiiii py2_0 py2_1 py2_2 py2_3 py2_4 py2_5 (y 3) (y 4) (y 5) (y 6) (y 7) (y 8) (y 9) py2_13 py2_14 py2_15 py2_16 py2_17)), (y 30, aT V 4 (va_up (va_up (va_up (va_up (fun _ => none) 0 (some (y 33))) 1 (some (y 35))) 2 (some (y 37))) 3 (some (y 39)))), (y 33, .inr (7, o7_rii (y 34) py33_1 py33_2)), (y 34, aJ V 40 fy34), (y 35, .inr (7, o7_rii (y 36) py35_1 py35_2)), (y 36, aJ V 40 fy36), (y 37, .inr (7, o7_rii (y 38) py37_1 py37_2)), (y 38, aJ V 40 fy38), (y 39, .inr (7, o7_rii (y 40) py39_1 py39_2)), (y 40, aJ V 40 fy40)]) hP [8, 9, 0, 1, 2, 10, 3, 4, 5, 6, 7] rfl
                have hD := subD hP hD [8, 9, 0, 1, 2, 10, 3, 4, 5, 6, 7] rfl rfl
                exact fiI hx hb hr hlk hK hP hD hS dX9_refusalOfTold_111 (Nat.le_of_ble_eq_true rfl) (Nat.le_of_ble_eq_true rfl) (Or.inr (Or.inr (Or.inr (Or.inr (Or.inr (Or.inr (Or.inr (Or.inr (Or.inr (Or.inr (Or.inl ⟨c_7, c_8, c_27, c_28, rfl, c_74, c_81, c_84, rfl, (rfF_t1 (by have z_0 := Int32.le_iff_toInt_le.mp (Int32.not_lt.mp c_7); have z_1 := Int32.lt_iff_toInt_lt.mp (Int32.not_le.mp c_8); have z_2 := Int32.le_iff_toInt_le.mp (Int32.not_lt.mp c_27); have z_3 := Int32.lt_iff_toInt_lt.mp (Int32.not_le.mp c_28); have z_4 := Int32.le_iff_toInt_le.mp c_74; have z_5 := Int32.le_iff_toInt_le.mp (Int32.not_lt.mp c_81); have z_6 := Int32.le_iff_toInt_le.mp c_84; have z_7 := Int32.le_iff_toInt_le.mp c_88; have k_0 : (0 : Int32).toInt = 0 := (by decide); have k_1 : (1 : Int32).toInt = 1 := (by decide); have k_4 : (4 : Int32).toInt = 4 := (by decide); have k_8 : (8 : Int32).toInt = 8 := (by decide); omega) (rf2_0 (u := u_86) (by have z_0 := Int32.le_iff_toInt_le.mp (Int32.not_lt.mp c_7); have z_1 := Int32.lt_iff_toInt_lt.mp (Int32.not_le.mp c_8); have z_2 := Int32.le_iff_toInt_le.mp (Int32.not_lt.mp c_27); have z_3 := Int32.lt_iff_toInt_lt.mp (Int32.not_le.mp c_28); have z_4 := Int32.le_iff_toInt_le.mp c_74; have z_5 := Int32.le_iff_toInt_le.mp (Int32.not_lt.mp c_81); have z_6 := Int32.le_iff_toInt_le.mp c_84; have z_7 := Int32.le_iff_toInt_le.mp c_88; have k_0 : (0 : Int32).toInt = 0 := (by decide); have k_1 : (1 : Int32).toInt = 1 := (by decide); have k_4 : (4 : Int32).toInt = 4 := (by decide); have k_8 : (8 : Int32).toInt = 8 := (by decide); have kk_1 : (1 : Int32).toInt = 1 := (by decide); have kk_8 : (8 : Int32).toInt = 8 := (by decide); omega) (by have z_0 := Int32.le_iff_toInt_le.mp (Int32.not_lt.mp c_7); have z_1 := Int32.lt_iff_toInt_lt.mp (Int32.not_le.mp c_8); have z_2 := Int32.le_iff_toInt_le.mp (Int32.not_lt.mp c_27); have z_3 := Int32.lt_iff_toInt_lt.mp (Int32.not_le.mp c_28); have z_4 := Int32.le_iff_toInt_le.mp c_74; have z_5 := Int32.le_iff_toInt_le.mp (Int32.not_lt.mp c_81); have z_6 := Int32.le_iff_toInt_le.mp c_84; have z_7 := Int32.le_iff_toInt_le.mp c_88; have k_0 : (0 : Int32).toInt = 0 := (by decide); have k_1 : (1 : Int32).toInt = 1 := (by decide); have k_4 : (4 : Int32).toInt = 4 := (by decide); have k_8 : (8 : Int32).toInt = 8 := (by decide); have kk_1 : (1 : Int32).toInt = 1 := (by decide); have kk_8 : (8 : Int32).toInt = 8 := (by decide); omega) inn_87_0 (by have z_0 := Int32.le_iff_toInt_le.mp (Int32.not_lt.mp c_7); have z_1 := Int32.lt_iff_toInt_lt.mp (Int32.not_le.mp c_8); have z_2 := Int32.le_iff_toInt_le.mp (Int32.not_lt.mp c_27); have z_3 := Int32.lt_iff_toInt_lt.mp (Int32.not_le.mp c_28); have z_4 := Int32.le_iff_toInt_le.mp c_74; have z_5 := Int32.le_iff_toInt_le.mp (Int32.not_lt.mp c_81); have z_6 := Int32.le_iff_toInt_le.mp c_84; have z_7 := Int32.le_iff_toInt_le.mp c_88; have k_0 : (0 : Int32).toInt = 0 := (by decide); have k_1 : (1 : Int32).toInt = 1 := (by decide); have k_4 : (4 : Int32).toInt = 4 := (by decide); have k_8 : (8 : Int32).toInt = 8 := (by decide); have kk_1 : (1 : Int32).toInt = 1 := (by decide); have kk_8 : (8 : Int32).toInt = 8 := (by decide); omega))), rfl⟩)))))))))))
              · have b_90 : iv 0 7 u_86 := iv_l1 (Int32.not_le.mp c_88) bu_86 b_85 (by decide)
                refine lv_aload hx hb dX9_refusalOfTold_72 (lv_at hl 1 rfl) ?_
                refine va_get (ci := 7) (v := .ref (y 36)) (C := RX7) (T := TX7) (N := 3) hx hb hg inX7 hown hK hP 10 rfl rfl 0 (by decide) (hg _ q_1_239) (fun _ h9 => h9) rfl dX9_refusalOfTold_74 ?_
                refine lv_iload hx hb dX9_refusalOfTold_77 (lv_at hl 0 rfl) ?_
                refine va_lald hx hb hK hP 3 2 rfl rfl (iv_in b_90 (by decide)) dX9_refusalOfTold_79 ?_
                refine lv_topl (fun j_91 ej_91 => ?_)
                refine lv_iload_n hx hb dX9_refusalOfTold_80 rfl (lv_at hl 5 rfl) ?_
                refine lv_i2l hx hb dX9_refusalOfTold_81 rfl ?_
                refine lv_topl (fun j_92 ej_92 => ?_)
                refine W.lcmp hx hb dX9_refusalOfTold_82 ?_
                refine lv_if_lt (tgt := 101) hx hb dX9_refusalOfTold_83 (by decide) (fun c_93 => ?_) (fun c_93 => ?_)
                · replace c_93 : j_91 < j_92 := (lg_cmp_lt _ _).mp c_93
                  have b_94 : ivL (-9223372036854775808) 9223372036854775806 j_91 := ivL_l1 c_93 (ivL_top j_91) (ivL_top j_92) (by decide)
                  have b_95 : ivL (-9223372036854775807) 9223372036854775807 j_92 := ivL_l2 c_93 (ivL_top j_91) (ivL_top j_92) (by decide)
                  refine lv_bipush (v := (-3)) hx hb dX9_refusalOfTold_101 (by decide) ?_
                  have hP := subP (ws' := [(y 0, .inr (9, o9_rirrrrrrrrvviii (y 1) py0_1 (y 2) (y 10) (y 19) (y 25) (y 26) (y 30) (y 31) (y 32) o10 o11 py0_12 py0_13 py0_14)), (y 2, .inr (1, o1_iiiiiirrrrrrriiiii py2_0 py2_1 py2_2 py2_3 py2_4 py2_5 (y 3) (y 4) (y 5) (y 6) (y 7) (y 8) (y 9) py2_13 py2_14 py2_15 py2_16 py2_17)), (y 30, aT V 4 (va_up (va_up (va_up (va_up (fun _ => none) 0 (some (y 33))) 1 (some (y 35))) 2 (some (y 37))) 3 (some (y 39)))), (y 33, .inr (7, o7_rii (y 34) py33_1 py33_2)), (y 34, aJ V 40 fy34), (y 35, .inr (7, o7_rii (y 36) py35_1 py35_2)), (y 36, aJ V 40 fy36), (y 37, .inr (7, o7_rii (y 38) py37_1 py37_2)), (y 38, aJ V 40 fy38), (y 39, .inr (7, o7_rii (y 40) py39_1 py39_2)), (y 40, aJ V 40 fy40)]) hP [8, 9, 0, 1, 2, 10, 3, 4, 5, 6, 7] rfl
                  have hD := subD hP hD [8, 9, 0, 1, 2, 10, 3, 4, 5, 6, 7] rfl rfl
                  exact fiI hx hb hr hlk hK hP hD hS dX9_refusalOfTold_103 (Nat.le_of_ble_eq_true rfl) (Nat.le_of_ble_eq_true rfl) (Or.inr (Or.inr (Or.inr (Or.inr (Or.inr (Or.inr (Or.inr (Or.inr (Or.inr (Or.inr (Or.inr (Or.inl ⟨c_7, c_8, c_27, c_28, rfl, c_74, c_81, c_84, rfl, (rfF_t1 (by have z_0 := Int32.le_iff_toInt_le.mp (Int32.not_lt.mp c_7); have z_1 := Int32.lt_iff_toInt_lt.mp (Int32.not_le.mp c_8); have z_2 := Int32.le_iff_toInt_le.mp (Int32.not_lt.mp c_27); have z_3 := Int32.lt_iff_toInt_lt.mp (Int32.not_le.mp c_28); have z_4 := Int32.le_iff_toInt_le.mp c_74; have z_5 := Int32.le_iff_toInt_le.mp (Int32.not_lt.mp c_81); have z_6 := Int32.le_iff_toInt_le.mp c_84; have z_7 := Int32.lt_iff_toInt_lt.mp (Int32.not_le.mp c_88); have k_0 : (0 : Int32).toInt = 0 := (by decide); have k_1 : (1 : Int32).toInt = 1 := (by decide); have k_4 : (4 : Int32).toInt = 4 := (by decide); have k_8 : (8 : Int32).toInt = 8 := (by decide); omega) (rf2_3 (u := u_86) (by have z_0 := Int32.le_iff_toInt_le.mp (Int32.not_lt.mp c_7); have z_1 := Int32.lt_iff_toInt_lt.mp (Int32.not_le.mp c_8); have z_2 := Int32.le_iff_toInt_le.mp (Int32.not_lt.mp c_27); have z_3 := Int32.lt_iff_toInt_lt.mp (Int32.not_le.mp c_28); have z_4 := Int32.le_iff_toInt_le.mp c_74; have z_5 := Int32.le_iff_toInt_le.mp (Int32.not_lt.mp c_81); have z_6 := Int32.le_iff_toInt_le.mp c_84; have z_7 := Int32.lt_iff_toInt_lt.mp (Int32.not_le.mp c_88); have k_0 : (0 : Int32).toInt = 0 := (by decide); have k_1 : (1 : Int32).toInt = 1 := (by decide); have k_4 : (4 : Int32).toInt = 4 := (by decide); have k_8 : (8 : Int32).toInt = 8 := (by decide); have kk_1 : (1 : Int32).toInt = 1 := (by decide); have kk_8 : (8 : Int32).toInt = 8 := (by decide); omega) (by have z_0 := Int32.le_iff_toInt_le.mp (Int32.not_lt.mp c_7); have z_1 := Int32.lt_iff_toInt_lt.mp (Int32.not_le.mp c_8); have z_2 := Int32.le_iff_toInt_le.mp (Int32.not_lt.mp c_27); have z_3 := Int32.lt_iff_toInt_lt.mp (Int32.not_le.mp c_28); have z_4 := Int32.le_iff_toInt_le.mp c_74; have z_5 := Int32.le_iff_toInt_le.mp (Int32.not_lt.mp c_81); have z_6 := Int32.le_iff_toInt_le.mp c_84; have z_7 := Int32.lt_iff_toInt_lt.mp (Int32.not_le.mp c_88); have k_0 : (0 : Int32).toInt = 0 := (by decide); have k_1 : (1 : Int32).toInt = 1 := (by decide); have k_4 : (4 : Int32).toInt = 4 := (by decide); have k_8 : (8 : Int32).toInt = 8 := (by decide); have kk_1 : (1 : Int32).toInt = 1 := (by decide); have kk_8 : (8 : Int32).toInt = 8 := (by decide); omega) b_90 (by decide) (by have z_0 := Int32.le_iff_toInt_le.mp (Int32.not_lt.mp c_7); have z_1 := Int32.lt_iff_toInt_lt.mp (Int32.not_le.mp c_8); have z_2 := Int32.le_iff_toInt_le.mp (Int32.not_lt.mp c_27); have z_3 := Int32.lt_iff_toInt_lt.mp (Int32.not_le.mp c_28); have z_4 := Int32.le_iff_toInt_le.mp c_74; have z_5 := Int32.le_iff_toInt_le.mp (Int32.not_lt.mp c_81); have z_6 := Int32.le_iff_toInt_le.mp c_84; have z_7 := Int32.lt_iff_toInt_lt.mp (Int32.not_le.mp c_88); have k_0 : (0 : Int32).toInt = 0 := (by decide); have k_1 : (1 : Int32).toInt = 1 := (by decide); have k_4 : (4 : Int32).toInt = 4 := (by decide); have k_8 : (8 : Int32).toInt = 8 := (by decide); have kk_1 : (1 : Int32).toInt = 1 := (by decide); have kk_8 : (8 : Int32).toInt = 8 := (by decide); omega) (Or.inl (by rw [← ej_91, ← ej_92]; exact c_93)))), rfl⟩))))))))))))
                · replace c_93 : ¬ j_91 < j_92 := fun z => c_93 ((lg_cmp_lt _ _).mpr z)
                  refine lv_aload hx hb dX9_refusalOfTold_86 (lv_at hl 1 rfl) ?_
                  refine va_get (ci := 7) (v := .ref (y 36)) (C := RX7) (T := TX7) (N := 3) hx hb hg inX7 hown hK hP 10 rfl rfl 0 (by decide) (hg _ q_1_239) (fun _ h9 => h9) rfl dX9_refusalOfTold_88 ?_
                  refine lv_iload hx hb dX9_refusalOfTold_91 (lv_at hl 0 rfl) ?_
                  refine va_lald hx hb hK hP 3 2 rfl rfl (iv_in b_90 (by decide)) dX9_refusalOfTold_93 ?_
                  refine tpl (y := j_91) ej_91.symm ?_
                  refine lv_ldc2 (v := 4) hx hb hown (hg _ q_5_25) dX9_refusalOfTold_94 ?_
                  refine W.lcmp hx hb dX9_refusalOfTold_97 ?_
                  refine lv_if_le (tgt := 104) hx hb dX9_refusalOfTold_98 (by decide) (fun c_96 => ?_) (fun c_96 => ?_)
                  · replace c_96 : j_91 ≤ (4 : Int64) := (lg_cmp_le _ _).mp c_96
                    have b_97 : ivL (-9223372036854775808) 4 j_91 := ivL_e1 c_96 (ivL_top j_91) (ivL_c (4 : Int64) (a := 4) (b := 4) (by decide)) (by decide)
                    obtain ⟨x_98, ex_98⟩ : ∃ z9 : Int32, z9 = u_86 + 1 := ⟨_, rfl⟩
                    have bx_98 : iv 1 8 x_98 := by rw [ex_98]; exact iv_add b_90 (iv_c (1 : Int32) (a := 1) (b := 1) (by decide)) (by decide)
                    refine lv_iinc (v := x_98) (lv' := [(5, .int x_98), (4, .ref (y 35)), (0, .ref (y 0)), (1, .int 1), (2, .int a2), (3, .int a3)]) hx hb dX9_refusalOfTold_104 hl (k := 0) rfl (by rw [ex_98]; rfl) (by decide) rfl (fun ls hl => ?_)
                    refine lv_goto (tgt := 62) hx hb dX9_refusalOfTold_107 (by decide) ?_
                    exact ihn_87 _ _ _ _ (by rw [en_87, ex_98]; exact mu_up b_90 (by decide)) ⟨x_98, (iv_w bx_98 (by decide)), (rf_s inn_87_0 b_90 (by decide) ej_91 ej_92 c_93 c_96 ex_98), rfl, hP, hD, hS, lv_sub hl [0, 1, 2, 3, 4, 5] rfl⟩
                  · replace c_96 : ¬ j_91 ≤ (4 : Int64) := fun z => c_96 ((lg_cmp_le _ _).mpr z)
                    have b_99 : ivL 5 9223372036854775807 j_91 := ivL_l2 (Int64.not_le.mp c_96) (ivL_c (4 : Int64) (a := 4) (b := 4) (by decide)) (ivL_top j_91) (by decide)
                    refine lv_bipush (v := (-3)) hx hb dX9_refusalOfTold_101 (by decide) ?_
                    have hP := subP (ws' := [(y 0, .inr (9, o9_rirrrrrrrrvviii (y 1) py0_1 (y 2) (y 10) (y 19) (y 25) (y 26) (y 30) (y 31) (y 32) o10 o11 py0_12 py0_13 py0_14)), (y 2, .inr (1, o1_iiiiiirrrrrrriiiii py2_0 py2_1 py2_2 py2_3 py2_4 py2_5 (y 3) (y 4) (y 5) (y 6) (y 7) (y 8) (y 9) py2_13 py2_14 py2_15 py2_16 py2_17)), (y 30, aT V 4 (va_up (va_up (va_up (va_up (fun _ => none) 0 (some (y 33))) 1 (some (y 35))) 2 (some (y 37))) 3 (some (y 39)))), (y 33, .inr (7, o7_rii (y 34) py33_1 py33_2)), (y 34, aJ V 40 fy34), (y 35, .inr (7, o7_rii (y 36) py35_1 py35_2)), (y 36, aJ V 40 fy36), (y 37, .inr (7, o7_rii (y 38) py37_1 py37_2)), (y 38, aJ V 40 fy38), (y 39, .inr (7, o7_rii (y 40) py39_1 py39_2)), (y 40, aJ V 40 fy40)]) hP [8, 9, 0, 1, 2, 10, 3, 4, 5, 6, 7] rfl
                    have hD := subD hP hD [8, 9, 0, 1, 2, 10, 3, 4, 5, 6, 7] rfl rfl
                    exact fiI hx hb hr hlk hK hP hD hS dX9_refusalOfTold_103 (Nat.le_of_ble_eq_true rfl) (Nat.le_of_ble_eq_true rfl) (Or.inr (Or.inr (Or.inr (Or.inr (Or.inr (Or.inr (Or.inr (Or.inr (Or.inr (Or.inr (Or.inr (Or.inl ⟨c_7, c_8, c_27, c_28, rfl, c_74, c_81, c_84, rfl, (rfF_t1 (by have z_0 := Int32.le_iff_toInt_le.mp (Int32.not_lt.mp c_7); have z_1 := Int32.lt_iff_toInt_lt.mp (Int32.not_le.mp c_8); have z_2 := Int32.le_iff_toInt_le.mp (Int32.not_lt.mp c_27); have z_3 := Int32.lt_iff_toInt_lt.mp (Int32.not_le.mp c_28); have z_4 := Int32.le_iff_toInt_le.mp c_74; have z_5 := Int32.le_iff_toInt_le.mp (Int32.not_lt.mp c_81); have z_6 := Int32.le_iff_toInt_le.mp c_84; have z_7 := Int32.lt_iff_toInt_lt.mp (Int32.not_le.mp c_88); have k_0 : (0 : Int32).toInt = 0 := (by decide); have k_1 : (1 : Int32).toInt = 1 := (by decide); have k_4 : (4 : Int32).toInt = 4 := (by decide); have k_8 : (8 : Int32).toInt = 8 := (by decide); omega) (rf2_3 (u := u_86) (by have z_0 := Int32.le_iff_toInt_le.mp (Int32.not_lt.mp c_7); have z_1 := Int32.lt_iff_toInt_lt.mp (Int32.not_le.mp c_8); have z_2 := Int32.le_iff_toInt_le.mp (Int32.not_lt.mp c_27); have z_3 := Int32.lt_iff_toInt_lt.mp (Int32.not_le.mp c_28); have z_4 := Int32.le_iff_toInt_le.mp c_74; have z_5 := Int32.le_iff_toInt_le.mp (Int32.not_lt.mp c_81); have z_6 := Int32.le_iff_toInt_le.mp c_84; have z_7 := Int32.lt_iff_toInt_lt.mp (Int32.not_le.mp c_88); have k_0 : (0 : Int32).toInt = 0 := (by decide); have k_1 : (1 : Int32).toInt = 1 := (by decide); have k_4 : (4 : Int32).toInt = 4 := (by decide); have k_8 : (8 : Int32).toInt = 8 := (by decide); have kk_1 : (1 : Int32).toInt = 1 := (by decide); have kk_8 : (8 : Int32).toInt = 8 := (by decide); omega) (by have z_0 := Int32.le_iff_toInt_le.mp (Int32.not_lt.mp c_7); have z_1 := Int32.lt_iff_toInt_lt.mp (Int32.not_le.mp c_8); have z_2 := Int32.le_iff_toInt_le.mp (Int32.not_lt.mp c_27); have z_3 := Int32.lt_iff_toInt_lt.mp (Int32.not_le.mp c_28); have z_4 := Int32.le_iff_toInt_le.mp c_74; have z_5 := Int32.le_iff_toInt_le.mp (Int32.not_lt.mp c_81); have z_6 := Int32.le_iff_toInt_le.mp c_84; have z_7 := Int32.lt_iff_toInt_lt.mp (Int32.not_le.mp c_88); have k_0 : (0 : Int32).toInt = 0 := (by decide); have k_1 : (1 : Int32).toInt = 1 := (by decide); have k_4 : (4 : Int32).toInt = 4 := (by decide); have k_8 : (8 : Int32).toInt = 8 := (by decide); have kk_1 : (1 : Int32).toInt = 1 := (by decide); have kk_8 : (8 : Int32).toInt = 8 := (by decide); omega) b_90 (by decide) (by have z_0 := Int32.le_iff_toInt_le.mp (Int32.not_lt.mp c_7); have z_1 := Int32.lt_iff_toInt_lt.mp (Int32.not_le.mp c_8); have z_2 := Int32.le_iff_toInt_le.mp (Int32.not_lt.mp c_27); have z_3 := Int32.lt_iff_toInt_lt.mp (Int32.not_le.mp c_28); have z_4 := Int32.le_iff_toInt_le.mp c_74; have z_5 := Int32.le_iff_toInt_le.mp (Int32.not_lt.mp c_81); have z_6 := Int32.le_iff_toInt_le.mp c_84; have z_7 := Int32.lt_iff_toInt_lt.mp (Int32.not_le.mp c_88); have k_0 : (0 : Int32).toInt = 0 := (by decide); have k_1 : (1 : Int32).toInt = 1 := (by decide); have k_4 : (4 : Int32).toInt = 4 := (by decide); have k_8 : (8 : Int32).toInt = 8 := (by decide); have kk_1 : (1 : Int32).toInt = 1 := (by decide); have kk_8 : (8 : Int32).toInt = 8 := (by decide); omega) (Or.inr (by rw [← ej_91]; exact Int64.not_le.mp c_96)))), rfl⟩))))))))))))
            · have b_100 : iv 9 40 py35_1 := iv_l2 (Int32.not_le.mp c_84) (iv_c (8 : Int32) (a := 8) (b := 8) (by decide)) b_83 (by decide)
              refine lv_bipush (v := (-4)) hx hb dX9_refusalOfTold_56 (by decide) ?_
              have hP := subP (ws' := [(y 0, .inr (9, o9_rirrrrrrrrvviii (y 1) py0_1 (y 2) (y 10) (y 19) (y 25) (y 26) (y 30) (y 31) (y 32) o10 o11 py0_12 py0_13 py0_14)), (y 2, .inr (1, o1_iiiiiirrrrrrriiiii py2_0 py2_1 py2_2 py2_3 py2_4 py2_5 (y 3) (y 4) (y 5) (y 6) (y 7) (y 8) (y 9) py2_13 py2_14 py2_15 py2_16 py2_17)), (y 30, aT V 4 (va_up (va_up (va_up (va_up (fun _ => none) 0 (some (y 33))) 1 (some (y 35))) 2 (some (y 37))) 3 (some (y 39)))), (y 33, .inr (7, o7_rii (y 34) py33_1 py33_2)), (y 34, aJ V 40 fy34), (y 35, .inr (7, o7_rii (y 36) py35_1 py35_2)), (y 36, aJ V 40 fy36), (y 37, .inr (7, o7_rii (y 38) py37_1 py37_2)), (y 38, aJ V 40 fy38), (y 39, .inr (7, o7_rii (y 40) py39_1 py39_2)), (y 40, aJ V 40 fy40)]) hP [8, 9, 0, 1, 2, 10, 3, 4, 5, 6, 7] rfl
              have hD := subD hP hD [8, 9, 0, 1, 2, 10, 3, 4, 5, 6, 7] rfl rfl
              exact fiI hx hb hr hlk hK hP hD hS dX9_refusalOfTold_58 (Nat.le_of_ble_eq_true rfl) (Nat.le_of_ble_eq_true rfl) (Or.inr (Or.inr (Or.inr (Or.inr (Or.inr (Or.inr (Or.inr (Or.inr (Or.inr (Or.inr (Or.inr (Or.inr (Or.inl ⟨c_7, c_8, c_27, c_28, rfl, c_74, c_81, c_84, rfl, (rfF_t1 (by have z_0 := Int32.le_iff_toInt_le.mp (Int32.not_lt.mp c_7); have z_1 := Int32.lt_iff_toInt_lt.mp (Int32.not_le.mp c_8); have z_2 := Int32.le_iff_toInt_le.mp (Int32.not_lt.mp c_27); have z_3 := Int32.lt_iff_toInt_lt.mp (Int32.not_le.mp c_28); have z_4 := Int32.le_iff_toInt_le.mp c_74; have z_5 := Int32.le_iff_toInt_le.mp (Int32.not_lt.mp c_81); have z_6 := Int32.lt_iff_toInt_lt.mp (Int32.not_le.mp c_84); have k_0 : (0 : Int32).toInt = 0 := (by decide); have k_1 : (1 : Int32).toInt = 1 := (by decide); have k_4 : (4 : Int32).toInt = 4 := (by decide); have k_8 : (8 : Int32).toInt = 8 := (by decide); omega) (rf2_4 (by have z_0 := Int32.le_iff_toInt_le.mp (Int32.not_lt.mp c_7); have z_1 := Int32.lt_iff_toInt_lt.mp (Int32.not_le.mp c_8); have z_2 := Int32.le_iff_toInt_le.mp (Int32.not_lt.mp c_27); have z_3 := Int32.lt_iff_toInt_lt.mp (Int32.not_le.mp c_28); have z_4 := Int32.le_iff_toInt_le.mp c_74; have z_5 := Int32.le_iff_toInt_le.mp (Int32.not_lt.mp c_81); have z_6 := Int32.lt_iff_toInt_lt.mp (Int32.not_le.mp c_84); have k_0 : (0 : Int32).toInt = 0 := (by decide); have k_1 : (1 : Int32).toInt = 1 := (by decide); have k_4 : (4 : Int32).toInt = 4 := (by decide); have k_8 : (8 : Int32).toInt = 8 := (by decide); have kk_1 : (1 : Int32).toInt = 1 := (by decide); have kk_8 : (8 : Int32).toInt = 8 := (by decide); omega) (by have z_0 := Int32.le_iff_toInt_le.mp (Int32.not_lt.mp c_7); have z_1 := Int32.lt_iff_toInt_lt.mp (Int32.not_le.mp c_8); have z_2 := Int32.le_iff_toInt_le.mp (Int32.not_lt.mp c_27); have z_3 := Int32.lt_iff_toInt_lt.mp (Int32.not_le.mp c_28); have z_4 := Int32.le_iff_toInt_le.mp c_74; have z_5 := Int32.le_iff_toInt_le.mp (Int32.not_lt.mp c_81); have z_6 := Int32.lt_iff_toInt_lt.mp (Int32.not_le.mp c_84); have k_0 : (0 : Int32).toInt = 0 := (by decide); have k_1 : (1 : Int32).toInt = 1 := (by decide); have k_4 : (4 : Int32).toInt = 4 := (by decide); have k_8 : (8 : Int32).toInt = 8 := (by decide); have kk_1 : (1 : Int32).toInt = 1 := (by decide); have kk_8 : (8 : Int32).toInt = 8 := (by decide); omega))), rfl⟩)))))))))))))
        · have hP : va_P V.1 vwCl [(y 30, aT V 4 (va_up (va_up (va_up (va_up (fun _ => none) 0 (some (y 33))) 1 (some (y 35))) 2 (some (y 37))) 3 (some (y 39)))), (y 33, .inr (7, o7_rii (y 34) py33_1 py33_2)), (y 34, aJ V 40 fy34), (y 36, aJ V 40 fy36), (y 37, .inr (7, o7_rii (y 38) py37_1 py37_2)), (y 38, aJ V 40 fy38), (y 39, .inr (7, o7_rii (y 40) py39_1 py39_2)), (y 40, aJ V 40 fy40), (y 0, .inr (9, o9_rirrrrrrrrvviii (y 1) py0_1 (y 2) (y 10) (y 19) (y 25) (y 26) (y 30) (y 31) (y 32) o10 o11 py0_12 py0_13 py0_14)), (y 2, .inr (1, o1_iiiiiirrrrrrriiiii py2_0 py2_1 py2_2 py2_3 py2_4 py2_5 (y 3) (y 4) (y 5) (y 6) (y 7) (y 8) (y 9) py2_13 py2_14 py2_15 py2_16 py2_17)), (y 35, .inr (7, o7_rii (y 36) py35_1 py35_2))] H := hP
          have hD := cpD hP hD
          have b_101 : iv (-1) (-1) py35_1 := iv_l1 (Int32.not_le.mp c_76) bpy35_1 (iv_c (0 : Int32) (a := 0) (b := 0) (by decide)) (by decide)
          refine lv_if_eq (tgt := 37) hx hb dX9_refusalOfTold_31 (by decide) (fun c_103 => absurd c_103 (by decide)) (fun _ => ?_)
          refine lv_bipush (v := (-6)) hx hb dX9_refusalOfTold_34 (by decide) ?_
          have hP := subP (ws' := [(y 0, .inr (9, o9_rirrrrrrrrvviii (y 1) py0_1 (y 2) (y 10) (y 19) (y 25) (y 26) (y 30) (y 31) (y 32) o10 o11 py0_12 py0_13 py0_14)), (y 2, .inr (1, o1_iiiiiirrrrrrriiiii py2_0 py2_1 py2_2 py2_3 py2_4 py2_5 (y 3) (y 4) (y 5) (y 6) (y 7) (y 8) (y 9) py2_13 py2_14 py2_15 py2_16 py2_17)), (y 30, aT V 4 (va_up (va_up (va_up (va_up (fun _ => none) 0 (some (y 33))) 1 (some (y 35))) 2 (some (y 37))) 3 (some (y 39)))), (y 33, .inr (7, o7_rii (y 34) py33_1 py33_2)), (y 34, aJ V 40 fy34), (y 35, .inr (7, o7_rii (y 36) py35_1 py35_2)), (y 36, aJ V 40 fy36), (y 37, .inr (7, o7_rii (y 38) py37_1 py37_2)), (y 38, aJ V 40 fy38), (y 39, .inr (7, o7_rii (y 40) py39_1 py39_2)), (y 40, aJ V 40 fy40)]) hP [8, 9, 0, 1, 2, 10, 3, 4, 5, 6, 7] rfl
          have hD := subD hP hD [8, 9, 0, 1, 2, 10, 3, 4, 5, 6, 7] rfl rfl
          exact fiI hx hb hr hlk hK hP hD hS dX9_refusalOfTold_36 (Nat.le_of_ble_eq_true rfl) (Nat.le_of_ble_eq_true rfl) (Or.inr (Or.inr (Or.inr (Or.inr (Or.inr (Or.inr (Or.inr (Or.inr (Or.inr (Or.inr (Or.inr (Or.inr (Or.inr (Or.inl ⟨c_7, c_8, c_27, c_28, rfl, c_76, rfl, (rfF_t1 (by have z_0 := Int32.le_iff_toInt_le.mp (Int32.not_lt.mp c_7); have z_1 := Int32.lt_iff_toInt_lt.mp (Int32.not_le.mp c_8); have z_2 := Int32.le_iff_toInt_le.mp (Int32.not_lt.mp c_27); have z_3 := Int32.lt_iff_toInt_lt.mp (Int32.not_le.mp c_28); have z_4 := Int32.lt_iff_toInt_lt.mp (Int32.not_le.mp c_76); have k_0 : (0 : Int32).toInt = 0 := (by decide); have k_1 : (1 : Int32).toInt = 1 := (by decide); have k_4 : (4 : Int32).toInt = 4 := (by decide); omega) (rf2_6 (by have z_0 := Int32.le_iff_toInt_le.mp (Int32.not_lt.mp c_7); have z_1 := Int32.lt_iff_toInt_lt.mp (Int32.not_le.mp c_8); have z_2 := Int32.le_iff_toInt_le.mp (Int32.not_lt.mp c_27); have z_3 := Int32.lt_iff_toInt_lt.mp (Int32.not_le.mp c_28); have z_4 := Int32.lt_iff_toInt_lt.mp (Int32.not_le.mp c_76); have k_0 : (0 : Int32).toInt = 0 := (by decide); have k_1 : (1 : Int32).toInt = 1 := (by decide); have k_4 : (4 : Int32).toInt = 4 := (by decide); have kk_1 : (1 : Int32).toInt = 1 := (by decide); have kk_8 : (8 : Int32).toInt = 8 := (by decide); omega))), rfl⟩))))))))))))))
      · refine va_aldq hx hb hK hP 0 4 rfl rfl (vin (by decide +kernel)) dX9_refusalOfTold_23 ?_
        refine W.eq (g2 := F0 m 24 ls (.ref (y 37) :: [])) rfl ?_
        refine lv_astore (lv' := [(4, .ref (y 37)), (0, .ref (y 0)), (1, .int 2), (2, .int a2), (3, .int a3)]) hx hb dX9_refusalOfTold_24 hl (by decide) rfl (fun ls hl => ?_)
        refine lv_aload hx hb dX9_refusalOfTold_26 (lv_at hl 0 rfl) ?_
        refine jnI (wr := [(y 30, aT V 4 (va_up (va_up (va_up (va_up (fun _ => none) 0 (some (y 33))) 1 (some (y 35))) 2 (some (y 37))) 3 (some (y 39)))), (y 33, .inr (7, o7_rii (y 34) py33_1 py33_2)), (y 34, aJ V 40 fy34), (y 35, .inr (7, o7_rii (y 36) py35_1 py35_2)), (y 36, aJ V 40 fy36), (y 38, aJ V 40 fy38), (y 39, .inr (7, o7_rii (y 40) py39_1 py39_2)), (y 40, aJ V 40 fy40), (y 0, .inr (9, o9_rirrrrrrrrvviii (y 1) py0_1 (y 2) (y 10) (y 19) (y 25) (y 26) (y 30) (y 31) (y 32) o10 o11 py0_12 py0_13 py0_14)), (y 2, .inr (1, o1_iiiiiirrrrrrriiiii py2_0 py2_1 py2_2 py2_3 py2_4 py2_5 (y 3) (y 4) (y 5) (y 6) (y 7) (y 8) (y 9) py2_13 py2_14 py2_15 py2_16 py2_17))]) (rnV (rest := []) ⟨hx, hb, hml, hown, hg⟩ (k_X7_isMissing_2 l V y py37_1 py37_2 bpy37_1) mt_X7_isMissing q_3_231 ⟨Nat.le_of_ble_eq_true rfl, Nat.le_of_ble_eq_true rfl⟩ hK hP hD hS hA hE [5] rfl rfl 5 rfl rfl rfl rfl hl.1 rfl (Nat.le_of_ble_eq_true rfl) dX9_refusalOfTold_28 ⟨Nat.le_of_ble_eq_true rfl, Nat.le_of_ble_eq_true rfl⟩) hP hD hS hA [5] [0, 1, 2, 3, 4, 6, 7, 8, 9, 10] rfl rfl rfl (by decide) (fun r_104 w H locs hw hP hD hS => ?_)
        rcases hw with ⟨c_105, rfl, et_106, rfl⟩ | ⟨c_107, rfl, et_108, rfl⟩
        · have hP : va_P V.1 vwCl [(y 30, aT V 4 (va_up (va_up (va_up (va_up (fun _ => none) 0 (some (y 33))) 1 (some (y 35))) 2 (some (y 37))) 3 (some (y 39)))), (y 33, .inr (7, o7_rii (y 34) py33_1 py33_2)), (y 34, aJ V 40 fy34), (y 35, .inr (7, o7_rii (y 36) py35_1 py35_2)), (y 36, aJ V 40 fy36), (y 38, aJ V 40 fy38), (y 39, .inr (7, o7_rii (y 40) py39_1 py39_2)), (y 40, aJ V 40 fy40), (y 0, .inr (9, o9_rirrrrrrrrvviii (y 1) py0_1 (y 2) (y 10) (y 19) (y 25) (y 26) (y 30) (y 31) (y 32) o10 o11 py0_12 py0_13 py0_14)), (y 2, .inr (1, o1_iiiiiirrrrrrriiiii py2_0 py2_1 py2_2 py2_3 py2_4 py2_5 (y 3) (y 4) (y 5) (y 6) (y 7) (y 8) (y 9) py2_13 py2_14 py2_15 py2_16 py2_17)), (y 37, .inr (7, o7_rii (y 38) py37_1 py37_2))] H := hP
          have hD := cpD hP hD
          have b_109 : iv 0 40 py37_1 := iv_e2 c_105 (iv_c (0 : Int32) (a := 0) (b := 0) (by decide)) bpy37_1 (by decide)
          refine lv_if_eq (tgt := 37) hx hb dX9_refusalOfTold_31 (by decide) (fun _ => ?_) (fun c_111 => absurd c_111 (by decide))
          refine lv_aload hx hb dX9_refusalOfTold_37 (lv_at hl 0 rfl) ?_
          refine va_get (ci := 7) (v := .int py37_1) (C := RX7) (T := TX7) (N := 3) hx hb hg inX7 hown hK hP 10 rfl rfl 1 (by decide) (hg _ q_2_2) (fun _ h9 => h9) rfl dX9_refusalOfTold_39 ?_
          refine lv_iconst (v := 1) hx hb dX9_refusalOfTold_42 (by decide) ?_
          refine lv_icmp_lt (tgt := 56) hx hb dX9_refusalOfTold_43 (by decide) (fun c_112 => ?_) (fun c_112 => ?_)
          · have b_113 : iv 0 0 py37_1 := iv_l1 c_112 b_109 (iv_c (1 : Int32) (a := 1) (b := 1) (by decide)) (by decide)
            refine lv_bipush (v := (-4)) hx hb dX9_refusalOfTold_56 (by decide) ?_
            have hP := subP (ws' := [(y 0, .inr (9, o9_rirrrrrrrrvviii (y 1) py0_1 (y 2) (y 10) (y 19) (y 25) (y 26) (y 30) (y 31) (y 32) o10 o11 py0_12 py0_13 py0_14)), (y 2, .inr (1, o1_iiiiiirrrrrrriiiii py2_0 py2_1 py2_2 py2_3 py2_4 py2_5 (y 3) (y 4) (y 5) (y 6) (y 7) (y 8) (y 9) py2_13 py2_14 py2_15 py2_16 py2_17)), (y 30, aT V 4 (va_up (va_up (va_up (va_up (fun _ => none) 0 (some (y 33))) 1 (some (y 35))) 2 (some (y 37))) 3 (some (y 39)))), (y 33, .inr (7, o7_rii (y 34) py33_1 py33_2)), (y 34, aJ V 40 fy34), (y 35, .inr (7, o7_rii (y 36) py35_1 py35_2)), (y 36, aJ V 40 fy36), (y 37, .inr (7, o7_rii (y 38) py37_1 py37_2)), (y 38, aJ V 40 fy38), (y 39, .inr (7, o7_rii (y 40) py39_1 py39_2)), (y 40, aJ V 40 fy40)]) hP [8, 9, 0, 1, 2, 3, 4, 10, 5, 6, 7] rfl
            have hD := subD hP hD [8, 9, 0, 1, 2, 3, 4, 10, 5, 6, 7] rfl rfl
            exact fiI hx hb hr hlk hK hP hD hS dX9_refusalOfTold_58 (Nat.le_of_ble_eq_true rfl) (Nat.le_of_ble_eq_true rfl) (Or.inr (Or.inr (Or.inr (Or.inr (Or.inr (Or.inr (Or.inr (Or.inr (Or.inr (Or.inr (Or.inr (Or.inr (Or.inr (Or.inr (Or.inl ⟨c_7, c_8, c_27, c_28, rfl, c_105, c_112, rfl, (rfF_t2 (by have z_0 := Int32.le_iff_toInt_le.mp (Int32.not_lt.mp c_7); have z_1 := Int32.lt_iff_toInt_lt.mp (Int32.not_le.mp c_8); have z_2 := Int32.le_iff_toInt_le.mp (Int32.not_lt.mp c_27); have z_3 := Int32.lt_iff_toInt_lt.mp (Int32.not_le.mp c_28); have z_4 := Int32.le_iff_toInt_le.mp c_105; have z_5 := Int32.lt_iff_toInt_lt.mp c_112; have k_0 : (0 : Int32).toInt = 0 := (by decide); have k_1 : (1 : Int32).toInt = 1 := (by decide); have k_2 : (2 : Int32).toInt = 2 := (by decide); have k_4 : (4 : Int32).toInt = 4 := (by decide); omega) (rf2_4 (by have z_0 := Int32.le_iff_toInt_le.mp (Int32.not_lt.mp c_7); have z_1 := Int32.lt_iff_toInt_lt.mp (Int32.not_le.mp c_8); have z_2 := Int32.le_iff_toInt_le.mp (Int32.not_lt.mp c_27); have z_3 := Int32.lt_iff_toInt_lt.mp (Int32.not_le.mp c_28); have z_4 := Int32.le_iff_toInt_le.mp c_105; have z_5 := Int32.lt_iff_toInt_lt.mp c_112; have k_0 : (0 : Int32).toInt = 0 := (by decide); have k_1 : (1 : Int32).toInt = 1 := (by decide); have k_2 : (2 : Int32).toInt = 2 := (by decide); have k_4 : (4 : Int32).toInt = 4 := (by decide); have kk_1 : (1 : Int32).toInt = 1 := (by decide); have kk_8 : (8 : Int32).toInt = 8 := (by decide); omega) (by have z_0 := Int32.le_iff_toInt_le.mp (Int32.not_lt.mp c_7); have z_1 := Int32.lt_iff_toInt_lt.mp (Int32.not_le.mp c_8); have z_2 := Int32.le_iff_toInt_le.mp (Int32.not_lt.mp c_27); have z_3 := Int32.lt_iff_toInt_lt.mp (Int32.not_le.mp c_28); have z_4 := Int32.le_iff_toInt_le.mp c_105; have z_5 := Int32.lt_iff_toInt_lt.mp c_112; have k_0 : (0 : Int32).toInt = 0 := (by decide); have k_1 : (1 : Int32).toInt = 1 := (by decide); have k_2 : (2 : Int32).toInt = 2 := (by decide); have k_4 : (4 : Int32).toInt = 4 := (by decide); have kk_1 : (1 : Int32).toInt = 1 := (by decide); have kk_8 : (8 : Int32).toInt = 8 := (by decide); omega))), rfl⟩)))))))))))))))
          · have b_114 : iv 1 40 py37_1 := iv_e2 (Int32.not_lt.mp c_112) (iv_c (1 : Int32) (a := 1) (b := 1) (by decide)) b_109 (by decide)
            refine lv_aload hx hb dX9_refusalOfTold_46 (lv_at hl 0 rfl) ?_
            refine va_get (ci := 7) (v := .int py37_1) (C := RX7) (T := TX7) (N := 3) hx hb hg inX7 hown hK hP 10 rfl rfl 1 (by decide) (hg _ q_2_2) (fun _ h9 => h9) rfl dX9_refusalOfTold_48 ?_
            refine lv_bipush (v := 8) hx hb dX9_refusalOfTold_51 (by decide) ?_
            refine lv_icmp_le (tgt := 59) hx hb dX9_refusalOfTold_53 (by decide) (fun c_115 => ?_) (fun c_115 => ?_)
            · have b_116 : iv 1 8 py37_1 := iv_e1 c_115 b_114 (iv_c (8 : Int32) (a := 8) (b := 8) (by decide)) (by decide)
              refine lv_iconst (v := 0) hx hb dX9_refusalOfTold_59 (by decide) ?_
              refine lv_istore (lv' := [(5, .int 0), (4, .ref (y 37)), (0, .ref (y 0)), (1, .int 2), (2, .int a2), (3, .int a3)]) hx hb dX9_refusalOfTold_60 hl (by decide) rfl (fun ls hl => ?_)
              refine loopF (X := fun (n_118 : Nat) (H : Heap) (locs : List Loc) (ls : Array Slot) => ∃ (u_117 : Int32), (iv 0 2147483647 u_117) ∧ (∀ j : Nat, (j : Int) < (u_117 : Int32).toInt → ¬ (fy38 j < (a3 : Int32).toInt64 ∨ 4 < fy38 j)) ∧ n_118 = (2147483647 - (u_117 : Int32).toInt).toNat ∧ va_P V.1 vwCl [(y 30, aT V 4 (va_up (va_up (va_up (va_up (fun _ => none) 0 (some (y 33))) 1 (some (y 35))) 2 (some (y 37))) 3 (some (y 39)))), (y 33, .inr (7, o7_rii (y 34) py33_1 py33_2)), (y 34, aJ V 40 fy34), (y 35, .inr (7, o7_rii (y 36) py35_1 py35_2)), (y 36, aJ V 40 fy36), (y 38, aJ V 40 fy38), (y 39, .inr (7, o7_rii (y 40) py39_1 py39_2)), (y 40, aJ V 40 fy40), (y 0, .inr (9, o9_rirrrrrrrrvviii (y 1) py0_1 (y 2) (y 10) (y 19) (y 25) (y 26) (y 30) (y 31) (y 32) o10 o11 py0_12 py0_13 py0_14)), (y 2, .inr (1, o1_iiiiiirrrrrrriiiii py2_0 py2_1 py2_2 py2_3 py2_4 py2_5 (y 3) (y 4) (y 5) (y 6) (y 7) (y 8) (y 9) py2_13 py2_14 py2_15 py2_16 py2_17)), (y 37, .inr (7, o7_rii (y 38) py37_1 py37_2))] H ∧ va_D A [(y 30, aT V 4 (va_up (va_up (va_up (va_up (fun _ => none) 0 (some (y 33))) 1 (some (y 35))) 2 (some (y 37))) 3 (some (y 39)))), (y 33, .inr (7, o7_rii (y 34) py33_1 py33_2)), (y 34, aJ V 40 fy34), (y 35, .inr (7, o7_rii (y 36) py35_1 py35_2)), (y 36, aJ V 40 fy36), (y 38, aJ V 40 fy38), (y 39, .inr (7, o7_rii (y 40) py39_1 py39_2)), (y 40, aJ V 40 fy40), (y 0, .inr (9, o9_rirrrrrrrrvviii (y 1) py0_1 (y 2) (y 10) (y 19) (y 25) (y 26) (y 30) (y 31) (y 32) o10 o11 py0_12 py0_13 py0_14)), (y 2, .inr (1, o1_iiiiiirrrrrrriiiii py2_0 py2_1 py2_2 py2_3 py2_4 py2_5 (y 3) (y 4) (y 5) (y 6) (y 7) (y 8) (y 9) py2_13 py2_14 py2_15 py2_16 py2_17)), (y 37, .inr (7, o7_rii (y 38) py37_1 py37_2))] ∧ va_S A s.heap H locs ∧ lv_has ls 6 [(5, .int u_117), (4, .ref (y 37)), (0, .ref (y 0)), (1, .int 2), (2, .int a2), (3, .int a3)]) (g := fun ls => F0 m 62 ls []) (fun n_118 H locs ls hX ihn_118 => ?_) _ ⟨0, (iv_c (0 : Int32) (by decide)), (fun j hj => absurd hj (by have h9 : (0 : Int32).toInt = 0 := (by decide); omega)), rfl, hP, hD, hS, lv_sub hl [0, 1, 2, 3, 4, 5] rfl⟩
              obtain ⟨u_117, bu_117, inn_118_0, en_118, hP, hD, hS, hl⟩ := hX
              refine lv_iload hx hb dX9_refusalOfTold_62 (lv_at hl 0 rfl) ?_
              refine lv_aload hx hb dX9_refusalOfTold_64 (lv_at hl 1 rfl) ?_
              refine va_get (ci := 7) (v := .int py37_1) (C := RX7) (T := TX7) (N := 3) hx hb hg inX7 hown hK hP 10 rfl rfl 1 (by decide) (hg _ q_2_2) (fun _ h9 => h9) rfl dX9_refusalOfTold_66 ?_
              refine lv_icmp_ge (tgt := 110) hx hb dX9_refusalOfTold_69 (by decide) (fun c_119 => ?_) (fun c_119 => ?_)
              · have b_120 : iv 1 2147483647 u_117 := iv_e2 c_119 b_116 bu_117 (by decide)
                refine lv_iconst (v := 0) hx hb dX9_refusalOfTold_110 (by decide) ?_
                have hP := subP (ws' := [(y 0, .inr (9, o9_rirrrrrrrrvviii (y 1) py0_1 (y 2) (y 10) (y 19) (y 25) (y 26) (y 30) (y 31) (y 32) o10 o11 py0_12 py0_13 py0_14)), (y 2, .inr (1, o1_iiiiiirrrrrrriiiii py2_0 py2_1 py2_2 py2_3 py2_4 py2_5 (y 3) (y 4) (y 5) (y 6) (y 7) (y 8) (y 9) py2_13 py2_14 py2_15 py2_16 py2_17)), (y 30, aT V 4 (va_up (va_up (va_up (va_up (fun _ => none) 0 (some (y 33))) 1 (some (y 35))) 2 (some (y 37))) 3 (some (y 39)))), (y 33, .inr (7, o7_rii (y 34) py33_1 py33_2)), (y 34, aJ V 40 fy34), (y 35, .inr (7, o7_rii (y 36) py35_1 py35_2)), (y 36, aJ V 40 fy36), (y 37, .inr (7, o7_rii (y 38) py37_1 py37_2)), (y 38, aJ V 40 fy38), (y 39, .inr (7, o7_rii (y 40) py39_1 py39_2)), (y 40, aJ V 40 fy40)]) hP [8, 9, 0, 1, 2, 3, 4, 10, 5, 6, 7] rfl
                have hD := subD hP hD [8, 9, 0, 1, 2, 3, 4, 10, 5, 6, 7] rfl rfl
                exact fiI hx hb hr hlk hK hP hD hS dX9_refusalOfTold_111 (Nat.le_of_ble_eq_true rfl) (Nat.le_of_ble_eq_true rfl) (Or.inr (Or.inr (Or.inr (Or.inr (Or.inr (Or.inr (Or.inr (Or.inr (Or.inr (Or.inr (Or.inr (Or.inr (Or.inr (Or.inr (Or.inr (Or.inl ⟨c_7, c_8, c_27, c_28, rfl, c_105, c_112, c_115, rfl, (rfF_t2 (by have z_0 := Int32.le_iff_toInt_le.mp (Int32.not_lt.mp c_7); have z_1 := Int32.lt_iff_toInt_lt.mp (Int32.not_le.mp c_8); have z_2 := Int32.le_iff_toInt_le.mp (Int32.not_lt.mp c_27); have z_3 := Int32.lt_iff_toInt_lt.mp (Int32.not_le.mp c_28); have z_4 := Int32.le_iff_toInt_le.mp c_105; have z_5 := Int32.le_iff_toInt_le.mp (Int32.not_lt.mp c_112); have z_6 := Int32.le_iff_toInt_le.mp c_115; have z_7 := Int32.le_iff_toInt_le.mp c_119; have k_0 : (0 : Int32).toInt = 0 := (by decide); have k_1 : (1 : Int32).toInt = 1 := (by decide); have k_2 : (2 : Int32).toInt = 2 := (by decide); have k_4 : (4 : Int32).toInt = 4 := (by decide); have k_8 : (8 : Int32).toInt = 8 := (by decide); omega) (rf2_0 (u := u_117) (by have z_0 := Int32.le_iff_toInt_le.mp (Int32.not_lt.mp c_7); have z_1 := Int32.lt_iff_toInt_lt.mp (Int32.not_le.mp c_8); have z_2 := Int32.le_iff_toInt_le.mp (Int32.not_lt.mp c_27); have z_3 := Int32.lt_iff_toInt_lt.mp (Int32.not_le.mp c_28); have z_4 := Int32.le_iff_toInt_le.mp c_105; have z_5 := Int32.le_iff_toInt_le.mp (Int32.not_lt.mp c_112); have z_6 := Int32.le_iff_toInt_le.mp c_115; have z_7 := Int32.le_iff_toInt_le.mp c_119; have k_0 : (0 : Int32).toInt = 0 := (by decide); have k_1 : (1 : Int32).toInt = 1 := (by decide); have k_2 : (2 : Int32).toInt = 2 := (by decide); have k_4 : (4 : Int32).toInt = 4 := (by decide); have k_8 : (8 : Int32).toInt = 8 := (by decide); have kk_1 : (1 : Int32).toInt = 1 := (by decide); have kk_8 : (8 : Int32).toInt = 8 := (by decide); omega) (by have z_0 := Int32.le_iff_toInt_le.mp (Int32.not_lt.mp c_7); have z_1 := Int32.lt_iff_toInt_lt.mp (Int32.not_le.mp c_8); have z_2 := Int32.le_iff_toInt_le.mp (Int32.not_lt.mp c_27); have z_3 := Int32.lt_iff_toInt_lt.mp (Int32.not_le.mp c_28); have z_4 := Int32.le_iff_toInt_le.mp c_105; have z_5 := Int32.le_iff_toInt_le.mp (Int32.not_lt.mp c_112); have z_6 := Int32.le_iff_toInt_le.mp c_115; have z_7 := Int32.le_iff_toInt_le.mp c_119; have k_0 : (0 : Int32).toInt = 0 := (by decide); have k_1 : (1 : Int32).toInt = 1 := (by decide); have k_2 : (2 : Int32).toInt = 2 := (by decide); have k_4 : (4 : Int32).toInt = 4 := (by decide); have k_8 : (8 : Int32).toInt = 8 := (by decide); have kk_1 : (1 : Int32).toInt = 1 := (by decide); have kk_8 : (8 : Int32).toInt = 8 := (by decide); omega) inn_118_0 (by have z_0 := Int32.le_iff_toInt_le.mp (Int32.not_lt.mp c_7); have z_1 := Int32.lt_iff_toInt_lt.mp (Int32.not_le.mp c_8); have z_2 := Int32.le_iff_toInt_le.mp (Int32.not_lt.mp c_27); have z_3 := Int32.lt_iff_toInt_lt.mp (Int32.not_le.mp c_28); have z_4 := Int32.le_iff_toInt_le.mp c_105; have z_5 := Int32.le_iff_toInt_le.mp (Int32.not_lt.mp c_112); have z_6 := Int32.le_iff_toInt_le.mp c_115; have z_7 := Int32.le_iff_toInt_le.mp c_119; have k_0 : (0 : Int32).toInt = 0 := (by decide); have k_1 : (1 : Int32).toInt = 1 := (by decide); have k_2 : (2 : Int32).toInt = 2 := (by decide); have k_4 : (4 : Int32).toInt = 4 := (by decide); have k_8 : (8 : Int32).toInt = 8 := (by decide); have kk_1 : (1 : Int32).toInt = 1 := (by decide); have kk_8 : (8 : Int32).toInt = 8 := (by decide); omega))), rfl⟩))))))))))))))))
              · have b_121 : iv 0 7 u_117 := iv_l1 (Int32.not_le.mp c_119) bu_117 b_116 (by decide)
                refine lv_aload hx hb dX9_refusalOfTold_72 (lv_at hl 1 rfl) ?_
                refine va_get (ci := 7) (v := .ref (y 38)) (C := RX7) (T := TX7) (N := 3) hx hb hg inX7 hown hK hP 10 rfl rfl 0 (by decide) (hg _ q_1_239) (fun _ h9 => h9) rfl dX9_refusalOfTold_74 ?_
                refine lv_iload hx hb dX9_refusalOfTold_77 (lv_at hl 0 rfl) ?_
                refine va_lald hx hb hK hP 5 2 rfl rfl (iv_in b_121 (by decide)) dX9_refusalOfTold_79 ?_
                refine lv_topl (fun j_122 ej_122 => ?_)
                refine lv_iload_n hx hb dX9_refusalOfTold_80 rfl (lv_at hl 5 rfl) ?_
                refine lv_i2l hx hb dX9_refusalOfTold_81 rfl ?_
                refine lv_topl (fun j_123 ej_123 => ?_)
                refine W.lcmp hx hb dX9_refusalOfTold_82 ?_
                refine lv_if_lt (tgt := 101) hx hb dX9_refusalOfTold_83 (by decide) (fun c_124 => ?_) (fun c_124 => ?_)
                · replace c_124 : j_122 < j_123 := (lg_cmp_lt _ _).mp c_124
                  have b_125 : ivL (-9223372036854775808) 9223372036854775806 j_122 := ivL_l1 c_124 (ivL_top j_122) (ivL_top j_123) (by decide)
                  have b_126 : ivL (-9223372036854775807) 9223372036854775807 j_123 := ivL_l2 c_124 (ivL_top j_122) (ivL_top j_123) (by decide)
                  refine lv_bipush (v := (-3)) hx hb dX9_refusalOfTold_101 (by decide) ?_
                  have hP := subP (ws' := [(y 0, .inr (9, o9_rirrrrrrrrvviii (y 1) py0_1 (y 2) (y 10) (y 19) (y 25) (y 26) (y 30) (y 31) (y 32) o10 o11 py0_12 py0_13 py0_14)), (y 2, .inr (1, o1_iiiiiirrrrrrriiiii py2_0 py2_1 py2_2 py2_3 py2_4 py2_5 (y 3) (y 4) (y 5) (y 6) (y 7) (y 8) (y 9) py2_13 py2_14 py2_15 py2_16 py2_17)), (y 30, aT V 4 (va_up (va_up (va_up (va_up (fun _ => none) 0 (some (y 33))) 1 (some (y 35))) 2 (some (y 37))) 3 (some (y 39)))), (y 33, .inr (7, o7_rii (y 34) py33_1 py33_2)), (y 34, aJ V 40 fy34), (y 35, .inr (7, o7_rii (y 36) py35_1 py35_2)), (y 36, aJ V 40 fy36), (y 37, .inr (7, o7_rii (y 38) py37_1 py37_2)), (y 38, aJ V 40 fy38), (y 39, .inr (7, o7_rii (y 40) py39_1 py39_2)), (y 40, aJ V 40 fy40)]) hP [8, 9, 0, 1, 2, 3, 4, 10, 5, 6, 7] rfl
                  have hD := subD hP hD [8, 9, 0, 1, 2, 3, 4, 10, 5, 6, 7] rfl rfl
                  exact fiI hx hb hr hlk hK hP hD hS dX9_refusalOfTold_103 (Nat.le_of_ble_eq_true rfl) (Nat.le_of_ble_eq_true rfl) (Or.inr (Or.inr (Or.inr (Or.inr (Or.inr (Or.inr (Or.inr (Or.inr (Or.inr (Or.inr (Or.inr (Or.inr (Or.inr (Or.inr (Or.inr (Or.inr (Or.inl ⟨c_7, c_8, c_27, c_28, rfl, c_105, c_112, c_115, rfl, (rfF_t2 (by have z_0 := Int32.le_iff_toInt_le.mp (Int32.not_lt.mp c_7); have z_1 := Int32.lt_iff_toInt_lt.mp (Int32.not_le.mp c_8); have z_2 := Int32.le_iff_toInt_le.mp (Int32.not_lt.mp c_27); have z_3 := Int32.lt_iff_toInt_lt.mp (Int32.not_le.mp c_28); have z_4 := Int32.le_iff_toInt_le.mp c_105; have z_5 := Int32.le_iff_toInt_le.mp (Int32.not_lt.mp c_112); have z_6 := Int32.le_iff_toInt_le.mp c_115; have z_7 := Int32.lt_iff_toInt_lt.mp (Int32.not_le.mp c_119); have k_0 : (0 : Int32).toInt = 0 := (by decide); have k_1 : (1 : Int32).toInt = 1 := (by decide); have k_2 : (2 : Int32).toInt = 2 := (by decide); have k_4 : (4 : Int32).toInt = 4 := (by decide); have k_8 : (8 : Int32).toInt = 8 := (by decide); omega) (rf2_3 (u := u_117) (by have z_0 := Int32.le_iff_toInt_le.mp (Int32.not_lt.mp c_7); have z_1 := Int32.lt_iff_toInt_lt.mp (Int32.not_le.mp c_8); have z_2 := Int32.le_iff_toInt_le.mp (Int32.not_lt.mp c_27); have z_3 := Int32.lt_iff_toInt_lt.mp (Int32.not_le.mp c_28); have z_4 := Int32.le_iff_toInt_le.mp c_105; have z_5 := Int32.le_iff_toInt_le.mp (Int32.not_lt.mp c_112); have z_6 := Int32.le_iff_toInt_le.mp c_115; have z_7 := Int32.lt_iff_toInt_lt.mp (Int32.not_le.mp c_119); have k_0 : (0 : Int32).toInt = 0 := (by decide); have k_1 : (1 : Int32).toInt = 1 := (by decide); have k_2 : (2 : Int32).toInt = 2 := (by decide); have k_4 : (4 : Int32).toInt = 4 := (by decide); have k_8 : (8 : Int32).toInt = 8 := (by decide); have kk_1 : (1 : Int32).toInt = 1 := (by decide); have kk_8 : (8 : Int32).toInt = 8 := (by decide); omega) (by have z_0 := Int32.le_iff_toInt_le.mp (Int32.not_lt.mp c_7); have z_1 := Int32.lt_iff_toInt_lt.mp (Int32.not_le.mp c_8); have z_2 := Int32.le_iff_toInt_le.mp (Int32.not_lt.mp c_27); have z_3 := Int32.lt_iff_toInt_lt.mp (Int32.not_le.mp c_28); have z_4 := Int32.le_iff_toInt_le.mp c_105; have z_5 := Int32.le_iff_toInt_le.mp (Int32.not_lt.mp c_112); have z_6 := Int32.le_iff_toInt_le.mp c_115; have z_7 := Int32.lt_iff_toInt_lt.mp (Int32.not_le.mp c_119); have k_0 : (0 : Int32).toInt = 0 := (by decide); have k_1 : (1 : Int32).toInt = 1 := (by decide); have k_2 : (2 : Int32).toInt = 2 := (by decide); have k_4 : (4 : Int32).toInt = 4 := (by decide); have k_8 : (8 : Int32).toInt = 8 := (by decide); have kk_1 : (1 : Int32).toInt = 1 := (by decide); have kk_8 : (8 : Int32).toInt = 8 := (by decide); omega) b_121 (by decide) (by have z_0 := Int32.le_iff_toInt_le.mp (Int32.not_lt.mp c_7); have z_1 := Int32.lt_iff_toInt_lt.mp (Int32.not_le.mp c_8); have z_2 := Int32.le_iff_toInt_le.mp (Int32.not_lt.mp c_27); have z_3 := Int32.lt_iff_toInt_lt.mp (Int32.not_le.mp c_28); have z_4 := Int32.le_iff_toInt_le.mp c_105; have z_5 := Int32.le_iff_toInt_le.mp (Int32.not_lt.mp c_112); have z_6 := Int32.le_iff_toInt_le.mp c_115; have z_7 := Int32.lt_iff_toInt_lt.mp (Int32.not_le.mp c_119); have k_0 : (0 : Int32).toInt = 0 := (by decide); have k_1 : (1 : Int32).toInt = 1 := (by decide); have k_2 : (2 : Int32).toInt = 2 := (by decide); have k_4 : (4 : Int32).toInt = 4 := (by decide); have k_8 : (8 : Int32).toInt = 8 := (by decide); have kk_1 : (1 : Int32).toInt = 1 := (by decide); have kk_8 : (8 : Int32).toInt = 8 := (by decide); omega) (Or.inl (by rw [← ej_122, ← ej_123]; exact c_124)))), rfl⟩)))))))))))))))))
                · replace c_124 : ¬ j_122 < j_123 := fun z => c_124 ((lg_cmp_lt _ _).mpr z)
                  refine lv_aload hx hb dX9_refusalOfTold_86 (lv_at hl 1 rfl) ?_
                  refine va_get (ci := 7) (v := .ref (y 38)) (C := RX7) (T := TX7) (N := 3) hx hb hg inX7 hown hK hP 10 rfl rfl 0 (by decide) (hg _ q_1_239) (fun _ h9 => h9) rfl dX9_refusalOfTold_88 ?_
                  refine lv_iload hx hb dX9_refusalOfTold_91 (lv_at hl 0 rfl) ?_
                  refine va_lald hx hb hK hP 5 2 rfl rfl (iv_in b_121 (by decide)) dX9_refusalOfTold_93 ?_
                  refine tpl (y := j_122) ej_122.symm ?_
                  refine lv_ldc2 (v := 4) hx hb hown (hg _ q_5_25) dX9_refusalOfTold_94 ?_
                  refine W.lcmp hx hb dX9_refusalOfTold_97 ?_
                  refine lv_if_le (tgt := 104) hx hb dX9_refusalOfTold_98 (by decide) (fun c_127 => ?_) (fun c_127 => ?_)
                  · replace c_127 : j_122 ≤ (4 : Int64) := (lg_cmp_le _ _).mp c_127
                    have b_128 : ivL (-9223372036854775808) 4 j_122 := ivL_e1 c_127 (ivL_top j_122) (ivL_c (4 : Int64) (a := 4) (b := 4) (by decide)) (by decide)
                    obtain ⟨x_129, ex_129⟩ : ∃ z9 : Int32, z9 = u_117 + 1 := ⟨_, rfl⟩
                    have bx_129 : iv 1 8 x_129 := by rw [ex_129]; exact iv_add b_121 (iv_c (1 : Int32) (a := 1) (b := 1) (by decide)) (by decide)
                    refine lv_iinc (v := x_129) (lv' := [(5, .int x_129), (4, .ref (y 37)), (0, .ref (y 0)), (1, .int 2), (2, .int a2), (3, .int a3)]) hx hb dX9_refusalOfTold_104 hl (k := 0) rfl (by rw [ex_129]; rfl) (by decide) rfl (fun ls hl => ?_)
                    refine lv_goto (tgt := 62) hx hb dX9_refusalOfTold_107 (by decide) ?_
                    exact ihn_118 _ _ _ _ (by rw [en_118, ex_129]; exact mu_up b_121 (by decide)) ⟨x_129, (iv_w bx_129 (by decide)), (rf_s inn_118_0 b_121 (by decide) ej_122 ej_123 c_124 c_127 ex_129), rfl, hP, hD, hS, lv_sub hl [0, 1, 2, 3, 4, 5] rfl⟩
                  · replace c_127 : ¬ j_122 ≤ (4 : Int64) := fun z => c_127 ((lg_cmp_le _ _).mpr z)
                    have b_130 : ivL 5 9223372036854775807 j_122 := ivL_l2 (Int64.not_le.mp c_127) (ivL_c (4 : Int64) (a := 4) (b := 4) (by decide)) (ivL_top j_122) (by decide)
                    refine lv_bipush (v := (-3)) hx hb dX9_refusalOfTold_101 (by decide) ?_
                    have hP := subP (ws' := [(y 0, .inr (9, o9_rirrrrrrrrvviii (y 1) py0_1 (y 2) (y 10) (y 19) (y 25) (y 26) (y 30) (y 31) (y 32) o10 o11 py0_12 py0_13 py0_14)), (y 2, .inr (1, o1_iiiiiirrrrrrriiiii py2_0 py2_1 py2_2 py2_3 py2_4 py2_5 (y 3) (y 4) (y 5) (y 6) (y 7) (y 8) (y 9) py2_13 py2_14 py2_15 py2_16 py2_17)), (y 30, aT V 4 (va_up (va_up (va_up (va_up (fun _ => none) 0 (some (y 33))) 1 (some (y 35))) 2 (some (y 37))) 3 (some (y 39)))), (y 33, .inr (7, o7_rii (y 34) py33_1 py33_2)), (y 34, aJ V 40 fy34), (y 35, .inr (7, o7_rii (y 36) py35_1 py35_2)), (y 36, aJ V 40 fy36), (y 37, .inr (7, o7_rii (y 38) py37_1 py37_2)), (y 38, aJ V 40 fy38), (y 39, .inr (7, o7_rii (y 40) py39_1 py39_2)), (y 40, aJ V 40 fy40)]) hP [8, 9, 0, 1, 2, 3, 4, 10, 5, 6, 7] rfl
                    have hD := subD hP hD [8, 9, 0, 1, 2, 3, 4, 10, 5, 6, 7] rfl rfl
                    exact fiI hx hb hr hlk hK hP hD hS dX9_refusalOfTold_103 (Nat.le_of_ble_eq_true rfl) (Nat.le_of_ble_eq_true rfl) (Or.inr (Or.inr (Or.inr (Or.inr (Or.inr (Or.inr (Or.inr (Or.inr (Or.inr (Or.inr (Or.inr (Or.inr (Or.inr (Or.inr (Or.inr (Or.inr (Or.inl ⟨c_7, c_8, c_27, c_28, rfl, c_105, c_112, c_115, rfl, (rfF_t2 (by have z_0 := Int32.le_iff_toInt_le.mp (Int32.not_lt.mp c_7); have z_1 := Int32.lt_iff_toInt_lt.mp (Int32.not_le.mp c_8); have z_2 := Int32.le_iff_toInt_le.mp (Int32.not_lt.mp c_27); have z_3 := Int32.lt_iff_toInt_lt.mp (Int32.not_le.mp c_28); have z_4 := Int32.le_iff_toInt_le.mp c_105; have z_5 := Int32.le_iff_toInt_le.mp (Int32.not_lt.mp c_112); have z_6 := Int32.le_iff_toInt_le.mp c_115; have z_7 := Int32.lt_iff_toInt_lt.mp (Int32.not_le.mp c_119); have k_0 : (0 : Int32).toInt = 0 := (by decide); have k_1 : (1 : Int32).toInt = 1 := (by decide); have k_2 : (2 : Int32).toInt = 2 := (by decide); have k_4 : (4 : Int32).toInt = 4 := (by decide); have k_8 : (8 : Int32).toInt = 8 := (by decide); omega) (rf2_3 (u := u_117) (by have z_0 := Int32.le_iff_toInt_le.mp (Int32.not_lt.mp c_7); have z_1 := Int32.lt_iff_toInt_lt.mp (Int32.not_le.mp c_8); have z_2 := Int32.le_iff_toInt_le.mp (Int32.not_lt.mp c_27); have z_3 := Int32.lt_iff_toInt_lt.mp (Int32.not_le.mp c_28); have z_4 := Int32.le_iff_toInt_le.mp c_105; have z_5 := Int32.le_iff_toInt_le.mp (Int32.not_lt.mp c_112); have z_6 := Int32.le_iff_toInt_le.mp c_115; have z_7 := Int32.lt_iff_toInt_lt.mp (Int32.not_le.mp c_119); have k_0 : (0 : Int32).toInt = 0 := (by decide); have k_1 : (1 : Int32).toInt = 1 := (by decide); have k_2 : (2 : Int32).toInt = 2 := (by decide); have k_4 : (4 : Int32).toInt = 4 := (by decide); have k_8 : (8 : Int32).toInt = 8 := (by decide); have kk_1 : (1 : Int32).toInt = 1 := (by decide); have kk_8 : (8 : Int32).toInt = 8 := (by decide); omega) (by have z_0 := Int32.le_iff_toInt_le.mp (Int32.not_lt.mp c_7); have z_1 := Int32.lt_iff_toInt_lt.mp (Int32.not_le.mp c_8); have z_2 := Int32.le_iff_toInt_le.mp (Int32.not_lt.mp c_27); have z_3 := Int32.lt_iff_toInt_lt.mp (Int32.not_le.mp c_28); have z_4 := Int32.le_iff_toInt_le.mp c_105; have z_5 := Int32.le_iff_toInt_le.mp (Int32.not_lt.mp c_112); have z_6 := Int32.le_iff_toInt_le.mp c_115; have z_7 := Int32.lt_iff_toInt_lt.mp (Int32.not_le.mp c_119); have k_0 : (0 : Int32).toInt = 0 := (by decide); have k_1 : (1 : Int32).toInt = 1 := (by decide); have k_2 : (2 : Int32).toInt = 2 := (by decide); have k_4 : (4 : Int32).toInt = 4 := (by decide); have k_8 : (8 : Int32).toInt = 8 := (by decide); have kk_1 : (1 : Int32).toInt = 1 := (by decide); have kk_8 : (8 : Int32).toInt = 8 := (by decide); omega) b_121 (by decide) (by have z_0 := Int32.le_iff_toInt_le.mp (Int32.not_lt.mp c_7); have z_1 := Int32.lt_iff_toInt_lt.mp (Int32.not_le.mp c_8); have z_2 := Int32.le_iff_toInt_le.mp (Int32.not_lt.mp c_27); have z_3 := Int32.lt_iff_toInt_lt.mp (Int32.not_le.mp c_28); have z_4 := Int32.le_iff_toInt_le.mp c_105; have z_5 := Int32.le_iff_toInt_le.mp (Int32.not_lt.mp c_112); have z_6 := Int32.le_iff_toInt_le.mp c_115; have z_7 := Int32.lt_iff_toInt_lt.mp (Int32.not_le.mp c_119); have k_0 : (0 : Int32).toInt = 0 := (by decide); have k_1 : (1 : Int32).toInt = 1 := (by decide); have k_2 : (2 : Int32).toInt = 2 := (by decide); have k_4 : (4 : Int32).toInt = 4 := (by decide); have k_8 : (8 : Int32).toInt = 8 := (by decide); have kk_1 : (1 : Int32).toInt = 1 := (by decide); have kk_8 : (8 : Int32).toInt = 8 := (by decide); omega) (Or.inr (by rw [← ej_122]; exact Int64.not_le.mp c_127)))), rfl⟩)))))))))))))))))
            · have b_131 : iv 9 40 py37_1 := iv_l2 (Int32.not_le.mp c_115) (iv_c (8 : Int32) (a := 8) (b := 8) (by decide)) b_114 (by decide)
              refine lv_bipush (v := (-4)) hx hb dX9_refusalOfTold_56 (by decide) ?_
              have hP := subP (ws' := [(y 0, .inr (9, o9_rirrrrrrrrvviii (y 1) py0_1 (y 2) (y 10) (y 19) (y 25) (y 26) (y 30) (y 31) (y 32) o10 o11 py0_12 py0_13 py0_14)), (y 2, .inr (1, o1_iiiiiirrrrrrriiiii py2_0 py2_1 py2_2 py2_3 py2_4 py2_5 (y 3) (y 4) (y 5) (y 6) (y 7) (y 8) (y 9) py2_13 py2_14 py2_15 py2_16 py2_17)), (y 30, aT V 4 (va_up (va_up (va_up (va_up (fun _ => none) 0 (some (y 33))) 1 (some (y 35))) 2 (some (y 37))) 3 (some (y 39)))), (y 33, .inr (7, o7_rii (y 34) py33_1 py33_2)), (y 34, aJ V 40 fy34), (y 35, .inr (7, o7_rii (y 36) py35_1 py35_2)), (y 36, aJ V 40 fy36), (y 37, .inr (7, o7_rii (y 38) py37_1 py37_2)), (y 38, aJ V 40 fy38), (y 39, .inr (7, o7_rii (y 40) py39_1 py39_2)), (y 40, aJ V 40 fy40)]) hP [8, 9, 0, 1, 2, 3, 4, 10, 5, 6, 7] rfl
              have hD := subD hP hD [8, 9, 0, 1, 2, 3, 4, 10, 5, 6, 7] rfl rfl
              exact fiI hx hb hr hlk hK hP hD hS dX9_refusalOfTold_58 (Nat.le_of_ble_eq_true rfl) (Nat.le_of_ble_eq_true rfl) (Or.inr (Or.inr (Or.inr (Or.inr (Or.inr (Or.inr (Or.inr (Or.inr (Or.inr (Or.inr (Or.inr (Or.inr (Or.inr (Or.inr (Or.inr (Or.inr (Or.inr (Or.inl ⟨c_7, c_8, c_27, c_28, rfl, c_105, c_112, c_115, rfl, (rfF_t2 (by have z_0 := Int32.le_iff_toInt_le.mp (Int32.not_lt.mp c_7); have z_1 := Int32.lt_iff_toInt_lt.mp (Int32.not_le.mp c_8); have z_2 := Int32.le_iff_toInt_le.mp (Int32.not_lt.mp c_27); have z_3 := Int32.lt_iff_toInt_lt.mp (Int32.not_le.mp c_28); have z_4 := Int32.le_iff_toInt_le.mp c_105; have z_5 := Int32.le_iff_toInt_le.mp (Int32.not_lt.mp c_112); have z_6 := Int32.lt_iff_toInt_lt.mp (Int32.not_le.mp c_115); have k_0 : (0 : Int32).toInt = 0 := (by decide); have k_1 : (1 : Int32).toInt = 1 := (by decide); have k_2 : (2 : Int32).toInt = 2 := (by decide); have k_4 : (4 : Int32).toInt = 4 := (by decide); have k_8 : (8 : Int32).toInt = 8 := (by decide); omega) (rf2_4 (by have z_0 := Int32.le_iff_toInt_le.mp (Int32.not_lt.mp c_7); have z_1 := Int32.lt_iff_toInt_lt.mp (Int32.not_le.mp c_8); have z_2 := Int32.le_iff_toInt_le.mp (Int32.not_lt.mp c_27); have z_3 := Int32.lt_iff_toInt_lt.mp (Int32.not_le.mp c_28); have z_4 := Int32.le_iff_toInt_le.mp c_105; have z_5 := Int32.le_iff_toInt_le.mp (Int32.not_lt.mp c_112); have z_6 := Int32.lt_iff_toInt_lt.mp (Int32.not_le.mp c_115); have k_0 : (0 : Int32).toInt = 0 := (by decide); have k_1 : (1 : Int32).toInt = 1 := (by decide); have k_2 : (2 : Int32).toInt = 2 := (by decide); have k_4 : (4 : Int32).toInt = 4 := (by decide); have k_8 : (8 : Int32).toInt = 8 := (by decide); have kk_1 : (1 : Int32).toInt = 1 := (by decide); have kk_8 : (8 : Int32).toInt = 8 := (by decide); omega) (by have z_0 := Int32.le_iff_toInt_le.mp (Int32.not_lt.mp c_7); have z_1 := Int32.lt_iff_toInt_lt.mp (Int32.not_le.mp c_8); have z_2 := Int32.le_iff_toInt_le.mp (Int32.not_lt.mp c_27); have z_3 := Int32.lt_iff_toInt_lt.mp (Int32.not_le.mp c_28); have z_4 := Int32.le_iff_toInt_le.mp c_105; have z_5 := Int32.le_iff_toInt_le.mp (Int32.not_lt.mp c_112); have z_6 := Int32.lt_iff_toInt_lt.mp (Int32.not_le.mp c_115); have k_0 : (0 : Int32).toInt = 0 := (by decide); have k_1 : (1 : Int32).toInt = 1 := (by decide); have k_2 : (2 : Int32).toInt = 2 := (by decide); have k_4 : (4 : Int32).toInt = 4 := (by decide); have k_8 : (8 : Int32).toInt = 8 := (by decide); have kk_1 : (1 : Int32).toInt = 1 := (by decide); have kk_8 : (8 : Int32).toInt = 8 := (by decide); omega))), rfl⟩))))))))))))))))))
        · have hP : va_P V.1 vwCl [(y 30, aT V 4 (va_up (va_up (va_up (va_up (fun _ => none) 0 (some (y 33))) 1 (some (y 35))) 2 (some (y 37))) 3 (some (y 39)))), (y 33, .inr (7, o7_rii (y 34) py33_1 py33_2)), (y 34, aJ V 40 fy34), (y 35, .inr (7, o7_rii (y 36) py35_1 py35_2)), (y 36, aJ V 40 fy36), (y 38, aJ V 40 fy38), (y 39, .inr (7, o7_rii (y 40) py39_1 py39_2)), (y 40, aJ V 40 fy40), (y 0, .inr (9, o9_rirrrrrrrrvviii (y 1) py0_1 (y 2) (y 10) (y 19) (y 25) (y 26) (y 30) (y 31) (y 32) o10 o11 py0_12 py0_13 py0_14)), (y 2, .inr (1, o1_iiiiiirrrrrrriiiii py2_0 py2_1 py2_2 py2_3 py2_4 py2_5 (y 3) (y 4) (y 5) (y 6) (y 7) (y 8) (y 9) py2_13 py2_14 py2_15 py2_16 py2_17)), (y 37, .inr (7, o7_rii (y 38) py37_1 py37_2))] H := hP
          have hD := cpD hP hD
          have b_132 : iv (-1) (-1) py37_1 := iv_l1 (Int32.not_le.mp c_107) bpy37_1 (iv_c (0 : Int32) (a := 0) (b := 0) (by decide)) (by decide)
          refine lv_if_eq (tgt := 37) hx hb dX9_refusalOfTold_31 (by decide) (fun c_134 => absurd c_134 (by decide)) (fun _ => ?_)
          refine lv_bipush (v := (-6)) hx hb dX9_refusalOfTold_34 (by decide) ?_
          have hP := subP (ws' := [(y 0, .inr (9, o9_rirrrrrrrrvviii (y 1) py0_1 (y 2) (y 10) (y 19) (y 25) (y 26) (y 30) (y 31) (y 32) o10 o11 py0_12 py0_13 py0_14)), (y 2, .inr (1, o1_iiiiiirrrrrrriiiii py2_0 py2_1 py2_2 py2_3 py2_4 py2_5 (y 3) (y 4) (y 5) (y 6) (y 7) (y 8) (y 9) py2_13 py2_14 py2_15 py2_16 py2_17)), (y 30, aT V 4 (va_up (va_up (va_up (va_up (fun _ => none) 0 (some (y 33))) 1 (some (y 35))) 2 (some (y 37))) 3 (some (y 39)))), (y 33, .inr (7, o7_rii (y 34) py33_1 py33_2)), (y 34, aJ V 40 fy34), (y 35, .inr (7, o7_rii (y 36) py35_1 py35_2)), (y 36, aJ V 40 fy36), (y 37, .inr (7, o7_rii (y 38) py37_1 py37_2)), (y 38, aJ V 40 fy38), (y 39, .inr (7, o7_rii (y 40) py39_1 py39_2)), (y 40, aJ V 40 fy40)]) hP [8, 9, 0, 1, 2, 3, 4, 10, 5, 6, 7] rfl
          have hD := subD hP hD [8, 9, 0, 1, 2, 3, 4, 10, 5, 6, 7] rfl rfl
          exact fiI hx hb hr hlk hK hP hD hS dX9_refusalOfTold_36 (Nat.le_of_ble_eq_true rfl) (Nat.le_of_ble_eq_true rfl) (Or.inr (Or.inr (Or.inr (Or.inr (Or.inr (Or.inr (Or.inr (Or.inr (Or.inr (Or.inr (Or.inr (Or.inr (Or.inr (Or.inr (Or.inr (Or.inr (Or.inr (Or.inr (Or.inl ⟨c_7, c_8, c_27, c_28, rfl, c_107, rfl, (rfF_t2 (by have z_0 := Int32.le_iff_toInt_le.mp (Int32.not_lt.mp c_7); have z_1 := Int32.lt_iff_toInt_lt.mp (Int32.not_le.mp c_8); have z_2 := Int32.le_iff_toInt_le.mp (Int32.not_lt.mp c_27); have z_3 := Int32.lt_iff_toInt_lt.mp (Int32.not_le.mp c_28); have z_4 := Int32.lt_iff_toInt_lt.mp (Int32.not_le.mp c_107); have k_0 : (0 : Int32).toInt = 0 := (by decide); have k_2 : (2 : Int32).toInt = 2 := (by decide); have k_4 : (4 : Int32).toInt = 4 := (by decide); omega) (rf2_6 (by have z_0 := Int32.le_iff_toInt_le.mp (Int32.not_lt.mp c_7); have z_1 := Int32.lt_iff_toInt_lt.mp (Int32.not_le.mp c_8); have z_2 := Int32.le_iff_toInt_le.mp (Int32.not_lt.mp c_27); have z_3 := Int32.lt_iff_toInt_lt.mp (Int32.not_le.mp c_28); have z_4 := Int32.lt_iff_toInt_lt.mp (Int32.not_le.mp c_107); have k_0 : (0 : Int32).toInt = 0 := (by decide); have k_2 : (2 : Int32).toInt = 2 := (by decide); have k_4 : (4 : Int32).toInt = 4 := (by decide); have kk_1 : (1 : Int32).toInt = 1 := (by decide); have kk_8 : (8 : Int32).toInt = 8 := (by decide); omega))), rfl⟩)))))))))))))))))))
      · refine va_aldq hx hb hK hP 0 4 rfl rfl (vin (by decide +kernel)) dX9_refusalOfTold_23 ?_
        refine W.eq (g2 := F0 m 24 ls (.ref (y 39) :: [])) rfl ?_
        refine lv_astore (lv' := [(4, .ref (y 39)), (0, .ref (y 0)), (1, .int 3), (2, .int a2), (3, .int a3)]) hx hb dX9_refusalOfTold_24 hl (by decide) rfl (fun ls hl => ?_)
        refine lv_aload hx hb dX9_refusalOfTold_26 (lv_at hl 0 rfl) ?_
        refine jnI (wr := [(y 30, aT V 4 (va_up (va_up (va_up (va_up (fun _ => none) 0 (some (y 33))) 1 (some (y 35))) 2 (some (y 37))) 3 (some (y 39)))), (y 33, .inr (7, o7_rii (y 34) py33_1 py33_2)), (y 34, aJ V 40 fy34), (y 35, .inr (7, o7_rii (y 36) py35_1 py35_2)), (y 36, aJ V 40 fy36), (y 37, .inr (7, o7_rii (y 38) py37_1 py37_2)), (y 38, aJ V 40 fy38), (y 40, aJ V 40 fy40), (y 0, .inr (9, o9_rirrrrrrrrvviii (y 1) py0_1 (y 2) (y 10) (y 19) (y 25) (y 26) (y 30) (y 31) (y 32) o10 o11 py0_12 py0_13 py0_14)), (y 2, .inr (1, o1_iiiiiirrrrrrriiiii py2_0 py2_1 py2_2 py2_3 py2_4 py2_5 (y 3) (y 4) (y 5) (y 6) (y 7) (y 8) (y 9) py2_13 py2_14 py2_15 py2_16 py2_17))]) (rnV (rest := []) ⟨hx, hb, hml, hown, hg⟩ (k_X7_isMissing_3 l V y py39_1 py39_2 bpy39_1) mt_X7_isMissing q_3_231 ⟨Nat.le_of_ble_eq_true rfl, Nat.le_of_ble_eq_true rfl⟩ hK hP hD hS hA hE [7] rfl rfl 7 rfl rfl rfl rfl hl.1 rfl (Nat.le_of_ble_eq_true rfl) dX9_refusalOfTold_28 ⟨Nat.le_of_ble_eq_true rfl, Nat.le_of_ble_eq_true rfl⟩) hP hD hS hA [7] [0, 1, 2, 3, 4, 5, 6, 8, 9, 10] rfl rfl rfl (by decide) (fun r_135 w H locs hw hP hD hS => ?_)
        rcases hw with ⟨c_136, rfl, et_137, rfl⟩ | ⟨c_138, rfl, et_139, rfl⟩
        · have hP : va_P V.1 vwCl [(y 30, aT V 4 (va_up (va_up (va_up (va_up (fun _ => none) 0 (some (y 33))) 1 (some (y 35))) 2 (some (y 37))) 3 (some (y 39)))), (y 33, .inr (7, o7_rii (y 34) py33_1 py33_2)), (y 34, aJ V 40 fy34), (y 35, .inr (7, o7_rii (y 36) py35_1 py35_2)), (y 36, aJ V 40 fy36), (y 37, .inr (7, o7_rii (y 38) py37_1 py37_2)), (y 38, aJ V 40 fy38), (y 40, aJ V 40 fy40), (y 0, .inr (9, o9_rirrrrrrrrvviii (y 1) py0_1 (y 2) (y 10) (y 19) (y 25) (y 26) (y 30) (y 31) (y 32) o10 o11 py0_12 py0_13 py0_14)), (y 2, .inr (1, o1_iiiiiirrrrrrriiiii py2_0 py2_1 py2_2 py2_3 py2_4 py2_5 (y 3) (y 4) (y 5) (y 6) (y 7) (y 8) (y 9) py2_13 py2_14 py2_15 py2_16 py2_17)), (y 39, .inr (7, o7_rii (y 40) py39_1 py39_2))] H := hP
          have hD := cpD hP hD
          have b_140 : iv 0 40 py39_1 := iv_e2 c_136 (iv_c (0 : Int32) (a := 0) (b := 0) (by decide)) bpy39_1 (by decide)
          refine lv_if_eq (tgt := 37) hx hb dX9_refusalOfTold_31 (by decide) (fun _ => ?_) (fun c_142 => absurd c_142 (by decide))
          refine lv_aload hx hb dX9_refusalOfTold_37 (lv_at hl 0 rfl) ?_
          refine va_get (ci := 7) (v := .int py39_1) (C := RX7) (T := TX7) (N := 3) hx hb hg inX7 hown hK hP 10 rfl rfl 1 (by decide) (hg _ q_2_2) (fun _ h9 => h9) rfl dX9_refusalOfTold_39 ?_
          refine lv_iconst (v := 1) hx hb dX9_refusalOfTold_42 (by decide) ?_
          refine lv_icmp_lt (tgt := 56) hx hb dX9_refusalOfTold_43 (by decide) (fun c_143 => ?_) (fun c_143 => ?_)
          · have b_144 : iv 0 0 py39_1 := iv_l1 c_143 b_140 (iv_c (1 : Int32) (a := 1) (b := 1) (by decide)) (by decide)
            refine lv_bipush (v := (-4)) hx hb dX9_refusalOfTold_56 (by decide) ?_
            have hP := subP (ws' := [(y 0, .inr (9, o9_rirrrrrrrrvviii (y 1) py0_1 (y 2) (y 10) (y 19) (y 25) (y 26) (y 30) (y 31) (y 32) o10 o11 py0_12 py0_13 py0_14)), (y 2, .inr (1, o1_iiiiiirrrrrrriiiii py2_0 py2_1 py2_2 py2_3 py2_4 py2_5 (y 3) (y 4) (y 5) (y 6) (y 7) (y 8) (y 9) py2_13 py2_14 py2_15 py2_16 py2_17)), (y 30, aT V 4 (va_up (va_up (va_up (va_up (fun _ => none) 0 (some (y 33))) 1 (some (y 35))) 2 (some (y 37))) 3 (some (y 39)))), (y 33, .inr (7, o7_rii (y 34) py33_1 py33_2)), (y 34, aJ V 40 fy34), (y 35, .inr (7, o7_rii (y 36) py35_1 py35_2)), (y 36, aJ V 40 fy36), (y 37, .inr (7, o7_rii (y 38) py37_1 py37_2)), (y 38, aJ V 40 fy38), (y 39, .inr (7, o7_rii (y 40) py39_1 py39_2)), (y 40, aJ V 40 fy40)]) hP [8, 9, 0, 1, 2, 3, 4, 5, 6, 10, 7] rfl
            have hD := subD hP hD [8, 9, 0, 1, 2, 3, 4, 5, 6, 10, 7] rfl rfl
            exact fiI hx hb hr hlk hK hP hD hS dX9_refusalOfTold_58 (Nat.le_of_ble_eq_true rfl) (Nat.le_of_ble_eq_true rfl) (Or.inr (Or.inr (Or.inr (Or.inr (Or.inr (Or.inr (Or.inr (Or.inr (Or.inr (Or.inr (Or.inr (Or.inr (Or.inr (Or.inr (Or.inr (Or.inr (Or.inr (Or.inr (Or.inr (Or.inl ⟨c_7, c_8, c_27, c_28, rfl, c_136, c_143, rfl, (rfF_t3 (by have z_0 := Int32.le_iff_toInt_le.mp (Int32.not_lt.mp c_7); have z_1 := Int32.lt_iff_toInt_lt.mp (Int32.not_le.mp c_8); have z_2 := Int32.le_iff_toInt_le.mp (Int32.not_lt.mp c_27); have z_3 := Int32.lt_iff_toInt_lt.mp (Int32.not_le.mp c_28); have z_4 := Int32.le_iff_toInt_le.mp c_136; have z_5 := Int32.lt_iff_toInt_lt.mp c_143; have k_0 : (0 : Int32).toInt = 0 := (by decide); have k_1 : (1 : Int32).toInt = 1 := (by decide); have k_3 : (3 : Int32).toInt = 3 := (by decide); have k_4 : (4 : Int32).toInt = 4 := (by decide); omega) (rf2_4 (by have z_0 := Int32.le_iff_toInt_le.mp (Int32.not_lt.mp c_7); have z_1 := Int32.lt_iff_toInt_lt.mp (Int32.not_le.mp c_8); have z_2 := Int32.le_iff_toInt_le.mp (Int32.not_lt.mp c_27); have z_3 := Int32.lt_iff_toInt_lt.mp (Int32.not_le.mp c_28); have z_4 := Int32.le_iff_toInt_le.mp c_136; have z_5 := Int32.lt_iff_toInt_lt.mp c_143; have k_0 : (0 : Int32).toInt = 0 := (by decide); have k_1 : (1 : Int32).toInt = 1 := (by decide); have k_3 : (3 : Int32).toInt = 3 := (by decide); have k_4 : (4 : Int32).toInt = 4 := (by decide); have kk_1 : (1 : Int32).toInt = 1 := (by decide); have kk_8 : (8 : Int32).toInt = 8 := (by decide); omega) (by have z_0 := Int32.le_iff_toInt_le.mp (Int32.not_lt.mp c_7); have z_1 := Int32.lt_iff_toInt_lt.mp (Int32.not_le.mp c_8); have z_2 := Int32.le_iff_toInt_le.mp (Int32.not_lt.mp c_27); have z_3 := Int32.lt_iff_toInt_lt.mp (Int32.not_le.mp c_28); have z_4 := Int32.le_iff_toInt_le.mp c_136; have z_5 := Int32.lt_iff_toInt_lt.mp c_143; have k_0 : (0 : Int32).toInt = 0 := (by decide); have k_1 : (1 : Int32).toInt = 1 := (by decide); have k_3 : (3 : Int32).toInt = 3 := (by decide); have k_4 : (4 : Int32).toInt = 4 := (by decide); have kk_1 : (1 : Int32).toInt = 1 := (by decide); have kk_8 : (8 : Int32).toInt = 8 := (by decide); omega))), rfl⟩))))))))))))))))))))
          · have b_145 : iv 1 40 py39_1 := iv_e2 (Int32.not_lt.mp c_143) (iv_c (1 : Int32) (a := 1) (b := 1) (by decide)) b_140 (by decide)
            refine lv_aload hx hb dX9_refusalOfTold_46 (lv_at hl 0 rfl) ?_
            refine va_get (ci := 7) (v := .int py39_1) (C := RX7) (T := TX7) (N := 3) hx hb hg inX7 hown hK hP 10 rfl rfl 1 (by decide) (hg _ q_2_2) (fun _ h9 => h9) rfl dX9_refusalOfTold_48 ?_
            refine lv_bipush (v := 8) hx hb dX9_refusalOfTold_51 (by decide) ?_
            refine lv_icmp_le (tgt := 59) hx hb dX9_refusalOfTold_53 (by decide) (fun c_146 => ?_) (fun c_146 => ?_)
            · have b_147 : iv 1 8 py39_1 := iv_e1 c_146 b_145 (iv_c (8 : Int32) (a := 8) (b := 8) (by decide)) (by decide)
              refine lv_iconst (v := 0) hx hb dX9_refusalOfTold_59 (by decide) ?_
              refine lv_istore (lv' := [(5, .int 0), (4, .ref (y 39)), (0, .ref (y 0)), (1, .int 3), (2, .int a2), (3, .int a3)]) hx hb dX9_refusalOfTold_60 hl (by decide) rfl (fun ls hl => ?_)
              refine loopF (X := fun (n_149 : Nat) (H : Heap) (locs : List Loc) (ls : Array Slot) => ∃ (u_148 : Int32), (iv 0 2147483647 u_148) ∧ (∀ j : Nat, (j : Int) < (u_148 : Int32).toInt → ¬ (fy40 j < (a3 : Int32).toInt64 ∨ 4 < fy40 j)) ∧ n_149 = (2147483647 - (u_148 : Int32).toInt).toNat ∧ va_P V.1 vwCl [(y 30, aT V 4 (va_up (va_up (va_up (va_up (fun _ => none) 0 (some (y 33))) 1 (some (y 35))) 2 (some (y 37))) 3 (some (y 39)))), (y 33, .inr (7, o7_rii (y 34) py33_1 py33_2)), (y 34, aJ V 40 fy34), (y 35, .inr (7, o7_rii (y 36) py35_1 py35_2)), (y 36, aJ V 40 fy36), (y 37, .inr (7, o7_rii (y 38) py37_1 py37_2)), (y 38, aJ V 40 fy38), (y 40, aJ V 40 fy40), (y 0, .inr (9, o9_rirrrrrrrrvviii (y 1) py0_1 (y 2) (y 10) (y 19) (y 25) (y 26) (y 30) (y 31) (y 32) o10 o11 py0_12 py0_13 py0_14)), (y 2, .inr (1, o1_iiiiiirrrrrrriiiii py2_0 py2_1 py2_2 py2_3 py2_4 py2_5 (y 3) (y 4) (y 5) (y 6) (y 7) (y 8) (y 9) py2_13 py2_14 py2_15 py2_16 py2_17)), (y 39, .inr (7, o7_rii (y 40) py39_1 py39_2))] H ∧ va_D A [(y 30, aT V 4 (va_up (va_up (va_up (va_up (fun _ => none) 0 (some (y 33))) 1 (some (y 35))) 2 (some (y 37))) 3 (some (y 39)))), (y 33, .inr (7, o7_rii (y 34) py33_1 py33_2)), (y 34, aJ V 40 fy34), (y 35, .inr (7, o7_rii (y 36) py35_1 py35_2)), (y 36, aJ V 40 fy36), (y 37, .inr (7, o7_rii (y 38) py37_1 py37_2)), (y 38, aJ V 40 fy38), (y 40, aJ V 40 fy40), (y 0, .inr (9, o9_rirrrrrrrrvviii (y 1) py0_1 (y 2) (y 10) (y 19) (y 25) (y 26) (y 30) (y 31) (y 32) o10 o11 py0_12 py0_13 py0_14)), (y 2, .inr (1, o1_iiiiiirrrrrrriiiii py2_0 py2_1 py2_2 py2_3 py2_4 py2_5 (y 3) (y 4) (y 5) (y 6) (y 7) (y 8) (y 9) py2_13 py2_14 py2_15 py2_16 py2_17)), (y 39, .inr (7, o7_rii (y 40) py39_1 py39_2))] ∧ va_S A s.heap H locs ∧ lv_has ls 6 [(5, .int u_148), (4, .ref (y 39)), (0, .ref (y 0)), (1, .int 3), (2, .int a2), (3, .int a3)]) (g := fun ls => F0 m 62 ls []) (fun n_149 H locs ls hX ihn_149 => ?_) _ ⟨0, (iv_c (0 : Int32) (by decide)), (fun j hj => absurd hj (by have h9 : (0 : Int32).toInt = 0 := (by decide); omega)), rfl, hP, hD, hS, lv_sub hl [0, 1, 2, 3, 4, 5] rfl⟩
              obtain ⟨u_148, bu_148, inn_149_0, en_149, hP, hD, hS, hl⟩ := hX
              refine lv_iload hx hb dX9_refusalOfTold_62 (lv_at hl 0 rfl) ?_
              refine lv_aload hx hb dX9_refusalOfTold_64 (lv_at hl 1 rfl) ?_
              refine va_get (ci := 7) (v := .int py39_1) (C := RX7) (T := TX7) (N := 3) hx hb hg inX7 hown hK hP 10 rfl rfl 1 (by decide) (hg _ q_2_2) (fun _ h9 => h9) rfl dX9_refusalOfTold_66 ?_
              refine lv_icmp_ge (tgt := 110) hx hb dX9_refusalOfTold_69 (by decide) (fun c_150 => ?_) (fun c_150 => ?_)
              · have b_151 : iv 1 2147483647 u_148 := iv_e2 c_150 b_147 bu_148 (by decide)
                refine lv_iconst (v := 0) hx hb dX9_refusalOfTold_110 (by decide) ?_
                have hP := subP (ws' := [(y 0, .inr (9, o9_rirrrrrrrrvviii (y 1) py0_1 (y 2) (y 10) (y 19) (y 25) (y 26) (y 30) (y 31) (y 32) o10 o11 py0_12 py0_13 py0_14)), (y 2, .inr (1, o1_iiiiiirrrrrrriiiii py2_0 py2_1 py2_2 py2_3 py2_4 py2_5 (y 3) (y 4) (y 5) (y 6) (y 7) (y 8) (y 9) py2_13 py2_14 py2_15 py2_16 py2_17)), (y 30, aT V 4 (va_up (va_up (va_up (va_up (fun _ => none) 0 (some (y 33))) 1 (some (y 35))) 2 (some (y 37))) 3 (some (y 39)))), (y 33, .inr (7, o7_rii (y 34) py33_1 py33_2)), (y 34, aJ V 40 fy34), (y 35, .inr (7, o7_rii (y 36) py35_1 py35_2)), (y 36, aJ V 40 fy36), (y 37, .inr (7, o7_rii (y 38) py37_1 py37_2)), (y 38, aJ V 40 fy38), (y 39, .inr (7, o7_rii (y 40) py39_1 py39_2)), (y 40, aJ V 40 fy40)]) hP [8, 9, 0, 1, 2, 3, 4, 5, 6, 10, 7] rfl
                have hD := subD hP hD [8, 9, 0, 1, 2, 3, 4, 5, 6, 10, 7] rfl rfl
                exact fiI hx hb hr hlk hK hP hD hS dX9_refusalOfTold_111 (Nat.le_of_ble_eq_true rfl) (Nat.le_of_ble_eq_true rfl) (Or.inr (Or.inr (Or.inr (Or.inr (Or.inr (Or.inr (Or.inr (Or.inr (Or.inr (Or.inr (Or.inr (Or.inr (Or.inr (Or.inr (Or.inr (Or.inr (Or.inr (Or.inr (Or.inr (Or.inr (Or.inl ⟨c_7, c_8, c_27, c_28, rfl, c_136, c_143, c_146, rfl, (rfF_t3 (by have z_0 := Int32.le_iff_toInt_le.mp (Int32.not_lt.mp c_7); have z_1 := Int32.lt_iff_toInt_lt.mp (Int32.not_le.mp c_8); have z_2 := Int32.le_iff_toInt_le.mp (Int32.not_lt.mp c_27); have z_3 := Int32.lt_iff_toInt_lt.mp (Int32.not_le.mp c_28); have z_4 := Int32.le_iff_toInt_le.mp c_136; have z_5 := Int32.le_iff_toInt_le.mp (Int32.not_lt.mp c_143); have z_6 := Int32.le_iff_toInt_le.mp c_146; have z_7 := Int32.le_iff_toInt_le.mp c_150; have k_0 : (0 : Int32).toInt = 0 := (by decide); have k_1 : (1 : Int32).toInt = 1 := (by decide); have k_3 : (3 : Int32).toInt = 3 := (by decide); have k_4 : (4 : Int32).toInt = 4 := (by decide); have k_8 : (8 : Int32).toInt = 8 := (by decide); omega) (rf2_0 (u := u_148) (by have z_0 := Int32.le_iff_toInt_le.mp (Int32.not_lt.mp c_7); have z_1 := Int32.lt_iff_toInt_lt.mp (Int32.not_le.mp c_8); have z_2 := Int32.le_iff_toInt_le.mp (Int32.not_lt.mp c_27); have z_3 := Int32.lt_iff_toInt_lt.mp (Int32.not_le.mp c_28); have z_4 := Int32.le_iff_toInt_le.mp c_136; have z_5 := Int32.le_iff_toInt_le.mp (Int32.not_lt.mp c_143); have z_6 := Int32.le_iff_toInt_le.mp c_146; have z_7 := Int32.le_iff_toInt_le.mp c_150; have k_0 : (0 : Int32).toInt = 0 := (by decide); have k_1 : (1 : Int32).toInt = 1 := (by decide); have k_3 : (3 : Int32).toInt = 3 := (by decide); have k_4 : (4 : Int32).toInt = 4 := (by decide); have k_8 : (8 : Int32).toInt = 8 := (by decide); have kk_1 : (1 : Int32).toInt = 1 := (by decide); have kk_8 : (8 : Int32).toInt = 8 := (by decide); omega) (by have z_0 := Int32.le_iff_toInt_le.mp (Int32.not_lt.mp c_7); have z_1 := Int32.lt_iff_toInt_lt.mp (Int32.not_le.mp c_8); have z_2 := Int32.le_iff_toInt_le.mp (Int32.not_lt.mp c_27); have z_3 := Int32.lt_iff_toInt_lt.mp (Int32.not_le.mp c_28); have z_4 := Int32.le_iff_toInt_le.mp c_136; have z_5 := Int32.le_iff_toInt_le.mp (Int32.not_lt.mp c_143); have z_6 := Int32.le_iff_toInt_le.mp c_146; have z_7 := Int32.le_iff_toInt_le.mp c_150; have k_0 : (0 : Int32).toInt = 0 := (by decide); have k_1 : (1 : Int32).toInt = 1 := (by decide); have k_3 : (3 : Int32).toInt = 3 := (by decide); have k_4 : (4 : Int32).toInt = 4 := (by decide); have k_8 : (8 : Int32).toInt = 8 := (by decide); have kk_1 : (1 : Int32).toInt = 1 := (by decide); have kk_8 : (8 : Int32).toInt = 8 := (by decide); omega) inn_149_0 (by have z_0 := Int32.le_iff_toInt_le.mp (Int32.not_lt.mp c_7); have z_1 := Int32.lt_iff_toInt_lt.mp (Int32.not_le.mp c_8); have z_2 := Int32.le_iff_toInt_le.mp (Int32.not_lt.mp c_27); have z_3 := Int32.lt_iff_toInt_lt.mp (Int32.not_le.mp c_28); have z_4 := Int32.le_iff_toInt_le.mp c_136; have z_5 := Int32.le_iff_toInt_le.mp (Int32.not_lt.mp c_143); have z_6 := Int32.le_iff_toInt_le.mp c_146; have z_7 := Int32.le_iff_toInt_le.mp c_150; have k_0 : (0 : Int32).toInt = 0 := (by decide); have k_1 : (1 : Int32).toInt = 1 := (by decide); have k_3 : (3 : Int32).toInt = 3 := (by decide); have k_4 : (4 : Int32).toInt = 4 := (by decide); have k_8 : (8 : Int32).toInt = 8 := (by decide); have kk_1 : (1 : Int32).toInt = 1 := (by decide); have kk_8 : (8 : Int32).toInt = 8 := (by decide); omega))), rfl⟩)))))))))))))))))))))
              · have b_152 : iv 0 7 u_148 := iv_l1 (Int32.not_le.mp c_150) bu_148 b_147 (by decide)
                refine lv_aload hx hb dX9_refusalOfTold_72 (lv_at hl 1 rfl) ?_
                refine va_get (ci := 7) (v := .ref (y 40)) (C := RX7) (T := TX7) (N := 3) hx hb hg inX7 hown hK hP 10 rfl rfl 0 (by decide) (hg _ q_1_239) (fun _ h9 => h9) rfl dX9_refusalOfTold_74 ?_
                refine lv_iload hx hb dX9_refusalOfTold_77 (lv_at hl 0 rfl) ?_
                refine va_lald hx hb hK hP 7 2 rfl rfl (iv_in b_152 (by decide)) dX9_refusalOfTold_79 ?_
                refine lv_topl (fun j_153 ej_153 => ?_)
                refine lv_iload_n hx hb dX9_refusalOfTold_80 rfl (lv_at hl 5 rfl) ?_
                refine lv_i2l hx hb dX9_refusalOfTold_81 rfl ?_
                refine lv_topl (fun j_154 ej_154 => ?_)
                refine W.lcmp hx hb dX9_refusalOfTold_82 ?_
                refine lv_if_lt (tgt := 101) hx hb dX9_refusalOfTold_83 (by decide) (fun c_155 => ?_) (fun c_155 => ?_)
                · replace c_155 : j_153 < j_154 := (lg_cmp_lt _ _).mp c_155
                  have b_156 : ivL (-9223372036854775808) 9223372036854775806 j_153 := ivL_l1 c_155 (ivL_top j_153) (ivL_top j_154) (by decide)
                  have b_157 : ivL (-9223372036854775807) 9223372036854775807 j_154 := ivL_l2 c_155 (ivL_top j_153) (ivL_top j_154) (by decide)
                  refine lv_bipush (v := (-3)) hx hb dX9_refusalOfTold_101 (by decide) ?_
                  have hP := subP (ws' := [(y 0, .inr (9, o9_rirrrrrrrrvviii (y 1) py0_1 (y 2) (y 10) (y 19) (y 25) (y 26) (y 30) (y 31) (y 32) o10 o11 py0_12 py0_13 py0_14)), (y 2, .inr (1, o1_iiiiiirrrrrrriiiii py2_0 py2_1 py2_2 py2_3 py2_4 py2_5 (y 3) (y 4) (y 5) (y 6) (y 7) (y 8) (y 9) py2_13 py2_14 py2_15 py2_16 py2_17)), (y 30, aT V 4 (va_up (va_up (va_up (va_up (fun _ => none) 0 (some (y 33))) 1 (some (y 35))) 2 (some (y 37))) 3 (some (y 39)))), (y 33, .inr (7, o7_rii (y 34) py33_1 py33_2)), (y 34, aJ V 40 fy34), (y 35, .inr (7, o7_rii (y 36) py35_1 py35_2)), (y 36, aJ V 40 fy36), (y 37, .inr (7, o7_rii (y 38) py37_1 py37_2)), (y 38, aJ V 40 fy38), (y 39, .inr (7, o7_rii (y 40) py39_1 py39_2)), (y 40, aJ V 40 fy40)]) hP [8, 9, 0, 1, 2, 3, 4, 5, 6, 10, 7] rfl
                  have hD := subD hP hD [8, 9, 0, 1, 2, 3, 4, 5, 6, 10, 7] rfl rfl
                  exact fiI hx hb hr hlk hK hP hD hS dX9_refusalOfTold_103 (Nat.le_of_ble_eq_true rfl) (Nat.le_of_ble_eq_true rfl) (Or.inr (Or.inr (Or.inr (Or.inr (Or.inr (Or.inr (Or.inr (Or.inr (Or.inr (Or.inr (Or.inr (Or.inr (Or.inr (Or.inr (Or.inr (Or.inr (Or.inr (Or.inr (Or.inr (Or.inr (Or.inr (Or.inl ⟨c_7, c_8, c_27, c_28, rfl, c_136, c_143, c_146, rfl, (rfF_t3 (by have z_0 := Int32.le_iff_toInt_le.mp (Int32.not_lt.mp c_7); have z_1 := Int32.lt_iff_toInt_lt.mp (Int32.not_le.mp c_8); have z_2 := Int32.le_iff_toInt_le.mp (Int32.not_lt.mp c_27); have z_3 := Int32.lt_iff_toInt_lt.mp (Int32.not_le.mp c_28); have z_4 := Int32.le_iff_toInt_le.mp c_136; have z_5 := Int32.le_iff_toInt_le.mp (Int32.not_lt.mp c_143); have z_6 := Int32.le_iff_toInt_le.mp c_146; have z_7 := Int32.lt_iff_toInt_lt.mp (Int32.not_le.mp c_150); have k_0 : (0 : Int32).toInt = 0 := (by decide); have k_1 : (1 : Int32).toInt = 1 := (by decide); have k_3 : (3 : Int32).toInt = 3 := (by decide); have k_4 : (4 : Int32).toInt = 4 := (by decide); have k_8 : (8 : Int32).toInt = 8 := (by decide); omega) (rf2_3 (u := u_148) (by have z_0 := Int32.le_iff_toInt_le.mp (Int32.not_lt.mp c_7); have z_1 := Int32.lt_iff_toInt_lt.mp (Int32.not_le.mp c_8); have z_2 := Int32.le_iff_toInt_le.mp (Int32.not_lt.mp c_27); have z_3 := Int32.lt_iff_toInt_lt.mp (Int32.not_le.mp c_28); have z_4 := Int32.le_iff_toInt_le.mp c_136; have z_5 := Int32.le_iff_toInt_le.mp (Int32.not_lt.mp c_143); have z_6 := Int32.le_iff_toInt_le.mp c_146; have z_7 := Int32.lt_iff_toInt_lt.mp (Int32.not_le.mp c_150); have k_0 : (0 : Int32).toInt = 0 := (by decide); have k_1 : (1 : Int32).toInt = 1 := (by decide); have k_3 : (3 : Int32).toInt = 3 := (by decide); have k_4 : (4 : Int32).toInt = 4 := (by decide); have k_8 : (8 : Int32).toInt = 8 := (by decide); have kk_1 : (1 : Int32).toInt = 1 := (by decide); have kk_8 : (8 : Int32).toInt = 8 := (by decide); omega) (by have z_0 := Int32.le_iff_toInt_le.mp (Int32.not_lt.mp c_7); have z_1 := Int32.lt_iff_toInt_lt.mp (Int32.not_le.mp c_8); have z_2 := Int32.le_iff_toInt_le.mp (Int32.not_lt.mp c_27); have z_3 := Int32.lt_iff_toInt_lt.mp (Int32.not_le.mp c_28); have z_4 := Int32.le_iff_toInt_le.mp c_136; have z_5 := Int32.le_iff_toInt_le.mp (Int32.not_lt.mp c_143); have z_6 := Int32.le_iff_toInt_le.mp c_146; have z_7 := Int32.lt_iff_toInt_lt.mp (Int32.not_le.mp c_150); have k_0 : (0 : Int32).toInt = 0 := (by decide); have k_1 : (1 : Int32).toInt = 1 := (by decide); have k_3 : (3 : Int32).toInt = 3 := (by decide); have k_4 : (4 : Int32).toInt = 4 := (by decide); have k_8 : (8 : Int32).toInt = 8 := (by decide); have kk_1 : (1 : Int32).toInt = 1 := (by decide); have kk_8 : (8 : Int32).toInt = 8 := (by decide); omega) b_152 (by decide) (by have z_0 := Int32.le_iff_toInt_le.mp (Int32.not_lt.mp c_7); have z_1 := Int32.lt_iff_toInt_lt.mp (Int32.not_le.mp c_8); have z_2 := Int32.le_iff_toInt_le.mp (Int32.not_lt.mp c_27); have z_3 := Int32.lt_iff_toInt_lt.mp (Int32.not_le.mp c_28); have z_4 := Int32.le_iff_toInt_le.mp c_136; have z_5 := Int32.le_iff_toInt_le.mp (Int32.not_lt.mp c_143); have z_6 := Int32.le_iff_toInt_le.mp c_146; have z_7 := Int32.lt_iff_toInt_lt.mp (Int32.not_le.mp c_150); have k_0 : (0 : Int32).toInt = 0 := (by decide); have k_1 : (1 : Int32).toInt = 1 := (by decide); have k_3 : (3 : Int32).toInt = 3 := (by decide); have k_4 : (4 : Int32).toInt = 4 := (by decide); have k_8 : (8 : Int32).toInt = 8 := (by decide); have kk_1 : (1 : Int32).toInt = 1 := (by decide); have kk_8 : (8 : Int32).toInt = 8 := (by decide); omega) (Or.inl (by rw [← ej_153, ← ej_154]; exact c_155)))), rfl⟩))))))))))))))))))))))
                · replace c_155 : ¬ j_153 < j_154 := fun z => c_155 ((lg_cmp_lt _ _).mpr z)
                  refine lv_aload hx hb dX9_refusalOfTold_86 (lv_at hl 1 rfl) ?_
                  refine va_get (ci := 7) (v := .ref (y 40)) (C := RX7) (T := TX7) (N := 3) hx hb hg inX7 hown hK hP 10 rfl rfl 0 (by decide) (hg _ q_1_239) (fun _ h9 => h9) rfl dX9_refusalOfTold_88 ?_
                  refine lv_iload hx hb dX9_refusalOfTold_91 (lv_at hl 0 rfl) ?_
                  refine va_lald hx hb hK hP 7 2 rfl rfl (iv_in b_152 (by decide)) dX9_refusalOfTold_93 ?_
                  refine tpl (y := j_153) ej_153.symm ?_
                  refine lv_ldc2 (v := 4) hx hb hown (hg _ q_5_25) dX9_refusalOfTold_94 ?_
                  refine W.lcmp hx hb dX9_refusalOfTold_97 ?_
                  refine lv_if_le (tgt := 104) hx hb dX9_refusalOfTold_98 (by decide) (fun c_158 => ?_) (fun c_158 => ?_)
                  · replace c_158 : j_153 ≤ (4 : Int64) := (lg_cmp_le _ _).mp c_158
                    have b_159 : ivL (-9223372036854775808) 4 j_153 := ivL_e1 c_158 (ivL_top j_153) (ivL_c (4 : Int64) (a := 4) (b := 4) (by decide)) (by decide)
                    obtain ⟨x_160, ex_160⟩ : ∃ z9 : Int32, z9 = u_148 + 1 := ⟨_, rfl⟩
                    have bx_160 : iv 1 8 x_160 := by rw [ex_160]; exact iv_add b_152 (iv_c (1 : Int32) (a := 1) (b := 1) (by decide)) (by decide)
                    refine lv_iinc (v := x_160) (lv' := [(5, .int x_160), (4, .ref (y 39)), (0, .ref (y 0)), (1, .int 3), (2, .int a2), (3, .int a3)]) hx hb dX9_refusalOfTold_104 hl (k := 0) rfl (by rw [ex_160]; rfl) (by decide) rfl (fun ls hl => ?_)
                    refine lv_goto (tgt := 62) hx hb dX9_refusalOfTold_107 (by decide) ?_
                    exact ihn_149 _ _ _ _ (by rw [en_149, ex_160]; exact mu_up b_152 (by decide)) ⟨x_160, (iv_w bx_160 (by decide)), (rf_s inn_149_0 b_152 (by decide) ej_153 ej_154 c_155 c_158 ex_160), rfl, hP, hD, hS, lv_sub hl [0, 1, 2, 3, 4, 5] rfl⟩
                  · replace c_158 : ¬ j_153 ≤ (4 : Int64) := fun z => c_158 ((lg_cmp_le _ _).mpr z)
                    have b_161 : ivL 5 9223372036854775807 j_153 := ivL_l2 (Int64.not_le.mp c_158) (ivL_c (4 : Int64) (a := 4) (b := 4) (by decide)) (ivL_top j_153) (by decide)
                    refine lv_bipush (v := (-3)) hx hb dX9_refusalOfTold_101 (by decide) ?_
                    have hP := subP (ws' := [(y 0, .inr (9, o9_rirrrrrrrrvviii (y 1) py0_1 (y 2) (y 10) (y 19) (y 25) (y 26) (y 30) (y 31) (y 32) o10 o11 py0_12 py0_13 py0_14)), (y 2, .inr (1, o1_iiiiiirrrrrrriiiii py2_0 py2_1 py2_2 py2_3 py2_4 py2_5 (y 3) (y 4) (y 5) (y 6) (y 7) (y 8) (y 9) py2_13 py2_14 py2_15 py2_16 py2_17)), (y 30, aT V 4 (va_up (va_up (va_up (va_up (fun _ => none) 0 (some (y 33))) 1 (some (y 35))) 2 (some (y 37))) 3 (some (y 39)))), (y 33, .inr (7, o7_rii (y 34) py33_1 py33_2)), (y 34, aJ V 40 fy34), (y 35, .inr (7, o7_rii (y 36) py35_1 py35_2)), (y 36, aJ V 40 fy36), (y 37, .inr (7, o7_rii (y 38) py37_1 py37_2)), (y 38, aJ V 40 fy38), (y 39, .inr (7, o7_rii (y 40) py39_1 py39_2)), (y 40, aJ V 40 fy40)]) hP [8, 9, 0, 1, 2, 3, 4, 5, 6, 10, 7] rfl
                    have hD := subD hP hD [8, 9, 0, 1, 2, 3, 4, 5, 6, 10, 7] rfl rfl
                    exact fiI hx hb hr hlk hK hP hD hS dX9_refusalOfTold_103 (Nat.le_of_ble_eq_true rfl) (Nat.le_of_ble_eq_true rfl) (Or.inr (Or.inr (Or.inr (Or.inr (Or.inr (Or.inr (Or.inr (Or.inr (Or.inr (Or.inr (Or.inr (Or.inr (Or.inr (Or.inr (Or.inr (Or.inr (Or.inr (Or.inr (Or.inr (Or.inr (Or.inr (Or.inl ⟨c_7, c_8, c_27, c_28, rfl, c_136, c_143, c_146, rfl, (rfF_t3 (by have z_0 := Int32.le_iff_toInt_le.mp (Int32.not_lt.mp c_7); have z_1 := Int32.lt_iff_toInt_lt.mp (Int32.not_le.mp c_8); have z_2 := Int32.le_iff_toInt_le.mp (Int32.not_lt.mp c_27); have z_3 := Int32.lt_iff_toInt_lt.mp (Int32.not_le.mp c_28); have z_4 := Int32.le_iff_toInt_le.mp c_136; have z_5 := Int32.le_iff_toInt_le.mp (Int32.not_lt.mp c_143); have z_6 := Int32.le_iff_toInt_le.mp c_146; have z_7 := Int32.lt_iff_toInt_lt.mp (Int32.not_le.mp c_150); have k_0 : (0 : Int32).toInt = 0 := (by decide); have k_1 : (1 : Int32).toInt = 1 := (by decide); have k_3 : (3 : Int32).toInt = 3 := (by decide); have k_4 : (4 : Int32).toInt = 4 := (by decide); have k_8 : (8 : Int32).toInt = 8 := (by decide); omega) (rf2_3 (u := u_148) (by have z_0 := Int32.le_iff_toInt_le.mp (Int32.not_lt.mp c_7); have z_1 := Int32.lt_iff_toInt_lt.mp (Int32.not_le.mp c_8); have z_2 := Int32.le_iff_toInt_le.mp (Int32.not_lt.mp c_27); have z_3 := Int32.lt_iff_toInt_lt.mp (Int32.not_le.mp c_28); have z_4 := Int32.le_iff_toInt_le.mp c_136; have z_5 := Int32.le_iff_toInt_le.mp (Int32.not_lt.mp c_143); have z_6 := Int32.le_iff_toInt_le.mp c_146; have z_7 := Int32.lt_iff_toInt_lt.mp (Int32.not_le.mp c_150); have k_0 : (0 : Int32).toInt = 0 := (by decide); have k_1 : (1 : Int32).toInt = 1 := (by decide); have k_3 : (3 : Int32).toInt = 3 := (by decide); have k_4 : (4 : Int32).toInt = 4 := (by decide); have k_8 : (8 : Int32).toInt = 8 := (by decide); have kk_1 : (1 : Int32).toInt = 1 := (by decide); have kk_8 : (8 : Int32).toInt = 8 := (by decide); omega) (by have z_0 := Int32.le_iff_toInt_le.mp (Int32.not_lt.mp c_7); have z_1 := Int32.lt_iff_toInt_lt.mp (Int32.not_le.mp c_8); have z_2 := Int32.le_iff_toInt_le.mp (Int32.not_lt.mp c_27); have z_3 := Int32.lt_iff_toInt_lt.mp (Int32.not_le.mp c_28); have z_4 := Int32.le_iff_toInt_le.mp c_136; have z_5 := Int32.le_iff_toInt_le.mp (Int32.not_lt.mp c_143); have z_6 := Int32.le_iff_toInt_le.mp c_146; have z_7 := Int32.lt_iff_toInt_lt.mp (Int32.not_le.mp c_150); have k_0 : (0 : Int32).toInt = 0 := (by decide); have k_1 : (1 : Int32).toInt = 1 := (by decide); have k_3 : (3 : Int32).toInt = 3 := (by decide); have k_4 : (4 : Int32).toInt = 4 := (by decide); have k_8 : (8 : Int32).toInt = 8 := (by decide); have kk_1 : (1 : Int32).toInt = 1 := (by decide); have kk_8 : (8 : Int32).toInt = 8 := (by decide); omega) b_152 (by decide) (by have z_0 := Int32.le_iff_toInt_le.mp (Int32.not_lt.mp c_7); have z_1 := Int32.lt_iff_toInt_lt.mp (Int32.not_le.mp c_8); have z_2 := Int32.le_iff_toInt_le.mp (Int32.not_lt.mp c_27); have z_3 := Int32.lt_iff_toInt_lt.mp (Int32.not_le.mp c_28); have z_4 := Int32.le_iff_toInt_le.mp c_136; have z_5 := Int32.le_iff_toInt_le.mp (Int32.not_lt.mp c_143); have z_6 := Int32.le_iff_toInt_le.mp c_146; have z_7 := Int32.lt_iff_toInt_lt.mp (Int32.not_le.mp c_150); have k_0 : (0 : Int32).toInt = 0 := (by decide); have k_1 : (1 : Int32).toInt = 1 := (by decide); have k_3 : (3 : Int32).toInt = 3 := (by decide); have k_4 : (4 : Int32).toInt = 4 := (by decide); have k_8 : (8 : Int32).toInt = 8 := (by decide); have kk_1 : (1 : Int32).toInt = 1 := (by decide); have kk_8 : (8 : Int32).toInt = 8 := (by decide); omega) (Or.inr (by rw [← ej_153]; exact Int64.not_le.mp c_158)))), rfl⟩))))))))))))))))))))))
            · have b_162 : iv 9 40 py39_1 := iv_l2 (Int32.not_le.mp c_146) (iv_c (8 : Int32) (a := 8) (b := 8) (by decide)) b_145 (by decide)
              refine lv_bipush (v := (-4)) hx hb dX9_refusalOfTold_56 (by decide) ?_
              have hP := subP (ws' := [(y 0, .inr (9, o9_rirrrrrrrrvviii (y 1) py0_1 (y 2) (y 10) (y 19) (y 25) (y 26) (y 30) (y 31) (y 32) o10 o11 py0_12 py0_13 py0_14)), (y 2, .inr (1, o1_iiiiiirrrrrrriiiii py2_0 py2_1 py2_2 py2_3 py2_4 py2_5 (y 3) (y 4) (y 5) (y 6) (y 7) (y 8) (y 9) py2_13 py2_14 py2_15 py2_16 py2_17)), (y 30, aT V 4 (va_up (va_up (va_up (va_up (fun _ => none) 0 (some (y 33))) 1 (some (y 35))) 2 (some (y 37))) 3 (some (y 39)))), (y 33, .inr (7, o7_rii (y 34) py33_1 py33_2)), (y 34, aJ V 40 fy34), (y 35, .inr (7, o7_rii (y 36) py35_1 py35_2)), (y 36, aJ V 40 fy36), (y 37, .inr (7, o7_rii (y 38) py37_1 py37_2)), (y 38, aJ V 40 fy38), (y 39, .inr (7, o7_rii (y 40) py39_1 py39_2)), (y 40, aJ V 40 fy40)]) hP [8, 9, 0, 1, 2, 3, 4, 5, 6, 10, 7] rfl
              have hD := subD hP hD [8, 9, 0, 1, 2, 3, 4, 5, 6, 10, 7] rfl rfl
              exact fiI hx hb hr hlk hK hP hD hS dX9_refusalOfTold_58 (Nat.le_of_ble_eq_true rfl) (Nat.le_of_ble_eq_true rfl) (Or.inr (Or.inr (Or.inr (Or.inr (Or.inr (Or.inr (Or.inr (Or.inr (Or.inr (Or.inr (Or.inr (Or.inr (Or.inr (Or.inr (Or.inr (Or.inr (Or.inr (Or.inr (Or.inr (Or.inr (Or.inr (Or.inr (Or.inl ⟨c_7, c_8, c_27, c_28, rfl, c_136, c_143, c_146, rfl, (rfF_t3 (by have z_0 := Int32.le_iff_toInt_le.mp (Int32.not_lt.mp c_7); have z_1 := Int32.lt_iff_toInt_lt.mp (Int32.not_le.mp c_8); have z_2 := Int32.le_iff_toInt_le.mp (Int32.not_lt.mp c_27); have z_3 := Int32.lt_iff_toInt_lt.mp (Int32.not_le.mp c_28); have z_4 := Int32.le_iff_toInt_le.mp c_136; have z_5 := Int32.le_iff_toInt_le.mp (Int32.not_lt.mp c_143); have z_6 := Int32.lt_iff_toInt_lt.mp (Int32.not_le.mp c_146); have k_0 : (0 : Int32).toInt = 0 := (by decide); have k_1 : (1 : Int32).toInt = 1 := (by decide); have k_3 : (3 : Int32).toInt = 3 := (by decide); have k_4 : (4 : Int32).toInt = 4 := (by decide); have k_8 : (8 : Int32).toInt = 8 := (by decide); omega) (rf2_4 (by have z_0 := Int32.le_iff_toInt_le.mp (Int32.not_lt.mp c_7); have z_1 := Int32.lt_iff_toInt_lt.mp (Int32.not_le.mp c_8); have z_2 := Int32.le_iff_toInt_le.mp (Int32.not_lt.mp c_27); have z_3 := Int32.lt_iff_toInt_lt.mp (Int32.not_le.mp c_28); have z_4 := Int32.le_iff_toInt_le.mp c_136; have z_5 := Int32.le_iff_toInt_le.mp (Int32.not_lt.mp c_143); have z_6 := Int32.lt_iff_toInt_lt.mp (Int32.not_le.mp c_146); have k_0 : (0 : Int32).toInt = 0 := (by decide); have k_1 : (1 : Int32).toInt = 1 := (by decide); have k_3 : (3 : Int32).toInt = 3 := (by decide); have k_4 : (4 : Int32).toInt = 4 := (by decide); have k_8 : (8 : Int32).toInt = 8 := (by decide); have kk_1 : (1 : Int32).toInt = 1 := (by decide); have kk_8 : (8 : Int32).toInt = 8 := (by decide); omega) (by have z_0 := Int32.le_iff_toInt_le.mp (Int32.not_lt.mp c_7); have z_1 := Int32.lt_iff_toInt_lt.mp (Int32.not_le.mp c_8); have z_2 := Int32.le_iff_toInt_le.mp (Int32.not_lt.mp c_27); have z_3 := Int32.lt_iff_toInt_lt.mp (Int32.not_le.mp c_28); have z_4 := Int32.le_iff_toInt_le.mp c_136; have z_5 := Int32.le_iff_toInt_le.mp (Int32.not_lt.mp c_143); have z_6 := Int32.lt_iff_toInt_lt.mp (Int32.not_le.mp c_146); have k_0 : (0 : Int32).toInt = 0 := (by decide); have k_1 : (1 : Int32).toInt = 1 := (by decide); have k_3 : (3 : Int32).toInt = 3 := (by decide); have k_4 : (4 : Int32).toInt = 4 := (by decide); have k_8 : (8 : Int32).toInt = 8 := (by decide); have kk_1 : (1 : Int32).toInt = 1 := (by decide); have kk_8 : (8 : Int32).toInt = 8 := (by decide); omega))), rfl⟩)))))))))))))))))))))))
        · have hP : va_P V.1 vwCl [(y 30, aT V 4 (va_up (va_up (va_up (va_up (fun _ => none) 0 (some (y 33))) 1 (some (y 35))) 2 (some (y 37))) 3 (some (y 39)))), (y 33, .inr (7, o7_rii (y 34) py33_1 py33_2)), (y 34, aJ V 40 fy34), (y 35, .inr (7, o7_rii (y 36) py35_1 py35_2)), (y 36, aJ V 40 fy36), (y 37, .inr (7, o7_rii (y 38) py37_1 py37_2)), (y 38, aJ V 40 fy38), (y 40, aJ V 40 fy40), (y 0, .inr (9, o9_rirrrrrrrrvviii (y 1) py0_1 (y 2) (y 10) (y 19) (y 25) (y 26) (y 30) (y 31) (y 32) o10 o11 py0_12 py0_13 py0_14)), (y 2, .inr (1, o1_iiiiiirrrrrrriiiii py2_0 py2_1 py2_2 py2_3 py2_4 py2_5 (y 3) (y 4) (y 5) (y 6) (y 7) (y 8) (y 9) py2_13 py2_14 py2_15 py2_16 py2_17)), (y 39, .inr (7, o7_rii (y 40) py39_1 py39_2))] H := hP
          have hD := cpD hP hD
          have b_163 : iv (-1) (-1) py39_1 := iv_l1 (Int32.not_le.mp c_138) bpy39_1 (iv_c (0 : Int32) (a := 0) (b := 0) (by decide)) (by decide)
          refine lv_if_eq (tgt := 37) hx hb dX9_refusalOfTold_31 (by decide) (fun c_165 => absurd c_165 (by decide)) (fun _ => ?_)
          refine lv_bipush (v := (-6)) hx hb dX9_refusalOfTold_34 (by decide) ?_
          have hP := subP (ws' := [(y 0, .inr (9, o9_rirrrrrrrrvviii (y 1) py0_1 (y 2) (y 10) (y 19) (y 25) (y 26) (y 30) (y 31) (y 32) o10 o11 py0_12 py0_13 py0_14)), (y 2, .inr (1, o1_iiiiiirrrrrrriiiii py2_0 py2_1 py2_2 py2_3 py2_4 py2_5 (y 3) (y 4) (y 5) (y 6) (y 7) (y 8) (y 9) py2_13 py2_14 py2_15 py2_16 py2_17)), (y 30, aT V 4 (va_up (va_up (va_up (va_up (fun _ => none) 0 (some (y 33))) 1 (some (y 35))) 2 (some (y 37))) 3 (some (y 39)))), (y 33, .inr (7, o7_rii (y 34) py33_1 py33_2)), (y 34, aJ V 40 fy34), (y 35, .inr (7, o7_rii (y 36) py35_1 py35_2)), (y 36, aJ V 40 fy36), (y 37, .inr (7, o7_rii (y 38) py37_1 py37_2)), (y 38, aJ V 40 fy38), (y 39, .inr (7, o7_rii (y 40) py39_1 py39_2)), (y 40, aJ V 40 fy40)]) hP [8, 9, 0, 1, 2, 3, 4, 5, 6, 10, 7] rfl
          have hD := subD hP hD [8, 9, 0, 1, 2, 3, 4, 5, 6, 10, 7] rfl rfl
          exact fiI hx hb hr hlk hK hP hD hS dX9_refusalOfTold_36 (Nat.le_of_ble_eq_true rfl) (Nat.le_of_ble_eq_true rfl) (Or.inr (Or.inr (Or.inr (Or.inr (Or.inr (Or.inr (Or.inr (Or.inr (Or.inr (Or.inr (Or.inr (Or.inr (Or.inr (Or.inr (Or.inr (Or.inr (Or.inr (Or.inr (Or.inr (Or.inr (Or.inr (Or.inr (Or.inr (⟨c_7, c_8, c_27, c_28, rfl, c_138, rfl, (rfF_t3 (by have z_0 := Int32.le_iff_toInt_le.mp (Int32.not_lt.mp c_7); have z_1 := Int32.lt_iff_toInt_lt.mp (Int32.not_le.mp c_8); have z_2 := Int32.le_iff_toInt_le.mp (Int32.not_lt.mp c_27); have z_3 := Int32.lt_iff_toInt_lt.mp (Int32.not_le.mp c_28); have z_4 := Int32.lt_iff_toInt_lt.mp (Int32.not_le.mp c_138); have k_0 : (0 : Int32).toInt = 0 := (by decide); have k_3 : (3 : Int32).toInt = 3 := (by decide); have k_4 : (4 : Int32).toInt = 4 := (by decide); omega) (rf2_6 (by have z_0 := Int32.le_iff_toInt_le.mp (Int32.not_lt.mp c_7); have z_1 := Int32.lt_iff_toInt_lt.mp (Int32.not_le.mp c_8); have z_2 := Int32.le_iff_toInt_le.mp (Int32.not_lt.mp c_27); have z_3 := Int32.lt_iff_toInt_lt.mp (Int32.not_le.mp c_28); have z_4 := Int32.lt_iff_toInt_lt.mp (Int32.not_le.mp c_138); have k_0 : (0 : Int32).toInt = 0 := (by decide); have k_3 : (3 : Int32).toInt = 3 := (by decide); have k_4 : (4 : Int32).toInt = 4 := (by decide); have kk_1 : (1 : Int32).toInt = 1 := (by decide); have kk_8 : (8 : Int32).toInt = 8 := (by decide); omega))), rfl⟩))))))))))))))))))))))))
