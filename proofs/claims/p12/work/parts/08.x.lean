theorem dX9_fittingWeathers_0 : decode cX9_fittingWeathers 0 = .ok (.iconst 0, 1) := by decide +kernel
theorem dX9_fittingWeathers_1 : decode cX9_fittingWeathers 1 = .ok (.istore_n 3, 1) := by decide +kernel
theorem dX9_fittingWeathers_2 : decode cX9_fittingWeathers 2 = .ok (.iconst 0, 1) := by decide +kernel
theorem dX9_fittingWeathers_3 : decode cX9_fittingWeathers 3 = .ok (.istore 4, 2) := by decide +kernel
theorem dX9_fittingWeathers_5 : decode cX9_fittingWeathers 5 = .ok (.iload 4, 2) := by decide +kernel
theorem dX9_fittingWeathers_7 : decode cX9_fittingWeathers 7 = .ok (.bipush 10, 2) := by decide +kernel
theorem dX9_fittingWeathers_9 : decode cX9_fittingWeathers 9 = .ok (.if_icmp .ge 93, 3) := by decide +kernel
theorem dX9_fittingWeathers_102 : decode cX9_fittingWeathers 102 = .ok (.iload_n 3, 1) := by decide +kernel
theorem dX9_fittingWeathers_103 : decode cX9_fittingWeathers 103 = .ok (.ireturn, 1) := by decide +kernel
theorem dX9_fittingWeathers_12 : decode cX9_fittingWeathers 12 = .ok (.aload_n 0, 1) := by decide +kernel
theorem dX9_fittingWeathers_13 : decode cX9_fittingWeathers 13 = .ok (.getfield 113, 3) := by decide +kernel
theorem dX9_fittingWeathers_16 : decode cX9_fittingWeathers 16 = .ok (.istore 5, 2) := by decide +kernel
theorem dX9_fittingWeathers_18 : decode cX9_fittingWeathers 18 = .ok (.iconst 0, 1) := by decide +kernel
theorem dX9_fittingWeathers_19 : decode cX9_fittingWeathers 19 = .ok (.istore 6, 2) := by decide +kernel
theorem dX9_fittingWeathers_21 : decode cX9_fittingWeathers 21 = .ok (.iload 6, 2) := by decide +kernel
theorem dX9_fittingWeathers_23 : decode cX9_fittingWeathers 23 = .ok (.aload_n 1, 1) := by decide +kernel
theorem dX9_fittingWeathers_24 : decode cX9_fittingWeathers 24 = .ok (.getfield 200, 3) := by decide +kernel
theorem dX9_fittingWeathers_27 : decode cX9_fittingWeathers 27 = .ok (.if_icmp .ge 44, 3) := by decide +kernel
theorem dX9_fittingWeathers_71 : decode cX9_fittingWeathers 71 = .ok (.aload_n 0, 1) := by decide +kernel
theorem q_2_45 : Cond.fieldLink "BeaconDelay" 64 "BeaconDelay" "standingBy" "[I" ∈ gw := gw_2 (i := 45) (by decide +kernel) rfl
theorem dX9_fittingWeathers_72 : decode cX9_fittingWeathers 72 = .ok (.getfield 64, 3) := by decide +kernel
theorem dX9_fittingWeathers_75 : decode cX9_fittingWeathers 75 = .ok (.iload 4, 2) := by decide +kernel
theorem dX9_fittingWeathers_77 : decode cX9_fittingWeathers 77 = .ok (.iload 5, 2) := by decide +kernel
theorem dX9_fittingWeathers_79 : decode cX9_fittingWeathers 79 = .ok (.iastore, 1) := by decide +kernel
theorem dX9_fittingWeathers_80 : decode cX9_fittingWeathers 80 = .ok (.iload 6, 2) := by decide +kernel
theorem dX9_fittingWeathers_82 : decode cX9_fittingWeathers 82 = .ok (.aload_n 1, 1) := by decide +kernel
theorem dX9_fittingWeathers_83 : decode cX9_fittingWeathers 83 = .ok (.getfield 200, 3) := by decide +kernel
theorem dX9_fittingWeathers_86 : decode cX9_fittingWeathers 86 = .ok (.if_icmp .ne 10, 3) := by decide +kernel
theorem dX9_fittingWeathers_96 : decode cX9_fittingWeathers 96 = .ok (.iinc 4 1, 3) := by decide +kernel
theorem dX9_fittingWeathers_99 : decode cX9_fittingWeathers 99 = .ok (.goto (-94), 3) := by decide +kernel
theorem dX9_fittingWeathers_89 : decode cX9_fittingWeathers 89 = .ok (.iload_n 3, 1) := by decide +kernel
theorem dX9_fittingWeathers_90 : decode cX9_fittingWeathers 90 = .ok (.iconst 1, 1) := by decide +kernel
theorem dX9_fittingWeathers_91 : decode cX9_fittingWeathers 91 = .ok (.iload 4, 2) := by decide +kernel
theorem dX9_fittingWeathers_93 : decode cX9_fittingWeathers 93 = .ok (.ishl, 1) := by decide +kernel
theorem dX9_fittingWeathers_94 : decode cX9_fittingWeathers 94 = .ok (.ior, 1) := by decide +kernel
theorem dX9_fittingWeathers_95 : decode cX9_fittingWeathers 95 = .ok (.istore_n 3, 1) := by decide +kernel
theorem dX9_fittingWeathers_30 : decode cX9_fittingWeathers 30 = .ok (.aload_n 0, 1) := by decide +kernel
theorem dX9_fittingWeathers_31 : decode cX9_fittingWeathers 31 = .ok (.getfield 34, 3) := by decide +kernel
theorem dX9_fittingWeathers_34 : decode cX9_fittingWeathers 34 = .ok (.iload 5, 2) := by decide +kernel
theorem dX9_fittingWeathers_36 : decode cX9_fittingWeathers 36 = .ok (.iload 4, 2) := by decide +kernel
theorem dX9_fittingWeathers_38 : decode cX9_fittingWeathers 38 = .ok (.iconst 0, 1) := by decide +kernel
theorem dX9_fittingWeathers_39 : decode cX9_fittingWeathers 39 = .ok (.invokevirtual 155, 3) := by decide +kernel
theorem dX9_fittingWeathers_42 : decode cX9_fittingWeathers 42 = .ok (.istore 5, 2) := by decide +kernel
theorem dX9_fittingWeathers_44 : decode cX9_fittingWeathers 44 = .ok (.iload 5, 2) := by decide +kernel
theorem dX9_fittingWeathers_46 : decode cX9_fittingWeathers 46 = .ok (.iload_n 2, 1) := by decide +kernel
theorem dX9_fittingWeathers_47 : decode cX9_fittingWeathers 47 = .ok (.invokestatic 132, 3) := by decide +kernel
theorem dX9_fittingWeathers_50 : decode cX9_fittingWeathers 50 = .ok (.i2l, 1) := by decide +kernel
theorem dX9_fittingWeathers_51 : decode cX9_fittingWeathers 51 = .ok (.aload_n 1, 1) := by decide +kernel
theorem dX9_fittingWeathers_52 : decode cX9_fittingWeathers 52 = .ok (.getfield 201, 3) := by decide +kernel
theorem dX9_fittingWeathers_55 : decode cX9_fittingWeathers 55 = .ok (.iload 6, 2) := by decide +kernel
theorem dX9_fittingWeathers_57 : decode cX9_fittingWeathers 57 = .ok (.laload, 1) := by decide +kernel
theorem dX9_fittingWeathers_58 : decode cX9_fittingWeathers 58 = .ok (.lcmp, 1) := by decide +kernel
theorem dX9_fittingWeathers_59 : decode cX9_fittingWeathers 59 = .ok (.ifCond .eq 6, 3) := by decide +kernel
theorem dX9_fittingWeathers_65 : decode cX9_fittingWeathers 65 = .ok (.iinc 6 1, 3) := by decide +kernel
theorem dX9_fittingWeathers_68 : decode cX9_fittingWeathers 68 = .ok (.goto (-47), 3) := by decide +kernel
theorem dX9_fittingWeathers_62 : decode cX9_fittingWeathers 62 = .ok (.goto 9, 3) := by decide +kernel
set_option maxHeartbeats 4000000 in
set_option maxRecDepth 100000 in
theorem k_X9_fittingWeathers_0 (l : Launch) (V : GV) (y : Nat → Nat) (D9 : Nat → Int32) (a2 : Int32) (fy3 : Nat → Int32) (fy9 : Nat → Int32) (fy20 : Nat → Int32) (fy21 : Nat → Int32) (fy22 : Nat → Int32) (fy32 : Nat → Int32) (py0_1 : Int32) (o10 : Value) (o11 : Value) (py0_12 : Int32) (py0_13 : Int32) (py0_14 : Int32) (py2_0 : Int32) (py2_1 : Int32) (py2_2 : Int32) (py2_3 : Int32) (py2_4 : Int32) (py2_5 : Int32) (py2_13 : Int32) (py2_14 : Int32) (py2_15 : Int32) (py2_16 : Int32) (py2_17 : Int32) (py33_1 : Int32) (py33_2 : Int32) (fy34 : Nat → Int64) (ba2 : iv 0 3 a2) (tfy20 : ∀ j, iv 0 10 (fy20 j)) (tfy32 : ∀ j, iv 0 9999 (fy32 j)) (bpy0_1 : iv 0 900 py0_1) (bpy0_12 : iv 0 9999 py0_12) (bpy0_13 : iv 0 9 py0_13) (bpy2_1 : iv 0 4 py2_1) (bpy2_2 : iv 0 4 py2_2) (bpy2_3 : iv 0 8 py2_3) (bpy2_4 : iv 0 9999 py2_4) (bpy2_5 : iv 0 9 py2_5) (bpy2_13 : iv 0 900 py2_13) (bpy2_14 : iv 0 900 py2_14) (bpy2_15 : iv 0 900 py2_15) (bpy2_16 : iv 0 900 py2_16) (bpy2_17 : iv 0 900 py2_17) (bpy33_1 : iv (-1) 40 py33_1) (hL9 : LW D9 fy3 fy9 py2_14 py2_15 py2_16 py2_17) (hK9 : KN D9 fy20) : Ct l V yX9_fittingWeathers (.code yX9_fittingWeathers cX9_fittingWeathers 7 (some .int)) 6 [.ref (y 0), .ref (y 33), .int a2] [(y 3, aI V 4 fy3), (y 9, aI V 900 fy9), (y 19, .inr (4, o4_rrrrrr (y 2) (y 20) (y 21) (y 22) (y 23) (y 24))), (y 20, aI V 2000 fy20), (y 21, aI V 6 fy21), (y 22, aI V 64 fy22), (y 32, aI V 10 fy32), (y 0, .inr (9, o9_rirrrrrrrrvviii (y 1) py0_1 (y 2) (y 10) (y 19) (y 25) (y 26) (y 30) (y 31) (y 32) o10 o11 py0_12 py0_13 py0_14)), (y 2, .inr (1, o1_iiiiiirrrrrrriiiii py2_0 py2_1 py2_2 py2_3 py2_4 py2_5 (y 3) (y 4) (y 5) (y 6) (y 7) (y 8) (y 9) py2_13 py2_14 py2_15 py2_16 py2_17)), (y 33, .inr (7, o7_rii (y 34) py33_1 py33_2)), (y 34, aJ V 40 fy34)] 0 0 (QI V (fun (r : Int32) (w : va_W) => ∃ (g0 : Nat → Int32) (g1 : Nat → Int32) (g2 : Nat → Int32) (g3 : Nat → Int32), (∀ j, iv 0 10 (g0 j)) ∧ (∀ j, iv 0 9999 (g3 j)) ∧ KN D9 g0 ∧ w = [(y 3, aI V 4 fy3), (y 9, aI V 900 fy9), (y 19, .inr (4, o4_rrrrrr (y 2) (y 20) (y 21) (y 22) (y 23) (y 24))), (y 20, aI V 2000 g0), (y 21, aI V 6 g1), (y 22, aI V 64 g2), (y 32, aI V 10 g3), (y 0, .inr (9, o9_rirrrrrrrrvviii (y 1) py0_1 (y 2) (y 10) (y 19) (y 25) (y 26) (y 30) (y 31) (y 32) o10 o11 py0_12 py0_13 py0_14)), (y 2, .inr (1, o1_iiiiiirrrrrrriiiii py2_0 py2_1 py2_2 py2_3 py2_4 py2_5 (y 3) (y 4) (y 5) (y 6) (y 7) (y 8) (y 9) py2_13 py2_14 py2_15 py2_16 py2_17)), (y 33, .inr (7, o7_rii (y 34) py33_1 py33_2)), (y 34, aJ V 40 fy34)])) := by
  refine Ct.of (by decide) (Nat.le_of_ble_eq_true rfl) (fun p e s m below meth c A ls hx hb hr hml hown hlk hnm hg hP hK hD hE hA hS hl => ?_)
  have hl : lv_has ls 7 [(0, .ref (y 0)), (1, .ref (y 33)), (2, .int a2)] := hl
  refine lv_iconst (v := 0) hx hb dX9_fittingWeathers_0 (by decide) ?_
  refine lv_istore_n (lv' := [(3, .int 0), (0, .ref (y 0)), (1, .ref (y 33)), (2, .int a2)]) hx hb dX9_fittingWeathers_1 rfl hl (by decide) rfl (fun ls hl => ?_)
  refine lv_iconst (v := 0) hx hb dX9_fittingWeathers_2 (by decide) ?_
  refine lv_istore (lv' := [(4, .int 0), (3, .int 0), (0, .ref (y 0)), (1, .ref (y 33)), (2, .int a2)]) hx hb dX9_fittingWeathers_3 hl (by decide) rfl (fun ls hl => ?_)
  refine loopF (X := fun (n_7 : Nat) (H : Heap) (locs : List Loc) (ls : Array Slot) => ∃ (u_1 : Int32) (u_2 : Int32) (f_3 : Nat → Int32) (f_4 : Nat → Int32) (f_5 : Nat → Int32) (f_6 : Nat → Int32), (iv 0 10 u_1) ∧ (∀ j, iv 0 10 (f_3 j)) ∧ (∀ j, iv 0 9999 (f_6 j)) ∧ KN D9 f_3 ∧ n_7 = (2147483647 - (u_1 : Int32).toInt).toNat ∧ va_P V.1 vwCl [(y 3, aI V 4 fy3), (y 9, aI V 900 fy9), (y 19, .inr (4, o4_rrrrrr (y 2) (y 20) (y 21) (y 22) (y 23) (y 24))), (y 20, aI V 2000 f_3), (y 21, aI V 6 f_4), (y 22, aI V 64 f_5), (y 32, aI V 10 f_6), (y 0, .inr (9, o9_rirrrrrrrrvviii (y 1) py0_1 (y 2) (y 10) (y 19) (y 25) (y 26) (y 30) (y 31) (y 32) o10 o11 py0_12 py0_13 py0_14)), (y 2, .inr (1, o1_iiiiiirrrrrrriiiii py2_0 py2_1 py2_2 py2_3 py2_4 py2_5 (y 3) (y 4) (y 5) (y 6) (y 7) (y 8) (y 9) py2_13 py2_14 py2_15 py2_16 py2_17)), (y 33, .inr (7, o7_rii (y 34) py33_1 py33_2)), (y 34, aJ V 40 fy34)] H ∧ va_D A [(y 3, aI V 4 fy3), (y 9, aI V 900 fy9), (y 19, .inr (4, o4_rrrrrr (y 2) (y 20) (y 21) (y 22) (y 23) (y 24))), (y 20, aI V 2000 f_3), (y 21, aI V 6 f_4), (y 22, aI V 64 f_5), (y 32, aI V 10 f_6), (y 0, .inr (9, o9_rirrrrrrrrvviii (y 1) py0_1 (y 2) (y 10) (y 19) (y 25) (y 26) (y 30) (y 31) (y 32) o10 o11 py0_12 py0_13 py0_14)), (y 2, .inr (1, o1_iiiiiirrrrrrriiiii py2_0 py2_1 py2_2 py2_3 py2_4 py2_5 (y 3) (y 4) (y 5) (y 6) (y 7) (y 8) (y 9) py2_13 py2_14 py2_15 py2_16 py2_17)), (y 33, .inr (7, o7_rii (y 34) py33_1 py33_2)), (y 34, aJ V 40 fy34)] ∧ va_S A s.heap H locs ∧ lv_has ls 7 [(4, .int u_1), (3, .int u_2), (0, .ref (y 0)), (1, .ref (y 33)), (2, .int a2)]) (g := fun ls => F0 m 5 ls []) (fun n_7 H locs ls hX ihn_7 => ?_) _ ⟨0, 0, fy20, fy21, fy22, fy32, (iv_c (0 : Int32) (by decide)), tfy20, tfy32, hK9, rfl, hP, hD, hS, lv_sub hl [0, 1, 2, 3, 4] rfl⟩
  obtain ⟨u_1, u_2, f_3, f_4, f_5, f_6, bu_1, tf_3, tf_6, knn_7, en_7, hP, hD, hS, hl⟩ := hX
  refine lv_iload hx hb dX9_fittingWeathers_5 (lv_at hl 0 rfl) ?_
  refine lv_bipush (v := 10) hx hb dX9_fittingWeathers_7 (by decide) ?_
  refine lv_icmp_ge (tgt := 102) hx hb dX9_fittingWeathers_9 (by decide) (fun c_8 => ?_) (fun c_8 => ?_)
  · have b_9 : iv 10 10 u_1 := iv_e2 c_8 (iv_c (10 : Int32) (a := 10) (b := 10) (by decide)) bu_1 (by decide)
    refine lv_iload_n hx hb dX9_fittingWeathers_102 rfl (lv_at hl 1 rfl) ?_
    exact fiI hx hb hr hlk hK hP hD hS dX9_fittingWeathers_103 (Nat.le_of_ble_eq_true rfl) (Nat.le_of_ble_eq_true rfl) (⟨f_3, f_4, f_5, f_6, tf_3, tf_6, knn_7, rfl⟩)
  · have b_10 : iv 0 9 u_1 := iv_l1 (Int32.not_le.mp c_8) bu_1 (iv_c (10 : Int32) (a := 10) (b := 10) (by decide)) (by decide)
    refine lv_aload_n hx hb dX9_fittingWeathers_12 rfl (lv_at hl 2 rfl) ?_
    refine va_get (ci := 9) (v := .int py0_12) (C := RX9) (T := TX9) (N := 15) hx hb hg inX9 hown hK hP 7 rfl rfl 12 (by decide) (hg _ q_2_48) (fun _ h9 => h9) rfl dX9_fittingWeathers_13 ?_
    refine lv_istore (lv' := [(5, .int py0_12), (4, .int u_1), (3, .int u_2), (0, .ref (y 0)), (1, .ref (y 33)), (2, .int a2)]) hx hb dX9_fittingWeathers_16 hl (by decide) rfl (fun ls hl => ?_)
    refine lv_iconst (v := 0) hx hb dX9_fittingWeathers_18 (by decide) ?_
    refine lv_istore (lv' := [(6, .int 0), (5, .int py0_12), (4, .int u_1), (3, .int u_2), (0, .ref (y 0)), (1, .ref (y 33)), (2, .int a2)]) hx hb dX9_fittingWeathers_19 hl (by decide) rfl (fun ls hl => ?_)
    refine loopF (X := fun (n_16 : Nat) (H : Heap) (locs : List Loc) (ls : Array Slot) => ∃ (u_11 : Int32) (u_12 : Int32) (f_13 : Nat → Int32) (f_14 : Nat → Int32) (f_15 : Nat → Int32), (iv 0 2147483647 u_11) ∧ (iv 0 9999 u_12) ∧ (∀ j, iv 0 10 (f_13 j)) ∧ KN D9 f_13 ∧ n_16 = (2147483647 - (u_11 : Int32).toInt).toNat ∧ va_P V.1 vwCl [(y 3, aI V 4 fy3), (y 9, aI V 900 fy9), (y 19, .inr (4, o4_rrrrrr (y 2) (y 20) (y 21) (y 22) (y 23) (y 24))), (y 20, aI V 2000 f_13), (y 21, aI V 6 f_14), (y 22, aI V 64 f_15), (y 32, aI V 10 f_6), (y 0, .inr (9, o9_rirrrrrrrrvviii (y 1) py0_1 (y 2) (y 10) (y 19) (y 25) (y 26) (y 30) (y 31) (y 32) o10 o11 py0_12 py0_13 py0_14)), (y 2, .inr (1, o1_iiiiiirrrrrrriiiii py2_0 py2_1 py2_2 py2_3 py2_4 py2_5 (y 3) (y 4) (y 5) (y 6) (y 7) (y 8) (y 9) py2_13 py2_14 py2_15 py2_16 py2_17)), (y 33, .inr (7, o7_rii (y 34) py33_1 py33_2)), (y 34, aJ V 40 fy34)] H ∧ va_D A [(y 3, aI V 4 fy3), (y 9, aI V 900 fy9), (y 19, .inr (4, o4_rrrrrr (y 2) (y 20) (y 21) (y 22) (y 23) (y 24))), (y 20, aI V 2000 f_13), (y 21, aI V 6 f_14), (y 22, aI V 64 f_15), (y 32, aI V 10 f_6), (y 0, .inr (9, o9_rirrrrrrrrvviii (y 1) py0_1 (y 2) (y 10) (y 19) (y 25) (y 26) (y 30) (y 31) (y 32) o10 o11 py0_12 py0_13 py0_14)), (y 2, .inr (1, o1_iiiiiirrrrrrriiiii py2_0 py2_1 py2_2 py2_3 py2_4 py2_5 (y 3) (y 4) (y 5) (y 6) (y 7) (y 8) (y 9) py2_13 py2_14 py2_15 py2_16 py2_17)), (y 33, .inr (7, o7_rii (y 34) py33_1 py33_2)), (y 34, aJ V 40 fy34)] ∧ va_S A s.heap H locs ∧ lv_has ls 7 [(6, .int u_11), (5, .int u_12), (4, .int u_1), (3, .int u_2), (0, .ref (y 0)), (1, .ref (y 33)), (2, .int a2)]) (g := fun ls => F0 m 21 ls []) (fun n_16 H locs ls hX ihn_16 => ?_) _ ⟨0, py0_12, f_3, f_4, f_5, (iv_c (0 : Int32) (by decide)), bpy0_12, tf_3, knn_7, rfl, hP, hD, hS, lv_sub hl [0, 1, 2, 3, 4, 5, 6] rfl⟩
    obtain ⟨u_11, u_12, f_13, f_14, f_15, bu_11, bu_12, tf_13, knn_16, en_16, hP, hD, hS, hl⟩ := hX
    refine lv_iload hx hb dX9_fittingWeathers_21 (lv_at hl 0 rfl) ?_
    refine lv_aload_n hx hb dX9_fittingWeathers_23 rfl (lv_at hl 5 rfl) ?_
    refine va_get (ci := 7) (v := .int py33_1) (C := RX7) (T := TX7) (N := 3) hx hb hg inX7 hown hK hP 9 rfl rfl 1 (by decide) (hg _ q_2_2) (fun _ h9 => h9) rfl dX9_fittingWeathers_24 ?_
    refine lv_icmp_ge (tgt := 71) hx hb dX9_fittingWeathers_27 (by decide) (fun c_17 => ?_) (fun c_17 => ?_)
    · refine lv_aload_n hx hb dX9_fittingWeathers_71 rfl (lv_at hl 4 rfl) ?_
      refine va_get (ci := 9) (v := .ref (y 32)) (C := RX9) (T := TX9) (N := 15) hx hb hg inX9 hown hK hP 7 rfl rfl 9 (by decide) (hg _ q_2_45) (fun _ h9 => h9) rfl dX9_fittingWeathers_72 ?_
      refine lv_iload hx hb dX9_fittingWeathers_75 (lv_at hl 2 rfl) ?_
      refine lv_iload hx hb dX9_fittingWeathers_77 (lv_at hl 1 rfl) ?_
      refine va_iast hx hb hK hP hD hS 6 0 rfl rfl (iv_in b_10 (by decide)) dX9_fittingWeathers_79 (fun H locs hP hD hS => ?_)
      obtain ⟨f_18, tf_18, hP, hD⟩ : ∃ f_18 : Nat → Int32, (∀ j, iv 0 9999 (f_18 j)) ∧ va_P V.1 vwCl [(y 3, aI V 4 fy3), (y 9, aI V 900 fy9), (y 19, .inr (4, o4_rrrrrr (y 2) (y 20) (y 21) (y 22) (y 23) (y 24))), (y 20, aI V 2000 f_13), (y 21, aI V 6 f_14), (y 22, aI V 64 f_15), (y 32, aI V 10 f_18), (y 0, .inr (9, o9_rirrrrrrrrvviii (y 1) py0_1 (y 2) (y 10) (y 19) (y 25) (y 26) (y 30) (y 31) (y 32) o10 o11 py0_12 py0_13 py0_14)), (y 2, .inr (1, o1_iiiiiirrrrrrriiiii py2_0 py2_1 py2_2 py2_3 py2_4 py2_5 (y 3) (y 4) (y 5) (y 6) (y 7) (y 8) (y 9) py2_13 py2_14 py2_15 py2_16 py2_17)), (y 33, .inr (7, o7_rii (y 34) py33_1 py33_2)), (y 34, aJ V 40 fy34)] H ∧ va_D A [(y 3, aI V 4 fy3), (y 9, aI V 900 fy9), (y 19, .inr (4, o4_rrrrrr (y 2) (y 20) (y 21) (y 22) (y 23) (y 24))), (y 20, aI V 2000 f_13), (y 21, aI V 6 f_14), (y 22, aI V 64 f_15), (y 32, aI V 10 f_18), (y 0, .inr (9, o9_rirrrrrrrrvviii (y 1) py0_1 (y 2) (y 10) (y 19) (y 25) (y 26) (y 30) (y 31) (y 32) o10 o11 py0_12 py0_13 py0_14)), (y 2, .inr (1, o1_iiiiiirrrrrrriiiii py2_0 py2_1 py2_2 py2_3 py2_4 py2_5 (y 3) (y 4) (y 5) (y 6) (y 7) (y 8) (y 9) py2_13 py2_14 py2_15 py2_16 py2_17)), (y 33, .inr (7, o7_rii (y 34) py33_1 py33_2)), (y 34, aJ V 40 fy34)] := ⟨_, ivU tf_6 _ bu_12, hP, hD⟩
      refine lv_iload hx hb dX9_fittingWeathers_80 (lv_at hl 0 rfl) ?_
      refine lv_aload_n hx hb dX9_fittingWeathers_82 rfl (lv_at hl 5 rfl) ?_
      refine va_get (ci := 7) (v := .int py33_1) (C := RX7) (T := TX7) (N := 3) hx hb hg inX7 hown hK hP 9 rfl rfl 1 (by decide) (hg _ q_2_2) (fun _ h9 => h9) rfl dX9_fittingWeathers_83 ?_
      refine lv_icmp_ne (tgt := 96) hx hb dX9_fittingWeathers_86 (by decide) (fun c_19 => ?_) (fun c_19 => ?_)
      · obtain ⟨x_20, ex_20⟩ : ∃ z9 : Int32, z9 = u_1 + 1 := ⟨_, rfl⟩
        have bx_20 : iv 1 10 x_20 := by rw [ex_20]; exact iv_add b_10 (iv_c (1 : Int32) (a := 1) (b := 1) (by decide)) (by decide)
        refine lv_iinc (v := x_20) (lv' := [(4, .int x_20), (6, .int u_11), (5, .int u_12), (3, .int u_2), (0, .ref (y 0)), (1, .ref (y 33)), (2, .int a2)]) hx hb dX9_fittingWeathers_96 hl (k := 2) rfl (by rw [ex_20]; rfl) (by decide) rfl (fun ls hl => ?_)
        refine lv_goto (tgt := 5) hx hb dX9_fittingWeathers_99 (by decide) ?_
        exact ihn_7 _ _ _ _ (by rw [en_7, ex_20]; exact mu_up b_10 (by decide)) ⟨x_20, u_2, f_13, f_14, f_15, f_18, (iv_w bx_20 (by decide)), tf_13, tf_18, knn_16, rfl, hP, hD, hS, lv_sub hl [0, 3, 4, 5, 6] rfl⟩
      · have b_21 : iv (-1) 40 u_11 := iv_q c_19 bpy33_1
        refine lv_iload_n hx hb dX9_fittingWeathers_89 rfl (lv_at hl 3 rfl) ?_
        refine lv_iconst (v := 1) hx hb dX9_fittingWeathers_90 (by decide) ?_
        refine lv_iload hx hb dX9_fittingWeathers_91 (lv_at hl 2 rfl) ?_
        refine lv_ishl hx hb dX9_fittingWeathers_93 ?_
        refine lv_topi (fun x_22 ex_22 => ?_)
        refine lv_ior hx hb dX9_fittingWeathers_94 ?_
        refine lv_topi (fun x_23 ex_23 => ?_)
        refine lv_istore_n (lv' := [(3, .int x_23), (6, .int u_11), (5, .int u_12), (4, .int u_1), (0, .ref (y 0)), (1, .ref (y 33)), (2, .int a2)]) hx hb dX9_fittingWeathers_95 rfl hl (by decide) rfl (fun ls hl => ?_)
        obtain ⟨x_24, ex_24⟩ : ∃ z9 : Int32, z9 = u_1 + 1 := ⟨_, rfl⟩
        have bx_24 : iv 1 10 x_24 := by rw [ex_24]; exact iv_add b_10 (iv_c (1 : Int32) (a := 1) (b := 1) (by decide)) (by decide)
        refine lv_iinc (v := x_24) (lv' := [(4, .int x_24), (3, .int x_23), (6, .int u_11), (5, .int u_12), (0, .ref (y 0)), (1, .ref (y 33)), (2, .int a2)]) hx hb dX9_fittingWeathers_96 hl (k := 3) rfl (by rw [ex_24]; rfl) (by decide) rfl (fun ls hl => ?_)
        refine lv_goto (tgt := 5) hx hb dX9_fittingWeathers_99 (by decide) ?_
        exact ihn_7 _ _ _ _ (by rw [en_7, ex_24]; exact mu_up b_10 (by decide)) ⟨x_24, x_23, f_13, f_14, f_15, f_18, (iv_w bx_24 (by decide)), tf_13, tf_18, knn_16, rfl, hP, hD, hS, lv_sub hl [0, 1, 4, 5, 6] rfl⟩
    · have b_25 : iv 0 39 u_11 := iv_l1 (Int32.not_le.mp c_17) bu_11 bpy33_1 (by decide)
      have b_26 : iv 1 40 py33_1 := iv_l2 (Int32.not_le.mp c_17) bu_11 bpy33_1 (by decide)
      refine lv_aload_n hx hb dX9_fittingWeathers_30 rfl (lv_at hl 4 rfl) ?_
      refine va_get (ci := 9) (v := .ref (y 19)) (C := RX9) (T := TX9) (N := 15) hx hb hg inX9 hown hK hP 7 rfl rfl 4 (by decide) (hg _ q_2_40) (fun _ h9 => h9) rfl dX9_fittingWeathers_31 ?_
      refine lv_iload hx hb dX9_fittingWeathers_34 (lv_at hl 1 rfl) ?_
      refine lv_iload hx hb dX9_fittingWeathers_36 (lv_at hl 2 rfl) ?_
      refine lv_iconst (v := 0) hx hb dX9_fittingWeathers_38 (by decide) ?_
      refine jnI (wr := [(y 32, aI V 10 f_6), (y 0, .inr (9, o9_rirrrrrrrrvviii (y 1) py0_1 (y 2) (y 10) (y 19) (y 25) (y 26) (y 30) (y 31) (y 32) o10 o11 py0_12 py0_13 py0_14)), (y 33, .inr (7, o7_rii (y 34) py33_1 py33_2)), (y 34, aJ V 40 fy34)]) (rnV (rest := []) ⟨hx, hb, hml, hown, hg⟩ (k_X4_behind_0 l V y u_12 u_1 0 fy3 fy9 f_13 f_14 f_15 py2_0 py2_1 py2_2 py2_3 py2_4 py2_5 py2_13 py2_14 py2_15 py2_16 py2_17 bu_12 b_10 tf_13 bpy2_1 bpy2_2 bpy2_3 bpy2_4 bpy2_5 bpy2_13 bpy2_14 bpy2_15 bpy2_16 bpy2_17) mt_X4_behind q_3_145 ⟨Nat.le_of_ble_eq_true rfl, Nat.le_of_ble_eq_true rfl⟩ hK hP hD hS hA hE [0, 1, 2, 3, 4, 5, 8] rfl rfl 2 rfl rfl rfl rfl hl.1 rfl (Nat.le_of_ble_eq_true rfl) dX9_fittingWeathers_39 ⟨Nat.le_of_ble_eq_true rfl, Nat.le_of_ble_eq_true rfl⟩) hP hD hS hA [0, 1, 2, 3, 4, 5, 8] [6, 7, 9, 10] rfl rfl rfl (by decide) (fun r_27 w H locs hw hP hD hS => ?_)
      obtain ⟨f_28, f_29, f_30, tf_28, br_27, g_31, rfl⟩ := hw
      have qkn_32 := g_31 D9 hL9 knn_16
      have er_27 : r_27 = bhS D9 u_12 u_1 (0 : Int32) (py2_1 : Int32).toNatClampNeg := qkn_32.1
      have kn_32 := qkn_32.2
      have hP : va_P V.1 vwCl [(y 32, aI V 10 f_6), (y 0, .inr (9, o9_rirrrrrrrrvviii (y 1) py0_1 (y 2) (y 10) (y 19) (y 25) (y 26) (y 30) (y 31) (y 32) o10 o11 py0_12 py0_13 py0_14)), (y 33, .inr (7, o7_rii (y 34) py33_1 py33_2)), (y 34, aJ V 40 fy34), (y 3, aI V 4 fy3), (y 9, aI V 900 fy9), (y 19, .inr (4, o4_rrrrrr (y 2) (y 20) (y 21) (y 22) (y 23) (y 24))), (y 20, aI V 2000 f_28), (y 21, aI V 6 f_29), (y 22, aI V 64 f_30), (y 2, .inr (1, o1_iiiiiirrrrrrriiiii py2_0 py2_1 py2_2 py2_3 py2_4 py2_5 (y 3) (y 4) (y 5) (y 6) (y 7) (y 8) (y 9) py2_13 py2_14 py2_15 py2_16 py2_17))] H := hP
      have hD := cpD hP hD
      refine lv_istore (lv' := [(5, .int r_27), (6, .int u_11), (4, .int u_1), (3, .int u_2), (0, .ref (y 0)), (1, .ref (y 33)), (2, .int a2)]) hx hb dX9_fittingWeathers_42 hl (by decide) rfl (fun ls hl => ?_)
      refine lv_iload hx hb dX9_fittingWeathers_44 (lv_at hl 0 rfl) ?_
      refine lv_iload_n hx hb dX9_fittingWeathers_46 rfl (lv_at hl 6 rfl) ?_
      refine jnI (wr := [(y 32, aI V 10 f_6), (y 0, .inr (9, o9_rirrrrrrrrvviii (y 1) py0_1 (y 2) (y 10) (y 19) (y 25) (y 26) (y 30) (y 31) (y 32) o10 o11 py0_12 py0_13 py0_14)), (y 33, .inr (7, o7_rii (y 34) py33_1 py33_2)), (y 34, aJ V 40 fy34), (y 3, aI V 4 fy3), (y 9, aI V 900 fy9), (y 19, .inr (4, o4_rrrrrr (y 2) (y 20) (y 21) (y 22) (y 23) (y 24))), (y 20, aI V 2000 f_28), (y 21, aI V 6 f_29), (y 22, aI V 64 f_30), (y 2, .inr (1, o1_iiiiiirrrrrrriiiii py2_0 py2_1 py2_2 py2_3 py2_4 py2_5 (y 3) (y 4) (y 5) (y 6) (y 7) (y 8) (y 9) py2_13 py2_14 py2_15 py2_16 py2_17))]) (rnS (rest := []) ⟨hx, hb, hml, hown, hg⟩ (k_X9_stackIn_0 l V r_27 a2 br_27 (iv_w ba2 (by decide))) mt_X9_stackIn q_3_126 ⟨Nat.le_of_ble_eq_true rfl, Nat.le_of_ble_eq_true rfl⟩ hK hP hD hS hA hE [] rfl rfl rfl hl.1 rfl (Nat.le_of_ble_eq_true rfl) dX9_fittingWeathers_47 ⟨Nat.le_of_ble_eq_true rfl, Nat.le_of_ble_eq_true rfl⟩) hP hD hS hA [] [0, 1, 2, 3, 4, 5, 6, 7, 8, 9, 10] rfl rfl rfl (by decide) (fun r_33 w H locs hw hP hD hS => ?_)
      obtain ⟨br_33, er_33, et_34, rfl⟩ := hw
      have hP : va_P V.1 vwCl [(y 32, aI V 10 f_6), (y 0, .inr (9, o9_rirrrrrrrrvviii (y 1) py0_1 (y 2) (y 10) (y 19) (y 25) (y 26) (y 30) (y 31) (y 32) o10 o11 py0_12 py0_13 py0_14)), (y 33, .inr (7, o7_rii (y 34) py33_1 py33_2)), (y 34, aJ V 40 fy34), (y 3, aI V 4 fy3), (y 9, aI V 900 fy9), (y 19, .inr (4, o4_rrrrrr (y 2) (y 20) (y 21) (y 22) (y 23) (y 24))), (y 20, aI V 2000 f_28), (y 21, aI V 6 f_29), (y 22, aI V 64 f_30), (y 2, .inr (1, o1_iiiiiirrrrrrriiiii py2_0 py2_1 py2_2 py2_3 py2_4 py2_5 (y 3) (y 4) (y 5) (y 6) (y 7) (y 8) (y 9) py2_13 py2_14 py2_15 py2_16 py2_17))] H := hP
      have hD := cpD hP hD
      refine lv_i2l hx hb dX9_fittingWeathers_50 rfl ?_
      refine lv_topl (fun j_35 ej_35 => ?_)
      refine lv_aload_n hx hb dX9_fittingWeathers_51 rfl (lv_at hl 5 rfl) ?_
      refine va_get (ci := 7) (v := .ref (y 34)) (C := RX7) (T := TX7) (N := 3) hx hb hg inX7 hown hK hP 2 rfl rfl 0 (by decide) (hg _ q_1_239) (fun _ h9 => h9) rfl dX9_fittingWeathers_52 ?_
      refine lv_iload hx hb dX9_fittingWeathers_55 (lv_at hl 1 rfl) ?_
      refine va_lald hx hb hK hP 3 2 rfl rfl (iv_in b_25 (by decide)) dX9_fittingWeathers_57 ?_
      refine lv_topl (fun j_36 ej_36 => ?_)
      refine W.lcmp hx hb dX9_fittingWeathers_58 ?_
      refine lv_if_eq (tgt := 65) hx hb dX9_fittingWeathers_59 (by decide) (fun _ => ?_) (fun _ => ?_)
      · obtain ⟨x_38, ex_38⟩ : ∃ z9 : Int32, z9 = u_11 + 1 := ⟨_, rfl⟩
        have bx_38 : iv 1 40 x_38 := by rw [ex_38]; exact iv_add b_25 (iv_c (1 : Int32) (a := 1) (b := 1) (by decide)) (by decide)
        refine lv_iinc (v := x_38) (lv' := [(6, .int x_38), (5, .int r_27), (4, .int u_1), (3, .int u_2), (0, .ref (y 0)), (1, .ref (y 33)), (2, .int a2)]) hx hb dX9_fittingWeathers_65 hl (k := 1) rfl (by rw [ex_38]; rfl) (by decide) rfl (fun ls hl => ?_)
        refine lv_goto (tgt := 21) hx hb dX9_fittingWeathers_68 (by decide) ?_
        have hP := subP (ws' := [(y 3, aI V 4 fy3), (y 9, aI V 900 fy9), (y 19, .inr (4, o4_rrrrrr (y 2) (y 20) (y 21) (y 22) (y 23) (y 24))), (y 20, aI V 2000 f_28), (y 21, aI V 6 f_29), (y 22, aI V 64 f_30), (y 32, aI V 10 f_6), (y 0, .inr (9, o9_rirrrrrrrrvviii (y 1) py0_1 (y 2) (y 10) (y 19) (y 25) (y 26) (y 30) (y 31) (y 32) o10 o11 py0_12 py0_13 py0_14)), (y 2, .inr (1, o1_iiiiiirrrrrrriiiii py2_0 py2_1 py2_2 py2_3 py2_4 py2_5 (y 3) (y 4) (y 5) (y 6) (y 7) (y 8) (y 9) py2_13 py2_14 py2_15 py2_16 py2_17)), (y 33, .inr (7, o7_rii (y 34) py33_1 py33_2)), (y 34, aJ V 40 fy34)]) hP [4, 5, 6, 7, 8, 9, 0, 1, 10, 2, 3] rfl
        have hD := subD hP hD [4, 5, 6, 7, 8, 9, 0, 1, 10, 2, 3] rfl rfl
        exact ihn_16 _ _ _ _ (by rw [en_16, ex_38]; exact mu_up b_25 (by decide)) ⟨x_38, r_27, f_28, f_29, f_30, (iv_w bx_38 (by decide)), br_27, tf_28, kn_32, rfl, hP, hD, hS, lv_sub hl [0, 1, 2, 3, 4, 5, 6] rfl⟩
      · refine lv_goto (tgt := 71) hx hb dX9_fittingWeathers_62 (by decide) ?_
        refine lv_aload_n hx hb dX9_fittingWeathers_71 rfl (lv_at hl 4 rfl) ?_
        refine va_get (ci := 9) (v := .ref (y 32)) (C := RX9) (T := TX9) (N := 15) hx hb hg inX9 hown hK hP 1 rfl rfl 9 (by decide) (hg _ q_2_45) (fun _ h9 => h9) rfl dX9_fittingWeathers_72 ?_
        refine lv_iload hx hb dX9_fittingWeathers_75 (lv_at hl 2 rfl) ?_
        refine lv_iload hx hb dX9_fittingWeathers_77 (lv_at hl 0 rfl) ?_
        refine va_iast hx hb hK hP hD hS 0 0 rfl rfl (iv_in b_10 (by decide)) dX9_fittingWeathers_79 (fun H locs hP hD hS => ?_)
        obtain ⟨f_39, tf_39, hP, hD⟩ : ∃ f_39 : Nat → Int32, (∀ j, iv 0 9999 (f_39 j)) ∧ va_P V.1 vwCl [(y 32, aI V 10 f_39), (y 0, .inr (9, o9_rirrrrrrrrvviii (y 1) py0_1 (y 2) (y 10) (y 19) (y 25) (y 26) (y 30) (y 31) (y 32) o10 o11 py0_12 py0_13 py0_14)), (y 33, .inr (7, o7_rii (y 34) py33_1 py33_2)), (y 34, aJ V 40 fy34), (y 3, aI V 4 fy3), (y 9, aI V 900 fy9), (y 19, .inr (4, o4_rrrrrr (y 2) (y 20) (y 21) (y 22) (y 23) (y 24))), (y 20, aI V 2000 f_28), (y 21, aI V 6 f_29), (y 22, aI V 64 f_30), (y 2, .inr (1, o1_iiiiiirrrrrrriiiii py2_0 py2_1 py2_2 py2_3 py2_4 py2_5 (y 3) (y 4) (y 5) (y 6) (y 7) (y 8) (y 9) py2_13 py2_14 py2_15 py2_16 py2_17))] H ∧ va_D A [(y 32, aI V 10 f_39), (y 0, .inr (9, o9_rirrrrrrrrvviii (y 1) py0_1 (y 2) (y 10) (y 19) (y 25) (y 26) (y 30) (y 31) (y 32) o10 o11 py0_12 py0_13 py0_14)), (y 33, .inr (7, o7_rii (y 34) py33_1 py33_2)), (y 34, aJ V 40 fy34), (y 3, aI V 4 fy3), (y 9, aI V 900 fy9), (y 19, .inr (4, o4_rrrrrr (y 2) (y 20) (y 21) (y 22) (y 23) (y 24))), (y 20, aI V 2000 f_28), (y 21, aI V 6 f_29), (y 22, aI V 64 f_30), (y 2, .inr (1, o1_iiiiiirrrrrrriiiii py2_0 py2_1 py2_2 py2_3 py2_4 py2_5 (y 3) (y 4) (y 5) (y 6) (y 7) (y 8) (y 9) py2_13 py2_14 py2_15 py2_16 py2_17))] := ⟨_, ivU tf_6 _ br_27, hP, hD⟩
        refine lv_iload hx hb dX9_fittingWeathers_80 (lv_at hl 1 rfl) ?_
        refine lv_aload_n hx hb dX9_fittingWeathers_82 rfl (lv_at hl 5 rfl) ?_
        refine va_get (ci := 7) (v := .int py33_1) (C := RX7) (T := TX7) (N := 3) hx hb hg inX7 hown hK hP 2 rfl rfl 1 (by decide) (hg _ q_2_2) (fun _ h9 => h9) rfl dX9_fittingWeathers_83 ?_
        refine lv_icmp_ne (tgt := 96) hx hb dX9_fittingWeathers_86 (by decide) (fun c_40 => ?_) (fun c_40 => ?_)
        · obtain ⟨x_41, ex_41⟩ : ∃ z9 : Int32, z9 = u_1 + 1 := ⟨_, rfl⟩
          have bx_41 : iv 1 10 x_41 := by rw [ex_41]; exact iv_add b_10 (iv_c (1 : Int32) (a := 1) (b := 1) (by decide)) (by decide)
          refine lv_iinc (v := x_41) (lv' := [(4, .int x_41), (5, .int r_27), (6, .int u_11), (3, .int u_2), (0, .ref (y 0)), (1, .ref (y 33)), (2, .int a2)]) hx hb dX9_fittingWeathers_96 hl (k := 2) rfl (by rw [ex_41]; rfl) (by decide) rfl (fun ls hl => ?_)
          refine lv_goto (tgt := 5) hx hb dX9_fittingWeathers_99 (by decide) ?_
          have hP := subP (ws' := [(y 3, aI V 4 fy3), (y 9, aI V 900 fy9), (y 19, .inr (4, o4_rrrrrr (y 2) (y 20) (y 21) (y 22) (y 23) (y 24))), (y 20, aI V 2000 f_28), (y 21, aI V 6 f_29), (y 22, aI V 64 f_30), (y 32, aI V 10 f_39), (y 0, .inr (9, o9_rirrrrrrrrvviii (y 1) py0_1 (y 2) (y 10) (y 19) (y 25) (y 26) (y 30) (y 31) (y 32) o10 o11 py0_12 py0_13 py0_14)), (y 2, .inr (1, o1_iiiiiirrrrrrriiiii py2_0 py2_1 py2_2 py2_3 py2_4 py2_5 (y 3) (y 4) (y 5) (y 6) (y 7) (y 8) (y 9) py2_13 py2_14 py2_15 py2_16 py2_17)), (y 33, .inr (7, o7_rii (y 34) py33_1 py33_2)), (y 34, aJ V 40 fy34)]) hP [4, 5, 6, 7, 8, 9, 0, 1, 10, 2, 3] rfl
          have hD := subD hP hD [4, 5, 6, 7, 8, 9, 0, 1, 10, 2, 3] rfl rfl
          exact ihn_7 _ _ _ _ (by rw [en_7, ex_41]; exact mu_up b_10 (by decide)) ⟨x_41, u_2, f_28, f_29, f_30, f_39, (iv_w bx_41 (by decide)), tf_28, tf_39, kn_32, rfl, hP, hD, hS, lv_sub hl [0, 3, 4, 5, 6] rfl⟩
        · have b_42 : iv 1 40 u_11 := iv_q c_40 b_26
          refine lv_iload_n hx hb dX9_fittingWeathers_89 rfl (lv_at hl 3 rfl) ?_
          refine lv_iconst (v := 1) hx hb dX9_fittingWeathers_90 (by decide) ?_
          refine lv_iload hx hb dX9_fittingWeathers_91 (lv_at hl 2 rfl) ?_
          refine lv_ishl hx hb dX9_fittingWeathers_93 ?_
          refine lv_topi (fun x_43 ex_43 => ?_)
          refine lv_ior hx hb dX9_fittingWeathers_94 ?_
          refine lv_topi (fun x_44 ex_44 => ?_)
          refine lv_istore_n (lv' := [(3, .int x_44), (5, .int r_27), (6, .int u_11), (4, .int u_1), (0, .ref (y 0)), (1, .ref (y 33)), (2, .int a2)]) hx hb dX9_fittingWeathers_95 rfl hl (by decide) rfl (fun ls hl => ?_)
          obtain ⟨x_45, ex_45⟩ : ∃ z9 : Int32, z9 = u_1 + 1 := ⟨_, rfl⟩
          have bx_45 : iv 1 10 x_45 := by rw [ex_45]; exact iv_add b_10 (iv_c (1 : Int32) (a := 1) (b := 1) (by decide)) (by decide)
          refine lv_iinc (v := x_45) (lv' := [(4, .int x_45), (3, .int x_44), (5, .int r_27), (6, .int u_11), (0, .ref (y 0)), (1, .ref (y 33)), (2, .int a2)]) hx hb dX9_fittingWeathers_96 hl (k := 3) rfl (by rw [ex_45]; rfl) (by decide) rfl (fun ls hl => ?_)
          refine lv_goto (tgt := 5) hx hb dX9_fittingWeathers_99 (by decide) ?_
          have hP := subP (ws' := [(y 3, aI V 4 fy3), (y 9, aI V 900 fy9), (y 19, .inr (4, o4_rrrrrr (y 2) (y 20) (y 21) (y 22) (y 23) (y 24))), (y 20, aI V 2000 f_28), (y 21, aI V 6 f_29), (y 22, aI V 64 f_30), (y 32, aI V 10 f_39), (y 0, .inr (9, o9_rirrrrrrrrvviii (y 1) py0_1 (y 2) (y 10) (y 19) (y 25) (y 26) (y 30) (y 31) (y 32) o10 o11 py0_12 py0_13 py0_14)), (y 2, .inr (1, o1_iiiiiirrrrrrriiiii py2_0 py2_1 py2_2 py2_3 py2_4 py2_5 (y 3) (y 4) (y 5) (y 6) (y 7) (y 8) (y 9) py2_13 py2_14 py2_15 py2_16 py2_17)), (y 33, .inr (7, o7_rii (y 34) py33_1 py33_2)), (y 34, aJ V 40 fy34)]) hP [4, 5, 6, 7, 8, 9, 0, 1, 10, 2, 3] rfl
          have hD := subD hP hD [4, 5, 6, 7, 8, 9, 0, 1, 10, 2, 3] rfl rfl
          exact ihn_7 _ _ _ _ (by rw [en_7, ex_45]; exact mu_up b_10 (by decide)) ⟨x_45, x_44, f_28, f_29, f_30, f_39, (iv_w bx_45 (by decide)), tf_28, tf_39, kn_32, rfl, hP, hD, hS, lv_sub hl [0, 1, 4, 5, 6] rfl⟩
set_option maxHeartbeats 4000000 in
set_option maxRecDepth 100000 in
theorem k_X9_fittingWeathers_1 (l : Launch) (V : GV) (y : Nat → Nat) (D9 : Nat → Int32) (a2 : Int32) (fy3 : Nat → Int32) (fy9 : Nat → Int32) (fy20 : Nat → Int32) (fy21 : Nat → Int32) (fy22 : Nat → Int32) (fy32 : Nat → Int32) (py0_1 : Int32) (o10 : Value) (o11 : Value) (py0_12 : Int32) (py0_13 : Int32) (py0_14 : Int32) (py2_0 : Int32) (py2_1 : Int32) (py2_2 : Int32) (py2_3 : Int32) (py2_4 : Int32) (py2_5 : Int32) (py2_13 : Int32) (py2_14 : Int32) (py2_15 : Int32) (py2_16 : Int32) (py2_17 : Int32) (py35_1 : Int32) (py35_2 : Int32) (fy36 : Nat → Int64) (ba2 : iv 0 3 a2) (tfy20 : ∀ j, iv 0 10 (fy20 j)) (tfy32 : ∀ j, iv 0 9999 (fy32 j)) (bpy0_1 : iv 0 900 py0_1) (bpy0_12 : iv 0 9999 py0_12) (bpy0_13 : iv 0 9 py0_13) (bpy2_1 : iv 0 4 py2_1) (bpy2_2 : iv 0 4 py2_2) (bpy2_3 : iv 0 8 py2_3) (bpy2_4 : iv 0 9999 py2_4) (bpy2_5 : iv 0 9 py2_5) (bpy2_13 : iv 0 900 py2_13) (bpy2_14 : iv 0 900 py2_14) (bpy2_15 : iv 0 900 py2_15) (bpy2_16 : iv 0 900 py2_16) (bpy2_17 : iv 0 900 py2_17) (bpy35_1 : iv (-1) 40 py35_1) (hL9 : LW D9 fy3 fy9 py2_14 py2_15 py2_16 py2_17) (hK9 : KN D9 fy20) : Ct l V yX9_fittingWeathers (.code yX9_fittingWeathers cX9_fittingWeathers 7 (some .int)) 6 [.ref (y 0), .ref (y 35), .int a2] [(y 3, aI V 4 fy3), (y 9, aI V 900 fy9), (y 19, .inr (4, o4_rrrrrr (y 2) (y 20) (y 21) (y 22) (y 23) (y 24))), (y 20, aI V 2000 fy20), (y 21, aI V 6 fy21), (y 22, aI V 64 fy22), (y 32, aI V 10 fy32), (y 0, .inr (9, o9_rirrrrrrrrvviii (y 1) py0_1 (y 2) (y 10) (y 19) (y 25) (y 26) (y 30) (y 31) (y 32) o10 o11 py0_12 py0_13 py0_14)), (y 2, .inr (1, o1_iiiiiirrrrrrriiiii py2_0 py2_1 py2_2 py2_3 py2_4 py2_5 (y 3) (y 4) (y 5) (y 6) (y 7) (y 8) (y 9) py2_13 py2_14 py2_15 py2_16 py2_17)), (y 35, .inr (7, o7_rii (y 36) py35_1 py35_2)), (y 36, aJ V 40 fy36)] 0 0 (QI V (fun (r : Int32) (w : va_W) => ∃ (g0 : Nat → Int32) (g1 : Nat → Int32) (g2 : Nat → Int32) (g3 : Nat → Int32), (∀ j, iv 0 10 (g0 j)) ∧ (∀ j, iv 0 9999 (g3 j)) ∧ KN D9 g0 ∧ w = [(y 3, aI V 4 fy3), (y 9, aI V 900 fy9), (y 19, .inr (4, o4_rrrrrr (y 2) (y 20) (y 21) (y 22) (y 23) (y 24))), (y 20, aI V 2000 g0), (y 21, aI V 6 g1), (y 22, aI V 64 g2), (y 32, aI V 10 g3), (y 0, .inr (9, o9_rirrrrrrrrvviii (y 1) py0_1 (y 2) (y 10) (y 19) (y 25) (y 26) (y 30) (y 31) (y 32) o10 o11 py0_12 py0_13 py0_14)), (y 2, .inr (1, o1_iiiiiirrrrrrriiiii py2_0 py2_1 py2_2 py2_3 py2_4 py2_5 (y 3) (y 4) (y 5) (y 6) (y 7) (y 8) (y 9) py2_13 py2_14 py2_15 py2_16 py2_17)), (y 35, .inr (7, o7_rii (y 36) py35_1 py35_2)), (y 36, aJ V 40 fy36)])) := by
  refine Ct.of (by decide) (Nat.le_of_ble_eq_true rfl) (fun p e s m below meth c A ls hx hb hr hml hown hlk hnm hg hP hK hD hE hA hS hl => ?_)
  have hl : lv_has ls 7 [(0, .ref (y 0)), (1, .ref (y 35)), (2, .int a2)] := hl
  refine lv_iconst (v := 0) hx hb dX9_fittingWeathers_0 (by decide) ?_
  refine lv_istore_n (lv' := [(3, .int 0), (0, .ref (y 0)), (1, .ref (y 35)), (2, .int a2)]) hx hb dX9_fittingWeathers_1 rfl hl (by decide) rfl (fun ls hl => ?_)
  refine lv_iconst (v := 0) hx hb dX9_fittingWeathers_2 (by decide) ?_
  refine lv_istore (lv' := [(4, .int 0), (3, .int 0), (0, .ref (y 0)), (1, .ref (y 35)), (2, .int a2)]) hx hb dX9_fittingWeathers_3 hl (by decide) rfl (fun ls hl => ?_)
  refine loopF (X := fun (n_7 : Nat) (H : Heap) (locs : List Loc) (ls : Array Slot) => ∃ (u_1 : Int32) (u_2 : Int32) (f_3 : Nat → Int32) (f_4 : Nat → Int32) (f_5 : Nat → Int32) (f_6 : Nat → Int32), (iv 0 10 u_1) ∧ (∀ j, iv 0 10 (f_3 j)) ∧ (∀ j, iv 0 9999 (f_6 j)) ∧ KN D9 f_3 ∧ n_7 = (2147483647 - (u_1 : Int32).toInt).toNat ∧ va_P V.1 vwCl [(y 3, aI V 4 fy3), (y 9, aI V 900 fy9), (y 19, .inr (4, o4_rrrrrr (y 2) (y 20) (y 21) (y 22) (y 23) (y 24))), (y 20, aI V 2000 f_3), (y 21, aI V 6 f_4), (y 22, aI V 64 f_5), (y 32, aI V 10 f_6), (y 0, .inr (9, o9_rirrrrrrrrvviii (y 1) py0_1 (y 2) (y 10) (y 19) (y 25) (y 26) (y 30) (y 31) (y 32) o10 o11 py0_12 py0_13 py0_14)), (y 2, .inr (1, o1_iiiiiirrrrrrriiiii py2_0 py2_1 py2_2 py2_3 py2_4 py2_5 (y 3) (y 4) (y 5) (y 6) (y 7) (y 8) (y 9) py2_13 py2_14 py2_15 py2_16 py2_17)), (y 35, .inr (7, o7_rii (y 36) py35_1 py35_2)), (y 36, aJ V 40 fy36)] H ∧ va_D A [(y 3, aI V 4 fy3), (y 9, aI V 900 fy9), (y 19, .inr (4, o4_rrrrrr (y 2) (y 20) (y 21) (y 22) (y 23) (y 24))), (y 20, aI V 2000 f_3), (y 21, aI V 6 f_4), (y 22, aI V 64 f_5), (y 32, aI V 10 f_6), (y 0, .inr (9, o9_rirrrrrrrrvviii (y 1) py0_1 (y 2) (y 10) (y 19) (y 25) (y 26) (y 30) (y 31) (y 32) o10 o11 py0_12 py0_13 py0_14)), (y 2, .inr (1, o1_iiiiiirrrrrrriiiii py2_0 py2_1 py2_2 py2_3 py2_4 py2_5 (y 3) (y 4) (y 5) (y 6) (y 7) (y 8) (y 9) py2_13 py2_14 py2_15 py2_16 py2_17)), (y 35, .inr (7, o7_rii (y 36) py35_1 py35_2)), (y 36, aJ V 40 fy36)] ∧ va_S A s.heap H locs ∧ lv_has ls 7 [(4, .int u_1), (3, .int u_2), (0, .ref (y 0)), (1, .ref (y 35)), (2, .int a2)]) (g := fun ls => F0 m 5 ls []) (fun n_7 H locs ls hX ihn_7 => ?_) _ ⟨0, 0, fy20, fy21, fy22, fy32, (iv_c (0 : Int32) (by decide)), tfy20, tfy32, hK9, rfl, hP, hD, hS, lv_sub hl [0, 1, 2, 3, 4] rfl⟩
  obtain ⟨u_1, u_2, f_3, f_4, f_5, f_6, bu_1, tf_3, tf_6, knn_7, en_7, hP, hD, hS, hl⟩ := hX
  refine lv_iload hx hb dX9_fittingWeathers_5 (lv_at hl 0 rfl) ?_
  refine lv_bipush (v := 10) hx hb dX9_fittingWeathers_7 (by decide) ?_
  refine lv_icmp_ge (tgt := 102) hx hb dX9_fittingWeathers_9 (by decide) (fun c_8 => ?_) (fun c_8 => ?_)
  · have b_9 : iv 10 10 u_1 := iv_e2 c_8 (iv_c (10 : Int32) (a := 10) (b := 10) (by decide)) bu_1 (by decide)
    refine lv_iload_n hx hb dX9_fittingWeathers_102 rfl (lv_at hl 1 rfl) ?_
    exact fiI hx hb hr hlk hK hP hD hS dX9_fittingWeathers_103 (Nat.le_of_ble_eq_true rfl) (Nat.le_of_ble_eq_true rfl) (⟨f_3, f_4, f_5, f_6, tf_3, tf_6, knn_7, rfl⟩)
  · have b_10 : iv 0 9 u_1 := iv_l1 (Int32.not_le.mp c_8) bu_1 (iv_c (10 : Int32) (a := 10) (b := 10) (by decide)) (by decide)
    refine lv_aload_n hx hb dX9_fittingWeathers_12 rfl (lv_at hl 2 rfl) ?_
    refine va_get (ci := 9) (v := .int py0_12) (C := RX9) (T := TX9) (N := 15) hx hb hg inX9 hown hK hP 7 rfl rfl 12 (by decide) (hg _ q_2_48) (fun _ h9 => h9) rfl dX9_fittingWeathers_13 ?_
    refine lv_istore (lv' := [(5, .int py0_12), (4, .int u_1), (3, .int u_2), (0, .ref (y 0)), (1, .ref (y 35)), (2, .int a2)]) hx hb dX9_fittingWeathers_16 hl (by decide) rfl (fun ls hl => ?_)
    refine lv_iconst (v := 0) hx hb dX9_fittingWeathers_18 (by decide) ?_
    refine lv_istore (lv' := [(6, .int 0), (5, .int py0_12), (4, .int u_1), (3, .int u_2), (0, .ref (y 0)), (1, .ref (y 35)), (2, .int a2)]) hx hb dX9_fittingWeathers_19 hl (by decide) rfl (fun ls hl => ?_)
    refine loopF (X := fun (n_16 : Nat) (H : Heap) (locs : List Loc) (ls : Array Slot) => ∃ (u_11 : Int32) (u_12 : Int32) (f_13 : Nat → Int32) (f_14 : Nat → Int32) (f_15 : Nat → Int32), (iv 0 2147483647 u_11) ∧ (iv 0 9999 u_12) ∧ (∀ j, iv 0 10 (f_13 j)) ∧ KN D9 f_13 ∧ n_16 = (2147483647 - (u_11 : Int32).toInt).toNat ∧ va_P V.1 vwCl [(y 3, aI V 4 fy3), (y 9, aI V 900 fy9), (y 19, .inr (4, o4_rrrrrr (y 2) (y 20) (y 21) (y 22) (y 23) (y 24))), (y 20, aI V 2000 f_13), (y 21, aI V 6 f_14), (y 22, aI V 64 f_15), (y 32, aI V 10 f_6), (y 0, .inr (9, o9_rirrrrrrrrvviii (y 1) py0_1 (y 2) (y 10) (y 19) (y 25) (y 26) (y 30) (y 31) (y 32) o10 o11 py0_12 py0_13 py0_14)), (y 2, .inr (1, o1_iiiiiirrrrrrriiiii py2_0 py2_1 py2_2 py2_3 py2_4 py2_5 (y 3) (y 4) (y 5) (y 6) (y 7) (y 8) (y 9) py2_13 py2_14 py2_15 py2_16 py2_17)), (y 35, .inr (7, o7_rii (y 36) py35_1 py35_2)), (y 36, aJ V 40 fy36)] H ∧ va_D A [(y 3, aI V 4 fy3), (y 9, aI V 900 fy9), (y 19, .inr (4, o4_rrrrrr (y 2) (y 20) (y 21) (y 22) (y 23) (y 24))), (y 20, aI V 2000 f_13), (y 21, aI V 6 f_14), (y 22, aI V 64 f_15), (y 32, aI V 10 f_6), (y 0, .inr (9, o9_rirrrrrrrrvviii (y 1) py0_1 (y 2) (y 10) (y 19) (y 25) (y 26) (y 30) (y 31) (y 32) o10 o11 py0_12 py0_13 py0_14)), (y 2, .inr (1, o1_iiiiiirrrrrrriiiii py2_0 py2_1 py2_2 py2_3 py2_4 py2_5 (y 3) (y 4) (y 5) (y 6) (y 7) (y 8) (y 9) py2_13 py2_14 py2_15 py2_16 py2_17)), (y 35, .inr (7, o7_rii (y 36) py35_1 py35_2)), (y 36, aJ V 40 fy36)] ∧ va_S A s.heap H locs ∧ lv_has ls 7 [(6, .int u_11), (5, .int u_12), (4, .int u_1), (3, .int u_2), (0, .ref (y 0)), (1, .ref (y 35)), (2, .int a2)]) (g := fun ls => F0 m 21 ls []) (fun n_16 H locs ls hX ihn_16 => ?_) _ ⟨0, py0_12, f_3, f_4, f_5, (iv_c (0 : Int32) (by decide)), bpy0_12, tf_3, knn_7, rfl, hP, hD, hS, lv_sub hl [0, 1, 2, 3, 4, 5, 6] rfl⟩
    obtain ⟨u_11, u_12, f_13, f_14, f_15, bu_11, bu_12, tf_13, knn_16, en_16, hP, hD, hS, hl⟩ := hX
    refine lv_iload hx hb dX9_fittingWeathers_21 (lv_at hl 0 rfl) ?_
    refine lv_aload_n hx hb dX9_fittingWeathers_23 rfl (lv_at hl 5 rfl) ?_
    refine va_get (ci := 7) (v := .int py35_1) (C := RX7) (T := TX7) (N := 3) hx hb hg inX7 hown hK hP 9 rfl rfl 1 (by decide) (hg _ q_2_2) (fun _ h9 => h9) rfl dX9_fittingWeathers_24 ?_
    refine lv_icmp_ge (tgt := 71) hx hb dX9_fittingWeathers_27 (by decide) (fun c_17 => ?_) (fun c_17 => ?_)
    · refine lv_aload_n hx hb dX9_fittingWeathers_71 rfl (lv_at hl 4 rfl) ?_
      refine va_get (ci := 9) (v := .ref (y 32)) (C := RX9) (T := TX9) (N := 15) hx hb hg inX9 hown hK hP 7 rfl rfl 9 (by decide) (hg _ q_2_45) (fun _ h9 => h9) rfl dX9_fittingWeathers_72 ?_
      refine lv_iload hx hb dX9_fittingWeathers_75 (lv_at hl 2 rfl) ?_
      refine lv_iload hx hb dX9_fittingWeathers_77 (lv_at hl 1 rfl) ?_
      refine va_iast hx hb hK hP hD hS 6 0 rfl rfl (iv_in b_10 (by decide)) dX9_fittingWeathers_79 (fun H locs hP hD hS => ?_)
      obtain ⟨f_18, tf_18, hP, hD⟩ : ∃ f_18 : Nat → Int32, (∀ j, iv 0 9999 (f_18 j)) ∧ va_P V.1 vwCl [(y 3, aI V 4 fy3), (y 9, aI V 900 fy9), (y 19, .inr (4, o4_rrrrrr (y 2) (y 20) (y 21) (y 22) (y 23) (y 24))), (y 20, aI V 2000 f_13), (y 21, aI V 6 f_14), (y 22, aI V 64 f_15), (y 32, aI V 10 f_18), (y 0, .inr (9, o9_rirrrrrrrrvviii (y 1) py0_1 (y 2) (y 10) (y 19) (y 25) (y 26) (y 30) (y 31) (y 32) o10 o11 py0_12 py0_13 py0_14)), (y 2, .inr (1, o1_iiiiiirrrrrrriiiii py2_0 py2_1 py2_2 py2_3 py2_4 py2_5 (y 3) (y 4) (y 5) (y 6) (y 7) (y 8) (y 9) py2_13 py2_14 py2_15 py2_16 py2_17)), (y 35, .inr (7, o7_rii (y 36) py35_1 py35_2)), (y 36, aJ V 40 fy36)] H ∧ va_D A [(y 3, aI V 4 fy3), (y 9, aI V 900 fy9), (y 19, .inr (4, o4_rrrrrr (y 2) (y 20) (y 21) (y 22) (y 23) (y 24))), (y 20, aI V 2000 f_13), (y 21, aI V 6 f_14), (y 22, aI V 64 f_15), (y 32, aI V 10 f_18), (y 0, .inr (9, o9_rirrrrrrrrvviii (y 1) py0_1 (y 2) (y 10) (y 19) (y 25) (y 26) (y 30) (y 31) (y 32) o10 o11 py0_12 py0_13 py0_14)), (y 2, .inr (1, o1_iiiiiirrrrrrriiiii py2_0 py2_1 py2_2 py2_3 py2_4 py2_5 (y 3) (y 4) (y 5) (y 6) (y 7) (y 8) (y 9) py2_13 py2_14 py2_15 py2_16 py2_17)), (y 35, .inr (7, o7_rii (y 36) py35_1 py35_2)), (y 36, aJ V 40 fy36)] := ⟨_, ivU tf_6 _ bu_12, hP, hD⟩
      refine lv_iload hx hb dX9_fittingWeathers_80 (lv_at hl 0 rfl) ?_
      refine lv_aload_n hx hb dX9_fittingWeathers_82 rfl (lv_at hl 5 rfl) ?_
      refine va_get (ci := 7) (v := .int py35_1) (C := RX7) (T := TX7) (N := 3) hx hb hg inX7 hown hK hP 9 rfl rfl 1 (by decide) (hg _ q_2_2) (fun _ h9 => h9) rfl dX9_fittingWeathers_83 ?_
      refine lv_icmp_ne (tgt := 96) hx hb dX9_fittingWeathers_86 (by decide) (fun c_19 => ?_) (fun c_19 => ?_)
      · obtain ⟨x_20, ex_20⟩ : ∃ z9 : Int32, z9 = u_1 + 1 := ⟨_, rfl⟩
        have bx_20 : iv 1 10 x_20 := by rw [ex_20]; exact iv_add b_10 (iv_c (1 : Int32) (a := 1) (b := 1) (by decide)) (by decide)
        refine lv_iinc (v := x_20) (lv' := [(4, .int x_20), (6, .int u_11), (5, .int u_12), (3, .int u_2), (0, .ref (y 0)), (1, .ref (y 35)), (2, .int a2)]) hx hb dX9_fittingWeathers_96 hl (k := 2) rfl (by rw [ex_20]; rfl) (by decide) rfl (fun ls hl => ?_)
        refine lv_goto (tgt := 5) hx hb dX9_fittingWeathers_99 (by decide) ?_
        exact ihn_7 _ _ _ _ (by rw [en_7, ex_20]; exact mu_up b_10 (by decide)) ⟨x_20, u_2, f_13, f_14, f_15, f_18, (iv_w bx_20 (by decide)), tf_13, tf_18, knn_16, rfl, hP, hD, hS, lv_sub hl [0, 3, 4, 5, 6] rfl⟩
      · have b_21 : iv (-1) 40 u_11 := iv_q c_19 bpy35_1
        refine lv_iload_n hx hb dX9_fittingWeathers_89 rfl (lv_at hl 3 rfl) ?_
        refine lv_iconst (v := 1) hx hb dX9_fittingWeathers_90 (by decide) ?_
        refine lv_iload hx hb dX9_fittingWeathers_91 (lv_at hl 2 rfl) ?_
        refine lv_ishl hx hb dX9_fittingWeathers_93 ?_
        refine lv_topi (fun x_22 ex_22 => ?_)
        refine lv_ior hx hb dX9_fittingWeathers_94 ?_
        refine lv_topi (fun x_23 ex_23 => ?_)
        refine lv_istore_n (lv' := [(3, .int x_23), (6, .int u_11), (5, .int u_12), (4, .int u_1), (0, .ref (y 0)), (1, .ref (y 35)), (2, .int a2)]) hx hb dX9_fittingWeathers_95 rfl hl (by decide) rfl (fun ls hl => ?_)
        obtain ⟨x_24, ex_24⟩ : ∃ z9 : Int32, z9 = u_1 + 1 := ⟨_, rfl⟩
        have bx_24 : iv 1 10 x_24 := by rw [ex_24]; exact iv_add b_10 (iv_c (1 : Int32) (a := 1) (b := 1) (by decide)) (by decide)
        refine lv_iinc (v := x_24) (lv' := [(4, .int x_24), (3, .int x_23), (6, .int u_11), (5, .int u_12), (0, .ref (y 0)), (1, .ref (y 35)), (2, .int a2)]) hx hb dX9_fittingWeathers_96 hl (k := 3) rfl (by rw [ex_24]; rfl) (by decide) rfl (fun ls hl => ?_)
        refine lv_goto (tgt := 5) hx hb dX9_fittingWeathers_99 (by decide) ?_
        exact ihn_7 _ _ _ _ (by rw [en_7, ex_24]; exact mu_up b_10 (by decide)) ⟨x_24, x_23, f_13, f_14, f_15, f_18, (iv_w bx_24 (by decide)), tf_13, tf_18, knn_16, rfl, hP, hD, hS, lv_sub hl [0, 1, 4, 5, 6] rfl⟩
    · have b_25 : iv 0 39 u_11 := iv_l1 (Int32.not_le.mp c_17) bu_11 bpy35_1 (by decide)
      have b_26 : iv 1 40 py35_1 := iv_l2 (Int32.not_le.mp c_17) bu_11 bpy35_1 (by decide)
      refine lv_aload_n hx hb dX9_fittingWeathers_30 rfl (lv_at hl 4 rfl) ?_
      refine va_get (ci := 9) (v := .ref (y 19)) (C := RX9) (T := TX9) (N := 15) hx hb hg inX9 hown hK hP 7 rfl rfl 4 (by decide) (hg _ q_2_40) (fun _ h9 => h9) rfl dX9_fittingWeathers_31 ?_
      refine lv_iload hx hb dX9_fittingWeathers_34 (lv_at hl 1 rfl) ?_
      refine lv_iload hx hb dX9_fittingWeathers_36 (lv_at hl 2 rfl) ?_
      refine lv_iconst (v := 0) hx hb dX9_fittingWeathers_38 (by decide) ?_
      refine jnI (wr := [(y 32, aI V 10 f_6), (y 0, .inr (9, o9_rirrrrrrrrvviii (y 1) py0_1 (y 2) (y 10) (y 19) (y 25) (y 26) (y 30) (y 31) (y 32) o10 o11 py0_12 py0_13 py0_14)), (y 35, .inr (7, o7_rii (y 36) py35_1 py35_2)), (y 36, aJ V 40 fy36)]) (rnV (rest := []) ⟨hx, hb, hml, hown, hg⟩ (k_X4_behind_0 l V y u_12 u_1 0 fy3 fy9 f_13 f_14 f_15 py2_0 py2_1 py2_2 py2_3 py2_4 py2_5 py2_13 py2_14 py2_15 py2_16 py2_17 bu_12 b_10 tf_13 bpy2_1 bpy2_2 bpy2_3 bpy2_4 bpy2_5 bpy2_13 bpy2_14 bpy2_15 bpy2_16 bpy2_17) mt_X4_behind q_3_145 ⟨Nat.le_of_ble_eq_true rfl, Nat.le_of_ble_eq_true rfl⟩ hK hP hD hS hA hE [0, 1, 2, 3, 4, 5, 8] rfl rfl 2 rfl rfl rfl rfl hl.1 rfl (Nat.le_of_ble_eq_true rfl) dX9_fittingWeathers_39 ⟨Nat.le_of_ble_eq_true rfl, Nat.le_of_ble_eq_true rfl⟩) hP hD hS hA [0, 1, 2, 3, 4, 5, 8] [6, 7, 9, 10] rfl rfl rfl (by decide) (fun r_27 w H locs hw hP hD hS => ?_)
      obtain ⟨f_28, f_29, f_30, tf_28, br_27, g_31, rfl⟩ := hw
      have qkn_32 := g_31 D9 hL9 knn_16
      have er_27 : r_27 = bhS D9 u_12 u_1 (0 : Int32) (py2_1 : Int32).toNatClampNeg := qkn_32.1
      have kn_32 := qkn_32.2
      have hP : va_P V.1 vwCl [(y 32, aI V 10 f_6), (y 0, .inr (9, o9_rirrrrrrrrvviii (y 1) py0_1 (y 2) (y 10) (y 19) (y 25) (y 26) (y 30) (y 31) (y 32) o10 o11 py0_12 py0_13 py0_14)), (y 35, .inr (7, o7_rii (y 36) py35_1 py35_2)), (y 36, aJ V 40 fy36), (y 3, aI V 4 fy3), (y 9, aI V 900 fy9), (y 19, .inr (4, o4_rrrrrr (y 2) (y 20) (y 21) (y 22) (y 23) (y 24))), (y 20, aI V 2000 f_28), (y 21, aI V 6 f_29), (y 22, aI V 64 f_30), (y 2, .inr (1, o1_iiiiiirrrrrrriiiii py2_0 py2_1 py2_2 py2_3 py2_4 py2_5 (y 3) (y 4) (y 5) (y 6) (y 7) (y 8) (y 9) py2_13 py2_14 py2_15 py2_16 py2_17))] H := hP
      have hD := cpD hP hD
      refine lv_istore (lv' := [(5, .int r_27), (6, .int u_11), (4, .int u_1), (3, .int u_2), (0, .ref (y 0)), (1, .ref (y 35)), (2, .int a2)]) hx hb dX9_fittingWeathers_42 hl (by decide) rfl (fun ls hl => ?_)
      refine lv_iload hx hb dX9_fittingWeathers_44 (lv_at hl 0 rfl) ?_
      refine lv_iload_n hx hb dX9_fittingWeathers_46 rfl (lv_at hl 6 rfl) ?_
      refine jnI (wr := [(y 32, aI V 10 f_6), (y 0, .inr (9, o9_rirrrrrrrrvviii (y 1) py0_1 (y 2) (y 10) (y 19) (y 25) (y 26) (y 30) (y 31) (y 32) o10 o11 py0_12 py0_13 py0_14)), (y 35, .inr (7, o7_rii (y 36) py35_1 py35_2)), (y 36, aJ V 40 fy36), (y 3, aI V 4 fy3), (y 9, aI V 900 fy9), (y 19, .inr (4, o4_rrrrrr (y 2) (y 20) (y 21) (y 22) (y 23) (y 24))), (y 20, aI V 2000 f_28), (y 21, aI V 6 f_29), (y 22, aI V 64 f_30), (y 2, .inr (1, o1_iiiiiirrrrrrriiiii py2_0 py2_1 py2_2 py2_3 py2_4 py2_5 (y 3) (y 4) (y 5) (y 6) (y 7) (y 8) (y 9) py2_13 py2_14 py2_15 py2_16 py2_17))]) (rnS (rest := []) ⟨hx, hb, hml, hown, hg⟩ (k_X9_stackIn_0 l V r_27 a2 br_27 (iv_w ba2 (by decide))) mt_X9_stackIn q_3_126 ⟨Nat.le_of_ble_eq_true rfl, Nat.le_of_ble_eq_true rfl⟩ hK hP hD hS hA hE [] rfl rfl rfl hl.1 rfl (Nat.le_of_ble_eq_true rfl) dX9_fittingWeathers_47 ⟨Nat.le_of_ble_eq_true rfl, Nat.le_of_ble_eq_true rfl⟩) hP hD hS hA [] [0, 1, 2, 3, 4, 5, 6, 7, 8, 9, 10] rfl rfl rfl (by decide) (fun r_33 w H locs hw hP hD hS => ?_)
      obtain ⟨br_33, er_33, et_34, rfl⟩ := hw
      have hP : va_P V.1 vwCl [(y 32, aI V 10 f_6), (y 0, .inr (9, o9_rirrrrrrrrvviii (y 1) py0_1 (y 2) (y 10) (y 19) (y 25) (y 26) (y 30) (y 31) (y 32) o10 o11 py0_12 py0_13 py0_14)), (y 35, .inr (7, o7_rii (y 36) py35_1 py35_2)), (y 36, aJ V 40 fy36), (y 3, aI V 4 fy3), (y 9, aI V 900 fy9), (y 19, .inr (4, o4_rrrrrr (y 2) (y 20) (y 21) (y 22) (y 23) (y 24))), (y 20, aI V 2000 f_28), (y 21, aI V 6 f_29), (y 22, aI V 64 f_30), (y 2, .inr (1, o1_iiiiiirrrrrrriiiii py2_0 py2_1 py2_2 py2_3 py2_4 py2_5 (y 3) (y 4) (y 5) (y 6) (y 7) (y 8) (y 9) py2_13 py2_14 py2_15 py2_16 py2_17))] H := hP
      have hD := cpD hP hD
      refine lv_i2l hx hb dX9_fittingWeathers_50 rfl ?_
      refine lv_topl (fun j_35 ej_35 => ?_)
      refine lv_aload_n hx hb dX9_fittingWeathers_51 rfl (lv_at hl 5 rfl) ?_
      refine va_get (ci := 7) (v := .ref (y 36)) (C := RX7) (T := TX7) (N := 3) hx hb hg inX7 hown hK hP 2 rfl rfl 0 (by decide) (hg _ q_1_239) (fun _ h9 => h9) rfl dX9_fittingWeathers_52 ?_
      refine lv_iload hx hb dX9_fittingWeathers_55 (lv_at hl 1 rfl) ?_
      refine va_lald hx hb hK hP 3 2 rfl rfl (iv_in b_25 (by decide)) dX9_fittingWeathers_57 ?_
      refine lv_topl (fun j_36 ej_36 => ?_)
      refine W.lcmp hx hb dX9_fittingWeathers_58 ?_
      refine lv_if_eq (tgt := 65) hx hb dX9_fittingWeathers_59 (by decide) (fun _ => ?_) (fun _ => ?_)
      · obtain ⟨x_38, ex_38⟩ : ∃ z9 : Int32, z9 = u_11 + 1 := ⟨_, rfl⟩
        have bx_38 : iv 1 40 x_38 := by rw [ex_38]; exact iv_add b_25 (iv_c (1 : Int32) (a := 1) (b := 1) (by decide)) (by decide)
        refine lv_iinc (v := x_38) (lv' := [(6, .int x_38), (5, .int r_27), (4, .int u_1), (3, .int u_2), (0, .ref (y 0)), (1, .ref (y 35)), (2, .int a2)]) hx hb dX9_fittingWeathers_65 hl (k := 1) rfl (by rw [ex_38]; rfl) (by decide) rfl (fun ls hl => ?_)
        refine lv_goto (tgt := 21) hx hb dX9_fittingWeathers_68 (by decide) ?_
        have hP := subP (ws' := [(y 3, aI V 4 fy3), (y 9, aI V 900 fy9), (y 19, .inr (4, o4_rrrrrr (y 2) (y 20) (y 21) (y 22) (y 23) (y 24))), (y 20, aI V 2000 f_28), (y 21, aI V 6 f_29), (y 22, aI V 64 f_30), (y 32, aI V 10 f_6), (y 0, .inr (9, o9_rirrrrrrrrvviii (y 1) py0_1 (y 2) (y 10) (y 19) (y 25) (y 26) (y 30) (y 31) (y 32) o10 o11 py0_12 py0_13 py0_14)), (y 2, .inr (1, o1_iiiiiirrrrrrriiiii py2_0 py2_1 py2_2 py2_3 py2_4 py2_5 (y 3) (y 4) (y 5) (y 6) (y 7) (y 8) (y 9) py2_13 py2_14 py2_15 py2_16 py2_17)), (y 35, .inr (7, o7_rii (y 36) py35_1 py35_2)), (y 36, aJ V 40 fy36)]) hP [4, 5, 6, 7, 8, 9, 0, 1, 10, 2, 3] rfl
        have hD := subD hP hD [4, 5, 6, 7, 8, 9, 0, 1, 10, 2, 3] rfl rfl
        exact ihn_16 _ _ _ _ (by rw [en_16, ex_38]; exact mu_up b_25 (by decide)) ⟨x_38, r_27, f_28, f_29, f_30, (iv_w bx_38 (by decide)), br_27, tf_28, kn_32, rfl, hP, hD, hS, lv_sub hl [0, 1, 2, 3, 4, 5, 6] rfl⟩
      · refine lv_goto (tgt := 71) hx hb dX9_fittingWeathers_62 (by decide) ?_
        refine lv_aload_n hx hb dX9_fittingWeathers_71 rfl (lv_at hl 4 rfl) ?_
        refine va_get (ci := 9) (v := .ref (y 32)) (C := RX9) (T := TX9) (N := 15) hx hb hg inX9 hown hK hP 1 rfl rfl 9 (by decide) (hg _ q_2_45) (fun _ h9 => h9) rfl dX9_fittingWeathers_72 ?_
        refine lv_iload hx hb dX9_fittingWeathers_75 (lv_at hl 2 rfl) ?_
        refine lv_iload hx hb dX9_fittingWeathers_77 (lv_at hl 0 rfl) ?_
        refine va_iast hx hb hK hP hD hS 0 0 rfl rfl (iv_in b_10 (by decide)) dX9_fittingWeathers_79 (fun H locs hP hD hS => ?_)
        obtain ⟨f_39, tf_39, hP, hD⟩ : ∃ f_39 : Nat → Int32, (∀ j, iv 0 9999 (f_39 j)) ∧ va_P V.1 vwCl [(y 32, aI V 10 f_39), (y 0, .inr (9, o9_rirrrrrrrrvviii (y 1) py0_1 (y 2) (y 10) (y 19) (y 25) (y 26) (y 30) (y 31) (y 32) o10 o11 py0_12 py0_13 py0_14)), (y 35, .inr (7, o7_rii (y 36) py35_1 py35_2)), (y 36, aJ V 40 fy36), (y 3, aI V 4 fy3), (y 9, aI V 900 fy9), (y 19, .inr (4, o4_rrrrrr (y 2) (y 20) (y 21) (y 22) (y 23) (y 24))), (y 20, aI V 2000 f_28), (y 21, aI V 6 f_29), (y 22, aI V 64 f_30), (y 2, .inr (1, o1_iiiiiirrrrrrriiiii py2_0 py2_1 py2_2 py2_3 py2_4 py2_5 (y 3) (y 4) (y 5) (y 6) (y 7) (y 8) (y 9) py2_13 py2_14 py2_15 py2_16 py2_17))] H ∧ va_D A [(y 32, aI V 10 f_39), (y 0, .inr (9, o9_rirrrrrrrrvviii (y 1) py0_1 (y 2) (y 10) (y 19) (y 25) (y 26) (y 30) (y 31) (y 32) o10 o11 py0_12 py0_13 py0_14)), (y 35, .inr (7, o7_rii (y 36) py35_1 py35_2)), (y 36, aJ V 40 fy36), (y 3, aI V 4 fy3), (y 9, aI V 900 fy9), (y 19, .inr (4, o4_rrrrrr (y 2) (y 20) (y 21) (y 22) (y 23) (y 24))), (y 20, aI V 2000 f_28), (y 21, aI V 6 f_29), (y 22, aI V 64 f_30), (y 2, .inr (1, o1_iiiiiirrrrrrriiiii py2_0 py2_1 py2_2 py2_3 py2_4 py2_5 (y 3) (y 4) (y 5) (y 6) (y 7) (y 8) (y 9) py2_13 py2_14 py2_15 py2_16 py2_17))] := ⟨_, ivU tf_6 _ br_27, hP, hD⟩
        refine lv_iload hx hb dX9_fittingWeathers_80 (lv_at hl 1 rfl) ?_
        refine lv_aload_n hx hb dX9_fittingWeathers_82 rfl (lv_at hl 5 rfl) ?_
        refine va_get (ci := 7) (v := .int py35_1) (C := RX7) (T := TX7) (N := 3) hx hb hg inX7 hown hK hP 2 rfl rfl 1 (by decide) (hg _ q_2_2) (fun _ h9 => h9) rfl dX9_fittingWeathers_83 ?_
        refine lv_icmp_ne (tgt := 96) hx hb dX9_fittingWeathers_86 (by decide) (fun c_40 => ?_) (fun c_40 => ?_)
        · obtain ⟨x_41, ex_41⟩ : ∃ z9 : Int32, z9 = u_1 + 1 := ⟨_, rfl⟩
          have bx_41 : iv 1 10 x_41 := by rw [ex_41]; exact iv_add b_10 (iv_c (1 : Int32) (a := 1) (b := 1) (by decide)) (by decide)
          refine lv_iinc (v := x_41) (lv' := [(4, .int x_41), (5, .int r_27), (6, .int u_11), (3, .int u_2), (0, .ref (y 0)), (1, .ref (y 35)), (2, .int a2)]) hx hb dX9_fittingWeathers_96 hl (k := 2) rfl (by rw [ex_41]; rfl) (by decide) rfl (fun ls hl => ?_)
          refine lv_goto (tgt := 5) hx hb dX9_fittingWeathers_99 (by decide) ?_
          have hP := subP (ws' := [(y 3, aI V 4 fy3), (y 9, aI V 900 fy9), (y 19, .inr (4, o4_rrrrrr (y 2) (y 20) (y 21) (y 22) (y 23) (y 24))), (y 20, aI V 2000 f_28), (y 21, aI V 6 f_29), (y 22, aI V 64 f_30), (y 32, aI V 10 f_39), (y 0, .inr (9, o9_rirrrrrrrrvviii (y 1) py0_1 (y 2) (y 10) (y 19) (y 25) (y 26) (y 30) (y 31) (y 32) o10 o11 py0_12 py0_13 py0_14)), (y 2, .inr (1, o1_iiiiiirrrrrrriiiii py2_0 py2_1 py2_2 py2_3 py2_4 py2_5 (y 3) (y 4) (y 5) (y 6) (y 7) (y 8) (y 9) py2_13 py2_14 py2_15 py2_16 py2_17)), (y 35, .inr (7, o7_rii (y 36) py35_1 py35_2)), (y 36, aJ V 40 fy36)]) hP [4, 5, 6, 7, 8, 9, 0, 1, 10, 2, 3] rfl
          have hD := subD hP hD [4, 5, 6, 7, 8, 9, 0, 1, 10, 2, 3] rfl rfl
          exact ihn_7 _ _ _ _ (by rw [en_7, ex_41]; exact mu_up b_10 (by decide)) ⟨x_41, u_2, f_28, f_29, f_30, f_39, (iv_w bx_41 (by decide)), tf_28, tf_39, kn_32, rfl, hP, hD, hS, lv_sub hl [0, 3, 4, 5, 6] rfl⟩
        · have b_42 : iv 1 40 u_11 := iv_q c_40 b_26
          refine lv_iload_n hx hb dX9_fittingWeathers_89 rfl (lv_at hl 3 rfl) ?_
          refine lv_iconst (v := 1) hx hb dX9_fittingWeathers_90 (by decide) ?_
          refine lv_iload hx hb dX9_fittingWeathers_91 (lv_at hl 2 rfl) ?_
          refine lv_ishl hx hb dX9_fittingWeathers_93 ?_
          refine lv_topi (fun x_43 ex_43 => ?_)
          refine lv_ior hx hb dX9_fittingWeathers_94 ?_
          refine lv_topi (fun x_44 ex_44 => ?_)
          refine lv_istore_n (lv' := [(3, .int x_44), (5, .int r_27), (6, .int u_11), (4, .int u_1), (0, .ref (y 0)), (1, .ref (y 35)), (2, .int a2)]) hx hb dX9_fittingWeathers_95 rfl hl (by decide) rfl (fun ls hl => ?_)
          obtain ⟨x_45, ex_45⟩ : ∃ z9 : Int32, z9 = u_1 + 1 := ⟨_, rfl⟩
          have bx_45 : iv 1 10 x_45 := by rw [ex_45]; exact iv_add b_10 (iv_c (1 : Int32) (a := 1) (b := 1) (by decide)) (by decide)
          refine lv_iinc (v := x_45) (lv' := [(4, .int x_45), (3, .int x_44), (5, .int r_27), (6, .int u_11), (0, .ref (y 0)), (1, .ref (y 35)), (2, .int a2)]) hx hb dX9_fittingWeathers_96 hl (k := 3) rfl (by rw [ex_45]; rfl) (by decide) rfl (fun ls hl => ?_)
          refine lv_goto (tgt := 5) hx hb dX9_fittingWeathers_99 (by decide) ?_
          have hP := subP (ws' := [(y 3, aI V 4 fy3), (y 9, aI V 900 fy9), (y 19, .inr (4, o4_rrrrrr (y 2) (y 20) (y 21) (y 22) (y 23) (y 24))), (y 20, aI V 2000 f_28), (y 21, aI V 6 f_29), (y 22, aI V 64 f_30), (y 32, aI V 10 f_39), (y 0, .inr (9, o9_rirrrrrrrrvviii (y 1) py0_1 (y 2) (y 10) (y 19) (y 25) (y 26) (y 30) (y 31) (y 32) o10 o11 py0_12 py0_13 py0_14)), (y 2, .inr (1, o1_iiiiiirrrrrrriiiii py2_0 py2_1 py2_2 py2_3 py2_4 py2_5 (y 3) (y 4) (y 5) (y 6) (y 7) (y 8) (y 9) py2_13 py2_14 py2_15 py2_16 py2_17)), (y 35, .inr (7, o7_rii (y 36) py35_1 py35_2)), (y 36, aJ V 40 fy36)]) hP [4, 5, 6, 7, 8, 9, 0, 1, 10, 2, 3] rfl
          have hD := subD hP hD [4, 5, 6, 7, 8, 9, 0, 1, 10, 2, 3] rfl rfl
          exact ihn_7 _ _ _ _ (by rw [en_7, ex_45]; exact mu_up b_10 (by decide)) ⟨x_45, x_44, f_28, f_29, f_30, f_39, (iv_w bx_45 (by decide)), tf_28, tf_39, kn_32, rfl, hP, hD, hS, lv_sub hl [0, 1, 4, 5, 6] rfl⟩
set_option maxHeartbeats 4000000 in
set_option maxRecDepth 100000 in
theorem k_X9_fittingWeathers_2 (l : Launch) (V : GV) (y : Nat → Nat) (D9 : Nat → Int32) (a2 : Int32) (fy3 : Nat → Int32) (fy9 : Nat → Int32) (fy20 : Nat → Int32) (fy21 : Nat → Int32) (fy22 : Nat → Int32) (fy32 : Nat → Int32) (py0_1 : Int32) (o10 : Value) (o11 : Value) (py0_12 : Int32) (py0_13 : Int32) (py0_14 : Int32) (py2_0 : Int32) (py2_1 : Int32) (py2_2 : Int32) (py2_3 : Int32) (py2_4 : Int32) (py2_5 : Int32) (py2_13 : Int32) (py2_14 : Int32) (py2_15 : Int32) (py2_16 : Int32) (py2_17 : Int32) (py37_1 : Int32) (py37_2 : Int32) (fy38 : Nat → Int64) (ba2 : iv 0 3 a2) (tfy20 : ∀ j, iv 0 10 (fy20 j)) (tfy32 : ∀ j, iv 0 9999 (fy32 j)) (bpy0_1 : iv 0 900 py0_1) (bpy0_12 : iv 0 9999 py0_12) (bpy0_13 : iv 0 9 py0_13) (bpy2_1 : iv 0 4 py2_1) (bpy2_2 : iv 0 4 py2_2) (bpy2_3 : iv 0 8 py2_3) (bpy2_4 : iv 0 9999 py2_4) (bpy2_5 : iv 0 9 py2_5) (bpy2_13 : iv 0 900 py2_13) (bpy2_14 : iv 0 900 py2_14) (bpy2_15 : iv 0 900 py2_15) (bpy2_16 : iv 0 900 py2_16) (bpy2_17 : iv 0 900 py2_17) (bpy37_1 : iv (-1) 40 py37_1) (hL9 : LW D9 fy3 fy9 py2_14 py2_15 py2_16 py2_17) (hK9 : KN D9 fy20) : Ct l V yX9_fittingWeathers (.code yX9_fittingWeathers cX9_fittingWeathers 7 (some .int)) 6 [.ref (y 0), .ref (y 37), .int a2] [(y 3, aI V 4 fy3), (y 9, aI V 900 fy9), (y 19, .inr (4, o4_rrrrrr (y 2) (y 20) (y 21) (y 22) (y 23) (y 24))), (y 20, aI V 2000 fy20), (y 21, aI V 6 fy21), (y 22, aI V 64 fy22), (y 32, aI V 10 fy32), (y 0, .inr (9, o9_rirrrrrrrrvviii (y 1) py0_1 (y 2) (y 10) (y 19) (y 25) (y 26) (y 30) (y 31) (y 32) o10 o11 py0_12 py0_13 py0_14)), (y 2, .inr (1, o1_iiiiiirrrrrrriiiii py2_0 py2_1 py2_2 py2_3 py2_4 py2_5 (y 3) (y 4) (y 5) (y 6) (y 7) (y 8) (y 9) py2_13 py2_14 py2_15 py2_16 py2_17)), (y 37, .inr (7, o7_rii (y 38) py37_1 py37_2)), (y 38, aJ V 40 fy38)] 0 0 (QI V (fun (r : Int32) (w : va_W) => ∃ (g0 : Nat → Int32) (g1 : Nat → Int32) (g2 : Nat → Int32) (g3 : Nat → Int32), (∀ j, iv 0 10 (g0 j)) ∧ (∀ j, iv 0 9999 (g3 j)) ∧ KN D9 g0 ∧ w = [(y 3, aI V 4 fy3), (y 9, aI V 900 fy9), (y 19, .inr (4, o4_rrrrrr (y 2) (y 20) (y 21) (y 22) (y 23) (y 24))), (y 20, aI V 2000 g0), (y 21, aI V 6 g1), (y 22, aI V 64 g2), (y 32, aI V 10 g3), (y 0, .inr (9, o9_rirrrrrrrrvviii (y 1) py0_1 (y 2) (y 10) (y 19) (y 25) (y 26) (y 30) (y 31) (y 32) o10 o11 py0_12 py0_13 py0_14)), (y 2, .inr (1, o1_iiiiiirrrrrrriiiii py2_0 py2_1 py2_2 py2_3 py2_4 py2_5 (y 3) (y 4) (y 5) (y 6) (y 7) (y 8) (y 9) py2_13 py2_14 py2_15 py2_16 py2_17)), (y 37, .inr (7, o7_rii (y 38) py37_1 py37_2)), (y 38, aJ V 40 fy38)])) := by
  refine Ct.of (by decide) (Nat.le_of_ble_eq_true rfl) (fun p e s m below meth c A ls hx hb hr hml hown hlk hnm hg hP hK hD hE hA hS hl => ?_)
  have hl : lv_has ls 7 [(0, .ref (y 0)), (1, .ref (y 37)), (2, .int a2)] := hl
  refine lv_iconst (v := 0) hx hb dX9_fittingWeathers_0 (by decide) ?_
  refine lv_istore_n (lv' := [(3, .int 0), (0, .ref (y 0)), (1, .ref (y 37)), (2, .int a2)]) hx hb dX9_fittingWeathers_1 rfl hl (by decide) rfl (fun ls hl => ?_)
  refine lv_iconst (v := 0) hx hb dX9_fittingWeathers_2 (by decide) ?_
  refine lv_istore (lv' := [(4, .int 0), (3, .int 0), (0, .ref (y 0)), (1, .ref (y 37)), (2, .int a2)]) hx hb dX9_fittingWeathers_3 hl (by decide) rfl (fun ls hl => ?_)
  refine loopF (X := fun (n_7 : Nat) (H : Heap) (locs : List Loc) (ls : Array Slot) => ∃ (u_1 : Int32) (u_2 : Int32) (f_3 : Nat → Int32) (f_4 : Nat → Int32) (f_5 : Nat → Int32) (f_6 : Nat → Int32), (iv 0 10 u_1) ∧ (∀ j, iv 0 10 (f_3 j)) ∧ (∀ j, iv 0 9999 (f_6 j)) ∧ KN D9 f_3 ∧ n_7 = (2147483647 - (u_1 : Int32).toInt).toNat ∧ va_P V.1 vwCl [(y 3, aI V 4 fy3), (y 9, aI V 900 fy9), (y 19, .inr (4, o4_rrrrrr (y 2) (y 20) (y 21) (y 22) (y 23) (y 24))), (y 20, aI V 2000 f_3), (y 21, aI V 6 f_4), (y 22, aI V 64 f_5), (y 32, aI V 10 f_6), (y 0, .inr (9, o9_rirrrrrrrrvviii (y 1) py0_1 (y 2) (y 10) (y 19) (y 25) (y 26) (y 30) (y 31) (y 32) o10 o11 py0_12 py0_13 py0_14)), (y 2, .inr (1, o1_iiiiiirrrrrrriiiii py2_0 py2_1 py2_2 py2_3 py2_4 py2_5 (y 3) (y 4) (y 5) (y 6) (y 7) (y 8) (y 9) py2_13 py2_14 py2_15 py2_16 py2_17)), (y 37, .inr (7, o7_rii (y 38) py37_1 py37_2)), (y 38, aJ V 40 fy38)] H ∧ va_D A [(y 3, aI V 4 fy3), (y 9, aI V 900 fy9), (y 19, .inr (4, o4_rrrrrr (y 2) (y 20) (y 21) (y 22) (y 23) (y 24))), (y 20, aI V 2000 f_3), (y 21, aI V 6 f_4), (y 22, aI V 64 f_5), (y 32, aI V 10 f_6), (y 0, .inr (9, o9_rirrrrrrrrvviii (y 1) py0_1 (y 2) (y 10) (y 19) (y 25) (y 26) (y 30) (y 31) (y 32) o10 o11 py0_12 py0_13 py0_14)), (y 2, .inr (1, o1_iiiiiirrrrrrriiiii py2_0 py2_1 py2_2 py2_3 py2_4 py2_5 (y 3) (y 4) (y 5) (y 6) (y 7) (y 8) (y 9) py2_13 py2_14 py2_15 py2_16 py2_17)), (y 37, .inr (7, o7_rii (y 38) py37_1 py37_2)), (y 38, aJ V 40 fy38)] ∧ va_S A s.heap H locs ∧ lv_has ls 7 [(4, .int u_1), (3, .int u_2), (0, .ref (y 0)), (1, .ref (y 37)), (2, .int a2)]) (g := fun ls => F0 m 5 ls []) (fun n_7 H locs ls hX ihn_7 => ?_) _ ⟨0, 0, fy20, fy21, fy22, fy32, (iv_c (0 : Int32) (by decide)), tfy20, tfy32, hK9, rfl, hP, hD, hS, lv_sub hl [0, 1, 2, 3, 4] rfl⟩
  obtain ⟨u_1, u_2, f_3, f_4, f_5, f_6, bu_1, tf_3, tf_6, knn_7, en_7, hP, hD, hS, hl⟩ := hX
  refine lv_iload hx hb dX9_fittingWeathers_5 (lv_at hl 0 rfl) ?_
  refine lv_bipush (v := 10) hx hb dX9_fittingWeathers_7 (by decide) ?_
  refine lv_icmp_ge (tgt := 102) hx hb dX9_fittingWeathers_9 (by decide) (fun c_8 => ?_) (fun c_8 => ?_)
  · have b_9 : iv 10 10 u_1 := iv_e2 c_8 (iv_c (10 : Int32) (a := 10) (b := 10) (by decide)) bu_1 (by decide)
    refine lv_iload_n hx hb dX9_fittingWeathers_102 rfl (lv_at hl 1 rfl) ?_
    exact fiI hx hb hr hlk hK hP hD hS dX9_fittingWeathers_103 (Nat.le_of_ble_eq_true rfl) (Nat.le_of_ble_eq_true rfl) (⟨f_3, f_4, f_5, f_6, tf_3, tf_6, knn_7, rfl⟩)
  · have b_10 : iv 0 9 u_1 := iv_l1 (Int32.not_le.mp c_8) bu_1 (iv_c (10 : Int32) (a := 10) (b := 10) (by decide)) (by decide)
    refine lv_aload_n hx hb dX9_fittingWeathers_12 rfl (lv_at hl 2 rfl) ?_
    refine va_get (ci := 9) (v := .int py0_12) (C := RX9) (T := TX9) (N := 15) hx hb hg inX9 hown hK hP 7 rfl rfl 12 (by decide) (hg _ q_2_48) (fun _ h9 => h9) rfl dX9_fittingWeathers_13 ?_
    refine lv_istore (lv' := [(5, .int py0_12), (4, .int u_1), (3, .int u_2), (0, .ref (y 0)), (1, .ref (y 37)), (2, .int a2)]) hx hb dX9_fittingWeathers_16 hl (by decide) rfl (fun ls hl => ?_)
    refine lv_iconst (v := 0) hx hb dX9_fittingWeathers_18 (by decide) ?_
    refine lv_istore (lv' := [(6, .int 0), (5, .int py0_12), (4, .int u_1), (3, .int u_2), (0, .ref (y 0)), (1, .ref (y 37)), (2, .int a2)]) hx hb dX9_fittingWeathers_19 hl (by decide) rfl (fun ls hl => ?_)
    refine loopF (X := fun (n_16 : Nat) (H : Heap) (locs : List Loc) (ls : Array Slot) => ∃ (u_11 : Int32) (u_12 : Int32) (f_13 : Nat → Int32) (f_14 : Nat → Int32) (f_15 : Nat → Int32), (iv 0 2147483647 u_11) ∧ (iv 0 9999 u_12) ∧ (∀ j, iv 0 10 (f_13 j)) ∧ KN D9 f_13 ∧ n_16 = (2147483647 - (u_11 : Int32).toInt).toNat ∧ va_P V.1 vwCl [(y 3, aI V 4 fy3), (y 9, aI V 900 fy9), (y 19, .inr (4, o4_rrrrrr (y 2) (y 20) (y 21) (y 22) (y 23) (y 24))), (y 20, aI V 2000 f_13), (y 21, aI V 6 f_14), (y 22, aI V 64 f_15), (y 32, aI V 10 f_6), (y 0, .inr (9, o9_rirrrrrrrrvviii (y 1) py0_1 (y 2) (y 10) (y 19) (y 25) (y 26) (y 30) (y 31) (y 32) o10 o11 py0_12 py0_13 py0_14)), (y 2, .inr (1, o1_iiiiiirrrrrrriiiii py2_0 py2_1 py2_2 py2_3 py2_4 py2_5 (y 3) (y 4) (y 5) (y 6) (y 7) (y 8) (y 9) py2_13 py2_14 py2_15 py2_16 py2_17)), (y 37, .inr (7, o7_rii (y 38) py37_1 py37_2)), (y 38, aJ V 40 fy38)] H ∧ va_D A [(y 3, aI V 4 fy3), (y 9, aI V 900 fy9), (y 19, .inr (4, o4_rrrrrr (y 2) (y 20) (y 21) (y 22) (y 23) (y 24))), (y 20, aI V 2000 f_13), (y 21, aI V 6 f_14), (y 22, aI V 64 f_15), (y 32, aI V 10 f_6), (y 0, .inr (9, o9_rirrrrrrrrvviii (y 1) py0_1 (y 2) (y 10) (y 19) (y 25) (y 26) (y 30) (y 31) (y 32) o10 o11 py0_12 py0_13 py0_14)), (y 2, .inr (1, o1_iiiiiirrrrrrriiiii py2_0 py2_1 py2_2 py2_3 py2_4 py2_5 (y 3) (y 4) (y 5) (y 6) (y 7) (y 8) (y 9) py2_13 py2_14 py2_15 py2_16 py2_17)), (y 37, .inr (7, o7_rii (y 38) py37_1 py37_2)), (y 38, aJ V 40 fy38)] ∧ va_S A s.heap H locs ∧ lv_has ls 7 [(6, .int u_11), (5, .int u_12), (4, .int u_1), (3, .int u_2), (0, .ref (y 0)), (1, .ref (y 37)), (2, .int a2)]) (g := fun ls => F0 m 21 ls []) (fun n_16 H locs ls hX ihn_16 => ?_) _ ⟨0, py0_12, f_3, f_4, f_5, (iv_c (0 : Int32) (by decide)), bpy0_12, tf_3, knn_7, rfl, hP, hD, hS, lv_sub hl [0, 1, 2, 3, 4, 5, 6] rfl⟩
    obtain ⟨u_11, u_12, f_13, f_14, f_15, bu_11, bu_12, tf_13, knn_16, en_16, hP, hD, hS, hl⟩ := hX
    refine lv_iload hx hb dX9_fittingWeathers_21 (lv_at hl 0 rfl) ?_
    refine lv_aload_n hx hb dX9_fittingWeathers_23 rfl (lv_at hl 5 rfl) ?_
    refine va_get (ci := 7) (v := .int py37_1) (C := RX7) (T := TX7) (N := 3) hx hb hg inX7 hown hK hP 9 rfl rfl 1 (by decide) (hg _ q_2_2) (fun _ h9 => h9) rfl dX9_fittingWeathers_24 ?_
    refine lv_icmp_ge (tgt := 71) hx hb dX9_fittingWeathers_27 (by decide) (fun c_17 => ?_) (fun c_17 => ?_)
    · refine lv_aload_n hx hb dX9_fittingWeathers_71 rfl (lv_at hl 4 rfl) ?_
      refine va_get (ci := 9) (v := .ref (y 32)) (C := RX9) (T := TX9) (N := 15) hx hb hg inX9 hown hK hP 7 rfl rfl 9 (by decide) (hg _ q_2_45) (fun _ h9 => h9) rfl dX9_fittingWeathers_72 ?_
      refine lv_iload hx hb dX9_fittingWeathers_75 (lv_at hl 2 rfl) ?_
      refine lv_iload hx hb dX9_fittingWeathers_77 (lv_at hl 1 rfl) ?_
      refine va_iast hx hb hK hP hD hS 6 0 rfl rfl (iv_in b_10 (by decide)) dX9_fittingWeathers_79 (fun H locs hP hD hS => ?_)
      obtain ⟨f_18, tf_18, hP, hD⟩ : ∃ f_18 : Nat → Int32, (∀ j, iv 0 9999 (f_18 j)) ∧ va_P V.1 vwCl [(y 3, aI V 4 fy3), (y 9, aI V 900 fy9), (y 19, .inr (4, o4_rrrrrr (y 2) (y 20) (y 21) (y 22) (y 23) (y 24))), (y 20, aI V 2000 f_13), (y 21, aI V 6 f_14), (y 22, aI V 64 f_15), (y 32, aI V 10 f_18), (y 0, .inr (9, o9_rirrrrrrrrvviii (y 1) py0_1 (y 2) (y 10) (y 19) (y 25) (y 26) (y 30) (y 31) (y 32) o10 o11 py0_12 py0_13 py0_14)), (y 2, .inr (1, o1_iiiiiirrrrrrriiiii py2_0 py2_1 py2_2 py2_3 py2_4 py2_5 (y 3) (y 4) (y 5) (y 6) (y 7) (y 8) (y 9) py2_13 py2_14 py2_15 py2_16 py2_17)), (y 37, .inr (7, o7_rii (y 38) py37_1 py37_2)), (y 38, aJ V 40 fy38)] H ∧ va_D A [(y 3, aI V 4 fy3), (y 9, aI V 900 fy9), (y 19, .inr (4, o4_rrrrrr (y 2) (y 20) (y 21) (y 22) (y 23) (y 24))), (y 20, aI V 2000 f_13), (y 21, aI V 6 f_14), (y 22, aI V 64 f_15), (y 32, aI V 10 f_18), (y 0, .inr (9, o9_rirrrrrrrrvviii (y 1) py0_1 (y 2) (y 10) (y 19) (y 25) (y 26) (y 30) (y 31) (y 32) o10 o11 py0_12 py0_13 py0_14)), (y 2, .inr (1, o1_iiiiiirrrrrrriiiii py2_0 py2_1 py2_2 py2_3 py2_4 py2_5 (y 3) (y 4) (y 5) (y 6) (y 7) (y 8) (y 9) py2_13 py2_14 py2_15 py2_16 py2_17)), (y 37, .inr (7, o7_rii (y 38) py37_1 py37_2)), (y 38, aJ V 40 fy38)] := ⟨_, ivU tf_6 _ bu_12, hP, hD⟩
      refine lv_iload hx hb dX9_fittingWeathers_80 (lv_at hl 0 rfl) ?_
      refine lv_aload_n hx hb dX9_fittingWeathers_82 rfl (lv_at hl 5 rfl) ?_
      refine va_get (ci := 7) (v := .int py37_1) (C := RX7) (T := TX7) (N := 3) hx hb hg inX7 hown hK hP 9 rfl rfl 1 (by decide) (hg _ q_2_2) (fun _ h9 => h9) rfl dX9_fittingWeathers_83 ?_
      refine lv_icmp_ne (tgt := 96) hx hb dX9_fittingWeathers_86 (by decide) (fun c_19 => ?_) (fun c_19 => ?_)
      · obtain ⟨x_20, ex_20⟩ : ∃ z9 : Int32, z9 = u_1 + 1 := ⟨_, rfl⟩
        have bx_20 : iv 1 10 x_20 := by rw [ex_20]; exact iv_add b_10 (iv_c (1 : Int32) (a := 1) (b := 1) (by decide)) (by decide)
        refine lv_iinc (v := x_20) (lv' := [(4, .int x_20), (6, .int u_11), (5, .int u_12), (3, .int u_2), (0, .ref (y 0)), (1, .ref (y 37)), (2, .int a2)]) hx hb dX9_fittingWeathers_96 hl (k := 2) rfl (by rw [ex_20]; rfl) (by decide) rfl (fun ls hl => ?_)
        refine lv_goto (tgt := 5) hx hb dX9_fittingWeathers_99 (by decide) ?_
        exact ihn_7 _ _ _ _ (by rw [en_7, ex_20]; exact mu_up b_10 (by decide)) ⟨x_20, u_2, f_13, f_14, f_15, f_18, (iv_w bx_20 (by decide)), tf_13, tf_18, knn_16, rfl, hP, hD, hS, lv_sub hl [0, 3, 4, 5, 6] rfl⟩
      · have b_21 : iv (-1) 40 u_11 := iv_q c_19 bpy37_1
        refine lv_iload_n hx hb dX9_fittingWeathers_89 rfl (lv_at hl 3 rfl) ?_
        refine lv_iconst (v := 1) hx hb dX9_fittingWeathers_90 (by decide) ?_
        refine lv_iload hx hb dX9_fittingWeathers_91 (lv_at hl 2 rfl) ?_
        refine lv_ishl hx hb dX9_fittingWeathers_93 ?_
        refine lv_topi (fun x_22 ex_22 => ?_)
        refine lv_ior hx hb dX9_fittingWeathers_94 ?_
        refine lv_topi (fun x_23 ex_23 => ?_)
        refine lv_istore_n (lv' := [(3, .int x_23), (6, .int u_11), (5, .int u_12), (4, .int u_1), (0, .ref (y 0)), (1, .ref (y 37)), (2, .int a2)]) hx hb dX9_fittingWeathers_95 rfl hl (by decide) rfl (fun ls hl => ?_)
        obtain ⟨x_24, ex_24⟩ : ∃ z9 : Int32, z9 = u_1 + 1 := ⟨_, rfl⟩
        have bx_24 : iv 1 10 x_24 := by rw [ex_24]; exact iv_add b_10 (iv_c (1 : Int32) (a := 1) (b := 1) (by decide)) (by decide)
        refine lv_iinc (v := x_24) (lv' := [(4, .int x_24), (3, .int x_23), (6, .int u_11), (5, .int u_12), (0, .ref (y 0)), (1, .ref (y 37)), (2, .int a2)]) hx hb dX9_fittingWeathers_96 hl (k := 3) rfl (by rw [ex_24]; rfl) (by decide) rfl (fun ls hl => ?_)
        refine lv_goto (tgt := 5) hx hb dX9_fittingWeathers_99 (by decide) ?_
        exact ihn_7 _ _ _ _ (by rw [en_7, ex_24]; exact mu_up b_10 (by decide)) ⟨x_24, x_23, f_13, f_14, f_15, f_18, (iv_w bx_24 (by decide)), tf_13, tf_18, knn_16, rfl, hP, hD, hS, lv_sub hl [0, 1, 4, 5, 6] rfl⟩
    · have b_25 : iv 0 39 u_11 := iv_l1 (Int32.not_le.mp c_17) bu_11 bpy37_1 (by decide)
      have b_26 : iv 1 40 py37_1 := iv_l2 (Int32.not_le.mp c_17) bu_11 bpy37_1 (by decide)
      refine lv_aload_n hx hb dX9_fittingWeathers_30 rfl (lv_at hl 4 rfl) ?_
      refine va_get (ci := 9) (v := .ref (y 19)) (C := RX9) (T := TX9) (N := 15) hx hb hg inX9 hown hK hP 7 rfl rfl 4 (by decide) (hg _ q_2_40) (fun _ h9 => h9) rfl dX9_fittingWeathers_31 ?_
      refine lv_iload hx hb dX9_fittingWeathers_34 (lv_at hl 1 rfl) ?_
      refine lv_iload hx hb dX9_fittingWeathers_36 (lv_at hl 2 rfl) ?_
      refine lv_iconst (v := 0) hx hb dX9_fittingWeathers_38 (by decide) ?_
      refine jnI (wr := [(y 32, aI V 10 f_6), (y 0, .inr (9, o9_rirrrrrrrrvviii (y 1) py0_1 (y 2) (y 10) (y 19) (y 25) (y 26) (y 30) (y 31) (y 32) o10 o11 py0_12 py0_13 py0_14)), (y 37, .inr (7, o7_rii (y 38) py37_1 py37_2)), (y 38, aJ V 40 fy38)]) (rnV (rest := []) ⟨hx, hb, hml, hown, hg⟩ (k_X4_behind_0 l V y u_12 u_1 0 fy3 fy9 f_13 f_14 f_15 py2_0 py2_1 py2_2 py2_3 py2_4 py2_5 py2_13 py2_14 py2_15 py2_16 py2_17 bu_12 b_10 tf_13 bpy2_1 bpy2_2 bpy2_3 bpy2_4 bpy2_5 bpy2_13 bpy2_14 bpy2_15 bpy2_16 bpy2_17) mt_X4_behind q_3_145 ⟨Nat.le_of_ble_eq_true rfl, Nat.le_of_ble_eq_true rfl⟩ hK hP hD hS hA hE [0, 1, 2, 3, 4, 5, 8] rfl rfl 2 rfl rfl rfl rfl hl.1 rfl (Nat.le_of_ble_eq_true rfl) dX9_fittingWeathers_39 ⟨Nat.le_of_ble_eq_true rfl, Nat.le_of_ble_eq_true rfl⟩) hP hD hS hA [0, 1, 2, 3, 4, 5, 8] [6, 7, 9, 10] rfl rfl rfl (by decide) (fun r_27 w H locs hw hP hD hS => ?_)
      obtain ⟨f_28, f_29, f_30, tf_28, br_27, g_31, rfl⟩ := hw
      have qkn_32 := g_31 D9 hL9 knn_16
      have er_27 : r_27 = bhS D9 u_12 u_1 (0 : Int32) (py2_1 : Int32).toNatClampNeg := qkn_32.1
      have kn_32 := qkn_32.2
      have hP : va_P V.1 vwCl [(y 32, aI V 10 f_6), (y 0, .inr (9, o9_rirrrrrrrrvviii (y 1) py0_1 (y 2) (y 10) (y 19) (y 25) (y 26) (y 30) (y 31) (y 32) o10 o11 py0_12 py0_13 py0_14)), (y 37, .inr (7, o7_rii (y 38) py37_1 py37_2)), (y 38, aJ V 40 fy38), (y 3, aI V 4 fy3), (y 9, aI V 900 fy9), (y 19, .inr (4, o4_rrrrrr (y 2) (y 20) (y 21) (y 22) (y 23) (y 24))), (y 20, aI V 2000 f_28), (y 21, aI V 6 f_29), (y 22, aI V 64 f_30), (y 2, .inr (1, o1_iiiiiirrrrrrriiiii py2_0 py2_1 py2_2 py2_3 py2_4 py2_5 (y 3) (y 4) (y 5) (y 6) (y 7) (y 8) (y 9) py2_13 py2_14 py2_15 py2_16 py2_17))] H := hP
      have hD := cpD hP hD
      refine lv_istore (lv' := [(5, .int r_27), (6, .int u_11), (4, .int u_1), (3, .int u_2), (0, .ref (y 0)), (1, .ref (y 37)), (2, .int a2)]) hx hb dX9_fittingWeathers_42 hl (by decide) rfl (fun ls hl => ?_)
      refine lv_iload hx hb dX9_fittingWeathers_44 (lv_at hl 0 rfl) ?_
      refine lv_iload_n hx hb dX9_fittingWeathers_46 rfl (lv_at hl 6 rfl) ?_
      refine jnI (wr := [(y 32, aI V 10 f_6), (y 0, .inr (9, o9_rirrrrrrrrvviii (y 1) py0_1 (y 2) (y 10) (y 19) (y 25) (y 26) (y 30) (y 31) (y 32) o10 o11 py0_12 py0_13 py0_14)), (y 37, .inr (7, o7_rii (y 38) py37_1 py37_2)), (y 38, aJ V 40 fy38), (y 3, aI V 4 fy3), (y 9, aI V 900 fy9), (y 19, .inr (4, o4_rrrrrr (y 2) (y 20) (y 21) (y 22) (y 23) (y 24))), (y 20, aI V 2000 f_28), (y 21, aI V 6 f_29), (y 22, aI V 64 f_30), (y 2, .inr (1, o1_iiiiiirrrrrrriiiii py2_0 py2_1 py2_2 py2_3 py2_4 py2_5 (y 3) (y 4) (y 5) (y 6) (y 7) (y 8) (y 9) py2_13 py2_14 py2_15 py2_16 py2_17))]) (rnS (rest := []) ⟨hx, hb, hml, hown, hg⟩ (k_X9_stackIn_0 l V r_27 a2 br_27 (iv_w ba2 (by decide))) mt_X9_stackIn q_3_126 ⟨Nat.le_of_ble_eq_true rfl, Nat.le_of_ble_eq_true rfl⟩ hK hP hD hS hA hE [] rfl rfl rfl hl.1 rfl (Nat.le_of_ble_eq_true rfl) dX9_fittingWeathers_47 ⟨Nat.le_of_ble_eq_true rfl, Nat.le_of_ble_eq_true rfl⟩) hP hD hS hA [] [0, 1, 2, 3, 4, 5, 6, 7, 8, 9, 10] rfl rfl rfl (by decide) (fun r_33 w H locs hw hP hD hS => ?_)
      obtain ⟨br_33, er_33, et_34, rfl⟩ := hw
      have hP : va_P V.1 vwCl [(y 32, aI V 10 f_6), (y 0, .inr (9, o9_rirrrrrrrrvviii (y 1) py0_1 (y 2) (y 10) (y 19) (y 25) (y 26) (y 30) (y 31) (y 32) o10 o11 py0_12 py0_13 py0_14)), (y 37, .inr (7, o7_rii (y 38) py37_1 py37_2)), (y 38, aJ V 40 fy38), (y 3, aI V 4 fy3), (y 9, aI V 900 fy9), (y 19, .inr (4, o4_rrrrrr (y 2) (y 20) (y 21) (y 22) (y 23) (y 24))), (y 20, aI V 2000 f_28), (y 21, aI V 6 f_29), (y 22, aI V 64 f_30), (y 2, .inr (1, o1_iiiiiirrrrrrriiiii py2_0 py2_1 py2_2 py2_3 py2_4 py2_5 (y 3) (y 4) (y 5) (y 6) (y 7) (y 8) (y 9) py2_13 py2_14 py2_15 py2_16 py2_17))] H := hP
      have hD := cpD hP hD
      refine lv_i2l hx hb dX9_fittingWeathers_50 rfl ?_
      refine lv_topl (fun j_35 ej_35 => ?_)
      refine lv_aload_n hx hb dX9_fittingWeathers_51 rfl (lv_at hl 5 rfl) ?_
      refine va_get (ci := 7) (v := .ref (y 38)) (C := RX7) (T := TX7) (N := 3) hx hb hg inX7 hown hK hP 2 rfl rfl 0 (by decide) (hg _ q_1_239) (fun _ h9 => h9) rfl dX9_fittingWeathers_52 ?_
      refine lv_iload hx hb dX9_fittingWeathers_55 (lv_at hl 1 rfl) ?_
      refine va_lald hx hb hK hP 3 2 rfl rfl (iv_in b_25 (by decide)) dX9_fittingWeathers_57 ?_
      refine lv_topl (fun j_36 ej_36 => ?_)
      refine W.lcmp hx hb dX9_fittingWeathers_58 ?_
      refine lv_if_eq (tgt := 65) hx hb dX9_fittingWeathers_59 (by decide) (fun _ => ?_) (fun _ => ?_)
      · obtain ⟨x_38, ex_38⟩ : ∃ z9 : Int32, z9 = u_11 + 1 := ⟨_, rfl⟩
        have bx_38 : iv 1 40 x_38 := by rw [ex_38]; exact iv_add b_25 (iv_c (1 : Int32) (a := 1) (b := 1) (by decide)) (by decide)
        refine lv_iinc (v := x_38) (lv' := [(6, .int x_38), (5, .int r_27), (4, .int u_1), (3, .int u_2), (0, .ref (y 0)), (1, .ref (y 37)), (2, .int a2)]) hx hb dX9_fittingWeathers_65 hl (k := 1) rfl (by rw [ex_38]; rfl) (by decide) rfl (fun ls hl => ?_)
        refine lv_goto (tgt := 21) hx hb dX9_fittingWeathers_68 (by decide) ?_
        have hP := subP (ws' := [(y 3, aI V 4 fy3), (y 9, aI V 900 fy9), (y 19, .inr (4, o4_rrrrrr (y 2) (y 20) (y 21) (y 22) (y 23) (y 24))), (y 20, aI V 2000 f_28), (y 21, aI V 6 f_29), (y 22, aI V 64 f_30), (y 32, aI V 10 f_6), (y 0, .inr (9, o9_rirrrrrrrrvviii (y 1) py0_1 (y 2) (y 10) (y 19) (y 25) (y 26) (y 30) (y 31) (y 32) o10 o11 py0_12 py0_13 py0_14)), (y 2, .inr (1, o1_iiiiiirrrrrrriiiii py2_0 py2_1 py2_2 py2_3 py2_4 py2_5 (y 3) (y 4) (y 5) (y 6) (y 7) (y 8) (y 9) py2_13 py2_14 py2_15 py2_16 py2_17)), (y 37, .inr (7, o7_rii (y 38) py37_1 py37_2)), (y 38, aJ V 40 fy38)]) hP [4, 5, 6, 7, 8, 9, 0, 1, 10, 2, 3] rfl
        have hD := subD hP hD [4, 5, 6, 7, 8, 9, 0, 1, 10, 2, 3] rfl rfl
        exact ihn_16 _ _ _ _ (by rw [en_16, ex_38]; exact mu_up b_25 (by decide)) ⟨x_38, r_27, f_28, f_29, f_30, (iv_w bx_38 (by decide)), br_27, tf_28, kn_32, rfl, hP, hD, hS, lv_sub hl [0, 1, 2, 3, 4, 5, 6] rfl⟩
      · refine lv_goto (tgt := 71) hx hb dX9_fittingWeathers_62 (by decide) ?_
        refine lv_aload_n hx hb dX9_fittingWeathers_71 rfl (lv_at hl 4 rfl) ?_
        refine va_get (ci := 9) (v := .ref (y 32)) (C := RX9) (T := TX9) (N := 15) hx hb hg inX9 hown hK hP 1 rfl rfl 9 (by decide) (hg _ q_2_45) (fun _ h9 => h9) rfl dX9_fittingWeathers_72 ?_
        refine lv_iload hx hb dX9_fittingWeathers_75 (lv_at hl 2 rfl) ?_
        refine lv_iload hx hb dX9_fittingWeathers_77 (lv_at hl 0 rfl) ?_
        refine va_iast hx hb hK hP hD hS 0 0 rfl rfl (iv_in b_10 (by decide)) dX9_fittingWeathers_79 (fun H locs hP hD hS => ?_)
        obtain ⟨f_39, tf_39, hP, hD⟩ : ∃ f_39 : Nat → Int32, (∀ j, iv 0 9999 (f_39 j)) ∧ va_P V.1 vwCl [(y 32, aI V 10 f_39), (y 0, .inr (9, o9_rirrrrrrrrvviii (y 1) py0_1 (y 2) (y 10) (y 19) (y 25) (y 26) (y 30) (y 31) (y 32) o10 o11 py0_12 py0_13 py0_14)), (y 37, .inr (7, o7_rii (y 38) py37_1 py37_2)), (y 38, aJ V 40 fy38), (y 3, aI V 4 fy3), (y 9, aI V 900 fy9), (y 19, .inr (4, o4_rrrrrr (y 2) (y 20) (y 21) (y 22) (y 23) (y 24))), (y 20, aI V 2000 f_28), (y 21, aI V 6 f_29), (y 22, aI V 64 f_30), (y 2, .inr (1, o1_iiiiiirrrrrrriiiii py2_0 py2_1 py2_2 py2_3 py2_4 py2_5 (y 3) (y 4) (y 5) (y 6) (y 7) (y 8) (y 9) py2_13 py2_14 py2_15 py2_16 py2_17))] H ∧ va_D A [(y 32, aI V 10 f_39), (y 0, .inr (9, o9_rirrrrrrrrvviii (y 1) py0_1 (y 2) (y 10) (y 19) (y 25) (y 26) (y 30) (y 31) (y 32) o10 o11 py0_12 py0_13 py0_14)), (y 37, .inr (7, o7_rii (y 38) py37_1 py37_2)), (y 38, aJ V 40 fy38), (y 3, aI V 4 fy3), (y 9, aI V 900 fy9), (y 19, .inr (4, o4_rrrrrr (y 2) (y 20) (y 21) (y 22) (y 23) (y 24))), (y 20, aI V 2000 f_28), (y 21, aI V 6 f_29), (y 22, aI V 64 f_30), (y 2, .inr (1, o1_iiiiiirrrrrrriiiii py2_0 py2_1 py2_2 py2_3 py2_4 py2_5 (y 3) (y 4) (y 5) (y 6) (y 7) (y 8) (y 9) py2_13 py2_14 py2_15 py2_16 py2_17))] := ⟨_, ivU tf_6 _ br_27, hP, hD⟩
        refine lv_iload hx hb dX9_fittingWeathers_80 (lv_at hl 1 rfl) ?_
        refine lv_aload_n hx hb dX9_fittingWeathers_82 rfl (lv_at hl 5 rfl) ?_
        refine va_get (ci := 7) (v := .int py37_1) (C := RX7) (T := TX7) (N := 3) hx hb hg inX7 hown hK hP 2 rfl rfl 1 (by decide) (hg _ q_2_2) (fun _ h9 => h9) rfl dX9_fittingWeathers_83 ?_
        refine lv_icmp_ne (tgt := 96) hx hb dX9_fittingWeathers_86 (by decide) (fun c_40 => ?_) (fun c_40 => ?_)
        · obtain ⟨x_41, ex_41⟩ : ∃ z9 : Int32, z9 = u_1 + 1 := ⟨_, rfl⟩
          have bx_41 : iv 1 10 x_41 := by rw [ex_41]; exact iv_add b_10 (iv_c (1 : Int32) (a := 1) (b := 1) (by decide)) (by decide)
          refine lv_iinc (v := x_41) (lv' := [(4, .int x_41), (5, .int r_27), (6, .int u_11), (3, .int u_2), (0, .ref (y 0)), (1, .ref (y 37)), (2, .int a2)]) hx hb dX9_fittingWeathers_96 hl (k := 2) rfl (by rw [ex_41]; rfl) (by decide) rfl (fun ls hl => ?_)
          refine lv_goto (tgt := 5) hx hb dX9_fittingWeathers_99 (by decide) ?_
          have hP := subP (ws' := [(y 3, aI V 4 fy3), (y 9, aI V 900 fy9), (y 19, .inr (4, o4_rrrrrr (y 2) (y 20) (y 21) (y 22) (y 23) (y 24))), (y 20, aI V 2000 f_28), (y 21, aI V 6 f_29), (y 22, aI V 64 f_30), (y 32, aI V 10 f_39), (y 0, .inr (9, o9_rirrrrrrrrvviii (y 1) py0_1 (y 2) (y 10) (y 19) (y 25) (y 26) (y 30) (y 31) (y 32) o10 o11 py0_12 py0_13 py0_14)), (y 2, .inr (1, o1_iiiiiirrrrrrriiiii py2_0 py2_1 py2_2 py2_3 py2_4 py2_5 (y 3) (y 4) (y 5) (y 6) (y 7) (y 8) (y 9) py2_13 py2_14 py2_15 py2_16 py2_17)), (y 37, .inr (7, o7_rii (y 38) py37_1 py37_2)), (y 38, aJ V 40 fy38)]) hP [4, 5, 6, 7, 8, 9, 0, 1, 10, 2, 3] rfl
          have hD := subD hP hD [4, 5, 6, 7, 8, 9, 0, 1, 10, 2, 3] rfl rfl
          exact ihn_7 _ _ _ _ (by rw [en_7, ex_41]; exact mu_up b_10 (by decide)) ⟨x_41, u_2, f_28, f_29, f_30, f_39, (iv_w bx_41 (by decide)), tf_28, tf_39, kn_32, rfl, hP, hD, hS, lv_sub hl [0, 3, 4, 5, 6] rfl⟩
        · have b_42 : iv 1 40 u_11 := iv_q c_40 b_26
          refine lv_iload_n hx hb dX9_fittingWeathers_89 rfl (lv_at hl 3 rfl) ?_
          refine lv_iconst (v := 1) hx hb dX9_fittingWeathers_90 (by decide) ?_
          refine lv_iload hx hb dX9_fittingWeathers_91 (lv_at hl 2 rfl) ?_
          refine lv_ishl hx hb dX9_fittingWeathers_93 ?_
          refine lv_topi (fun x_43 ex_43 => ?_)
          refine lv_ior hx hb dX9_fittingWeathers_94 ?_
          refine lv_topi (fun x_44 ex_44 => ?_)
          refine lv_istore_n (lv' := [(3, .int x_44), (5, .int r_27), (6, .int u_11), (4, .int u_1), (0, .ref (y 0)), (1, .ref (y 37)), (2, .int a2)]) hx hb dX9_fittingWeathers_95 rfl hl (by decide) rfl (fun ls hl => ?_)
          obtain ⟨x_45, ex_45⟩ : ∃ z9 : Int32, z9 = u_1 + 1 := ⟨_, rfl⟩
          have bx_45 : iv 1 10 x_45 := by rw [ex_45]; exact iv_add b_10 (iv_c (1 : Int32) (a := 1) (b := 1) (by decide)) (by decide)
          refine lv_iinc (v := x_45) (lv' := [(4, .int x_45), (3, .int x_44), (5, .int r_27), (6, .int u_11), (0, .ref (y 0)), (1, .ref (y 37)), (2, .int a2)]) hx hb dX9_fittingWeathers_96 hl (k := 3) rfl (by rw [ex_45]; rfl) (by decide) rfl (fun ls hl => ?_)
          refine lv_goto (tgt := 5) hx hb dX9_fittingWeathers_99 (by decide) ?_
          have hP := subP (ws' := [(y 3, aI V 4 fy3), (y 9, aI V 900 fy9), (y 19, .inr (4, o4_rrrrrr (y 2) (y 20) (y 21) (y 22) (y 23) (y 24))), (y 20, aI V 2000 f_28), (y 21, aI V 6 f_29), (y 22, aI V 64 f_30), (y 32, aI V 10 f_39), (y 0, .inr (9, o9_rirrrrrrrrvviii (y 1) py0_1 (y 2) (y 10) (y 19) (y 25) (y 26) (y 30) (y 31) (y 32) o10 o11 py0_12 py0_13 py0_14)), (y 2, .inr (1, o1_iiiiiirrrrrrriiiii py2_0 py2_1 py2_2 py2_3 py2_4 py2_5 (y 3) (y 4) (y 5) (y 6) (y 7) (y 8) (y 9) py2_13 py2_14 py2_15 py2_16 py2_17)), (y 37, .inr (7, o7_rii (y 38) py37_1 py37_2)), (y 38, aJ V 40 fy38)]) hP [4, 5, 6, 7, 8, 9, 0, 1, 10, 2, 3] rfl
          have hD := subD hP hD [4, 5, 6, 7, 8, 9, 0, 1, 10, 2, 3] rfl rfl
          exact ihn_7 _ _ _ _ (by rw [en_7, ex_45]; exact mu_up b_10 (by decide)) ⟨x_45, x_44, f_28, f_29, f_30, f_39, (iv_w bx_45 (by decide)), tf_28, tf_39, kn_32, rfl, hP, hD, hS, lv_sub hl [0, 1, 4, 5, 6] rfl⟩
set_option maxHeartbeats 4000000 in
set_option maxRecDepth 100000 in
theorem k_X9_fittingWeathers_3 (l : Launch) (V : GV) (y : Nat → Nat) (D9 : Nat → Int32) (a2 : Int32) (fy3 : Nat → Int32) (fy9 : Nat → Int32) (fy20 : Nat → Int32) (fy21 : Nat → Int32) (fy22 : Nat → Int32) (fy32 : Nat → Int32) (py0_1 : Int32) (o10 : Value) (o11 : Value) (py0_12 : Int32) (py0_13 : Int32) (py0_14 : Int32) (py2_0 : Int32) (py2_1 : Int32) (py2_2 : Int32) (py2_3 : Int32) (py2_4 : Int32) (py2_5 : Int32) (py2_13 : Int32) (py2_14 : Int32) (py2_15 : Int32) (py2_16 : Int32) (py2_17 : Int32) (py39_1 : Int32) (py39_2 : Int32) (fy40 : Nat → Int64) (ba2 : iv 0 3 a2) (tfy20 : ∀ j, iv 0 10 (fy20 j)) (tfy32 : ∀ j, iv 0 9999 (fy32 j)) (bpy0_1 : iv 0 900 py0_1) (bpy0_12 : iv 0 9999 py0_12) (bpy0_13 : iv 0 9 py0_13) (bpy2_1 : iv 0 4 py2_1) (bpy2_2 : iv 0 4 py2_2) (bpy2_3 : iv 0 8 py2_3) (bpy2_4 : iv 0 9999 py2_4) (bpy2_5 : iv 0 9 py2_5) (bpy2_13 : iv 0 900 py2_13) (bpy2_14 : iv 0 900 py2_14) (bpy2_15 : iv 0 900 py2_15) (bpy2_16 : iv 0 900 py2_16) (bpy2_17 : iv 0 900 py2_17) (bpy39_1 : iv (-1) 40 py39_1) (hL9 : LW D9 fy3 fy9 py2_14 py2_15 py2_16 py2_17) (hK9 : KN D9 fy20) : Ct l V yX9_fittingWeathers (.code yX9_fittingWeathers cX9_fittingWeathers 7 (some .int)) 6 [.ref (y 0), .ref (y 39), .int a2] [(y 3, aI V 4 fy3), (y 9, aI V 900 fy9), (y 19, .inr (4, o4_rrrrrr (y 2) (y 20) (y 21) (y 22) (y 23) (y 24))), (y 20, aI V 2000 fy20), (y 21, aI V 6 fy21), (y 22, aI V 64 fy22), (y 32, aI V 10 fy32), (y 0, .inr (9, o9_rirrrrrrrrvviii (y 1) py0_1 (y 2) (y 10) (y 19) (y 25) (y 26) (y 30) (y 31) (y 32) o10 o11 py0_12 py0_13 py0_14)), (y 2, .inr (1, o1_iiiiiirrrrrrriiiii py2_0 py2_1 py2_2 py2_3 py2_4 py2_5 (y 3) (y 4) (y 5) (y 6) (y 7) (y 8) (y 9) py2_13 py2_14 py2_15 py2_16 py2_17)), (y 39, .inr (7, o7_rii (y 40) py39_1 py39_2)), (y 40, aJ V 40 fy40)] 0 0 (QI V (fun (r : Int32) (w : va_W) => ∃ (g0 : Nat → Int32) (g1 : Nat → Int32) (g2 : Nat → Int32) (g3 : Nat → Int32), (∀ j, iv 0 10 (g0 j)) ∧ (∀ j, iv 0 9999 (g3 j)) ∧ KN D9 g0 ∧ w = [(y 3, aI V 4 fy3), (y 9, aI V 900 fy9), (y 19, .inr (4, o4_rrrrrr (y 2) (y 20) (y 21) (y 22) (y 23) (y 24))), (y 20, aI V 2000 g0), (y 21, aI V 6 g1), (y 22, aI V 64 g2), (y 32, aI V 10 g3), (y 0, .inr (9, o9_rirrrrrrrrvviii (y 1) py0_1 (y 2) (y 10) (y 19) (y 25) (y 26) (y 30) (y 31) (y 32) o10 o11 py0_12 py0_13 py0_14)), (y 2, .inr (1, o1_iiiiiirrrrrrriiiii py2_0 py2_1 py2_2 py2_3 py2_4 py2_5 (y 3) (y 4) (y 5) (y 6) (y 7) (y 8) (y 9) py2_13 py2_14 py2_15 py2_16 py2_17)), (y 39, .inr (7, o7_rii (y 40) py39_1 py39_2)), (y 40, aJ V 40 fy40)])) := by
  refine Ct.of (by decide) (Nat.le_of_ble_eq_true rfl) (fun p e s m below meth c A ls hx hb hr hml hown hlk hnm hg hP hK hD hE hA hS hl => ?_)
  have hl : lv_has ls 7 [(0, .ref (y 0)), (1, .ref (y 39)), (2, .int a2)] := hl
  refine lv_iconst (v := 0) hx hb dX9_fittingWeathers_0 (by decide) ?_
  refine lv_istore_n (lv' := [(3, .int 0), (0, .ref (y 0)), (1, .ref (y 39)), (2, .int a2)]) hx hb dX9_fittingWeathers_1 rfl hl (by decide) rfl (fun ls hl => ?_)
  refine lv_iconst (v := 0) hx hb dX9_fittingWeathers_2 (by decide) ?_
  refine lv_istore (lv' := [(4, .int 0), (3, .int 0), (0, .ref (y 0)), (1, .ref (y 39)), (2, .int a2)]) hx hb dX9_fittingWeathers_3 hl (by decide) rfl (fun ls hl => ?_)
  refine loopF (X := fun (n_7 : Nat) (H : Heap) (locs : List Loc) (ls : Array Slot) => ∃ (u_1 : Int32) (u_2 : Int32) (f_3 : Nat → Int32) (f_4 : Nat → Int32) (f_5 : Nat → Int32) (f_6 : Nat → Int32), (iv 0 10 u_1) ∧ (∀ j, iv 0 10 (f_3 j)) ∧ (∀ j, iv 0 9999 (f_6 j)) ∧ KN D9 f_3 ∧ n_7 = (2147483647 - (u_1 : Int32).toInt).toNat ∧ va_P V.1 vwCl [(y 3, aI V 4 fy3), (y 9, aI V 900 fy9), (y 19, .inr (4, o4_rrrrrr (y 2) (y 20) (y 21) (y 22) (y 23) (y 24))), (y 20, aI V 2000 f_3), (y 21, aI V 6 f_4), (y 22, aI V 64 f_5), (y 32, aI V 10 f_6), (y 0, .inr (9, o9_rirrrrrrrrvviii (y 1) py0_1 (y 2) (y 10) (y 19) (y 25) (y 26) (y 30) (y 31) (y 32) o10 o11 py0_12 py0_13 py0_14)), (y 2, .inr (1, o1_iiiiiirrrrrrriiiii py2_0 py2_1 py2_2 py2_3 py2_4 py2_5 (y 3) (y 4) (y 5) (y 6) (y 7) (y 8) (y 9) py2_13 py2_14 py2_15 py2_16 py2_17)), (y 39, .inr (7, o7_rii (y 40) py39_1 py39_2)), (y 40, aJ V 40 fy40)] H ∧ va_D A [(y 3, aI V 4 fy3), (y 9, aI V 900 fy9), (y 19, .inr (4, o4_rrrrrr (y 2) (y 20) (y 21) (y 22) (y 23) (y 24))), (y 20, aI V 2000 f_3), (y 21, aI V 6 f_4), (y 22, aI V 64 f_5), (y 32, aI V 10 f_6), (y 0, .inr (9, o9_rirrrrrrrrvviii (y 1) py0_1 (y 2) (y 10) (y 19) (y 25) (y 26) (y 30) (y 31) (y 32) o10 o11 py0_12 py0_13 py0_14)), (y 2, .inr (1, o1_iiiiiirrrrrrriiiii py2_0 py2_1 py2_2 py2_3 py2_4 py2_5 (y 3) (y 4) (y 5) (y 6) (y 7) (y 8) (y 9) py2_13 py2_14 py2_15 py2_16 py2_17)), (y 39, .inr (7, o7_rii (y 40) py39_1 py39_2)), (y 40, aJ V 40 fy40)] ∧ va_S A s.heap H locs ∧ lv_has ls 7 [(4, .int u_1), (3, .int u_2), (0, .ref (y 0)), (1, .ref (y 39)), (2, .int a2)]) (g := fun ls => F0 m 5 ls []) (fun n_7 H locs ls hX ihn_7 => ?_) _ ⟨0, 0, fy20, fy21, fy22, fy32, (iv_c (0 : Int32) (by decide)), tfy20, tfy32, hK9, rfl, hP, hD, hS, lv_sub hl [0, 1, 2, 3, 4] rfl⟩
  obtain ⟨u_1, u_2, f_3, f_4, f_5, f_6, bu_1, tf_3, tf_6, knn_7, en_7, hP, hD, hS, hl⟩ := hX
  refine lv_iload hx hb dX9_fittingWeathers_5 (lv_at hl 0 rfl) ?_
  refine lv_bipush (v := 10) hx hb dX9_fittingWeathers_7 (by decide) ?_
  refine lv_icmp_ge (tgt := 102) hx hb dX9_fittingWeathers_9 (by decide) (fun c_8 => ?_) (fun c_8 => ?_)
  · have b_9 : iv 10 10 u_1 := iv_e2 c_8 (iv_c (10 : Int32) (a := 10) (b := 10) (by decide)) bu_1 (by decide)
    refine lv_iload_n hx hb dX9_fittingWeathers_102 rfl (lv_at hl 1 rfl) ?_
    exact fiI hx hb hr hlk hK hP hD hS dX9_fittingWeathers_103 (Nat.le_of_ble_eq_true rfl) (Nat.le_of_ble_eq_true rfl) (⟨f_3, f_4, f_5, f_6, tf_3, tf_6, knn_7, rfl⟩)
  · have b_10 : iv 0 9 u_1 := iv_l1 (Int32.not_le.mp c_8) bu_1 (iv_c (10 : Int32) (a := 10) (b := 10) (by decide)) (by decide)
    refine lv_aload_n hx hb dX9_fittingWeathers_12 rfl (lv_at hl 2 rfl) ?_
    refine va_get (ci := 9) (v := .int py0_12) (C := RX9) (T := TX9) (N := 15) hx hb hg inX9 hown hK hP 7 rfl rfl 12 (by decide) (hg _ q_2_48) (fun _ h9 => h9) rfl dX9_fittingWeathers_13 ?_
    refine lv_istore (lv' := [(5, .int py0_12), (4, .int u_1), (3, .int u_2), (0, .ref (y 0)), (1, .ref (y 39)), (2, .int a2)]) hx hb dX9_fittingWeathers_16 hl (by decide) rfl (fun ls hl => ?_)
    refine lv_iconst (v := 0) hx hb dX9_fittingWeathers_18 (by decide) ?_
    refine lv_istore (lv' := [(6, .int 0), (5, .int py0_12), (4, .int u_1), (3, .int u_2), (0, .ref (y 0)), (1, .ref (y 39)), (2, .int a2)]) hx hb dX9_fittingWeathers_19 hl (by decide) rfl (fun ls hl => ?_)
    refine loopF (X := fun (n_16 : Nat) (H : Heap) (locs : List Loc) (ls : Array Slot) => ∃ (u_11 : Int32) (u_12 : Int32) (f_13 : Nat → Int32) (f_14 : Nat → Int32) (f_15 : Nat → Int32), (iv 0 2147483647 u_11) ∧ (iv 0 9999 u_12) ∧ (∀ j, iv 0 10 (f_13 j)) ∧ KN D9 f_13 ∧ n_16 = (2147483647 - (u_11 : Int32).toInt).toNat ∧ va_P V.1 vwCl [(y 3, aI V 4 fy3), (y 9, aI V 900 fy9), (y 19, .inr (4, o4_rrrrrr (y 2) (y 20) (y 21) (y 22) (y 23) (y 24))), (y 20, aI V 2000 f_13), (y 21, aI V 6 f_14), (y 22, aI V 64 f_15), (y 32, aI V 10 f_6), (y 0, .inr (9, o9_rirrrrrrrrvviii (y 1) py0_1 (y 2) (y 10) (y 19) (y 25) (y 26) (y 30) (y 31) (y 32) o10 o11 py0_12 py0_13 py0_14)), (y 2, .inr (1, o1_iiiiiirrrrrrriiiii py2_0 py2_1 py2_2 py2_3 py2_4 py2_5 (y 3) (y 4) (y 5) (y 6) (y 7) (y 8) (y 9) py2_13 py2_14 py2_15 py2_16 py2_17)), (y 39, .inr (7, o7_rii (y 40) py39_1 py39_2)), (y 40, aJ V 40 fy40)] H ∧ va_D A [(y 3, aI V 4 fy3), (y 9, aI V 900 fy9), (y 19, .inr (4, o4_rrrrrr (y 2) (y 20) (y 21) (y 22) (y 23) (y 24))), (y 20, aI V 2000 f_13), (y 21, aI V 6 f_14), (y 22, aI V 64 f_15), (y 32, aI V 10 f_6), (y 0, .inr (9, o9_rirrrrrrrrvviii (y 1) py0_1 (y 2) (y 10) (y 19) (y 25) (y 26) (y 30) (y 31) (y 32) o10 o11 py0_12 py0_13 py0_14)), (y 2, .inr (1, o1_iiiiiirrrrrrriiiii py2_0 py2_1 py2_2 py2_3 py2_4 py2_5 (y 3) (y 4) (y 5) (y 6) (y 7) (y 8) (y 9) py2_13 py2_14 py2_15 py2_16 py2_17)), (y 39, .inr (7, o7_rii (y 40) py39_1 py39_2)), (y 40, aJ V 40 fy40)] ∧ va_S A s.heap H locs ∧ lv_has ls 7 [(6, .int u_11), (5, .int u_12), (4, .int u_1), (3, .int u_2), (0, .ref (y 0)), (1, .ref (y 39)), (2, .int a2)]) (g := fun ls => F0 m 21 ls []) (fun n_16 H locs ls hX ihn_16 => ?_) _ ⟨0, py0_12, f_3, f_4, f_5, (iv_c (0 : Int32) (by decide)), bpy0_12, tf_3, knn_7, rfl, hP, hD, hS, lv_sub hl [0, 1, 2, 3, 4, 5, 6] rfl⟩
    obtain ⟨u_11, u_12, f_13, f_14, f_15, bu_11, bu_12, tf_13, knn_16, en_16, hP, hD, hS, hl⟩ := hX
    refine lv_iload hx hb dX9_fittingWeathers_21 (lv_at hl 0 rfl) ?_
    refine lv_aload_n hx hb dX9_fittingWeathers_23 rfl (lv_at hl 5 rfl) ?_
    refine va_get (ci := 7) (v := .int py39_1) (C := RX7) (T := TX7) (N := 3) hx hb hg inX7 hown hK hP 9 rfl rfl 1 (by decide) (hg _ q_2_2) (fun _ h9 => h9) rfl dX9_fittingWeathers_24 ?_
    refine lv_icmp_ge (tgt := 71) hx hb dX9_fittingWeathers_27 (by decide) (fun c_17 => ?_) (fun c_17 => ?_)
    · refine lv_aload_n hx hb dX9_fittingWeathers_71 rfl (lv_at hl 4 rfl) ?_
      refine va_get (ci := 9) (v := .ref (y 32)) (C := RX9) (T := TX9) (N := 15) hx hb hg inX9 hown hK hP 7 rfl rfl 9 (by decide) (hg _ q_2_45) (fun _ h9 => h9) rfl dX9_fittingWeathers_72 ?_
      refine lv_iload hx hb dX9_fittingWeathers_75 (lv_at hl 2 rfl) ?_
      refine lv_iload hx hb dX9_fittingWeathers_77 (lv_at hl 1 rfl) ?_
      refine va_iast hx hb hK hP hD hS 6 0 rfl rfl (iv_in b_10 (by decide)) dX9_fittingWeathers_79 (fun H locs hP hD hS => ?_)
      obtain ⟨f_18, tf_18, hP, hD⟩ : ∃ f_18 : Nat → Int32, (∀ j, iv 0 9999 (f_18 j)) ∧ va_P V.1 vwCl [(y 3, aI V 4 fy3), (y 9, aI V 900 fy9), (y 19, .inr (4, o4_rrrrrr (y 2) (y 20) (y 21) (y 22) (y 23) (y 24))), (y 20, aI V 2000 f_13), (y 21, aI V 6 f_14), (y 22, aI V 64 f_15), (y 32, aI V 10 f_18), (y 0, .inr (9, o9_rirrrrrrrrvviii (y 1) py0_1 (y 2) (y 10) (y 19) (y 25) (y 26) (y 30) (y 31) (y 32) o10 o11 py0_12 py0_13 py0_14)), (y 2, .inr (1, o1_iiiiiirrrrrrriiiii py2_0 py2_1 py2_2 py2_3 py2_4 py2_5 (y 3) (y 4) (y 5) (y 6) (y 7) (y 8) (y 9) py2_13 py2_14 py2_15 py2_16 py2_17)), (y 39, .inr (7, o7_rii (y 40) py39_1 py39_2)), (y 40, aJ V 40 fy40)] H ∧ va_D A [(y 3, aI V 4 fy3), (y 9, aI V 900 fy9), (y 19, .inr (4, o4_rrrrrr (y 2) (y 20) (y 21) (y 22) (y 23) (y 24))), (y 20, aI V 2000 f_13), (y 21, aI V 6 f_14), (y 22, aI V 64 f_15), (y 32, aI V 10 f_18), (y 0, .inr (9, o9_rirrrrrrrrvviii (y 1) py0_1 (y 2) (y 10) (y 19) (y 25) (y 26) (y 30) (y 31) (y 32) o10 o11 py0_12 py0_13 py0_14)), (y 2, .inr (1, o1_iiiiiirrrrrrriiiii py2_0 py2_1 py2_2 py2_3 py2_4 py2_5 (y 3) (y 4) (y 5) (y 6) (y 7) (y 8) (y 9) py2_13 py2_14 py2_15 py2_16 py2_17)), (y 39, .inr (7, o7_rii (y 40) py39_1 py39_2)), (y 40, aJ V 40 fy40)] := ⟨_, ivU tf_6 _ bu_12, hP, hD⟩
      refine lv_iload hx hb dX9_fittingWeathers_80 (lv_at hl 0 rfl) ?_
      refine lv_aload_n hx hb dX9_fittingWeathers_82 rfl (lv_at hl 5 rfl) ?_
      refine va_get (ci := 7) (v := .int py39_1) (C := RX7) (T := TX7) (N := 3) hx hb hg inX7 hown hK hP 9 rfl rfl 1 (by decide) (hg _ q_2_2) (fun _ h9 => h9) rfl dX9_fittingWeathers_83 ?_
      refine lv_icmp_ne (tgt := 96) hx hb dX9_fittingWeathers_86 (by decide) (fun c_19 => ?_) (fun c_19 => ?_)
      · obtain ⟨x_20, ex_20⟩ : ∃ z9 : Int32, z9 = u_1 + 1 := ⟨_, rfl⟩
        have bx_20 : iv 1 10 x_20 := by rw [ex_20]; exact iv_add b_10 (iv_c (1 : Int32) (a := 1) (b := 1) (by decide)) (by decide)
        refine lv_iinc (v := x_20) (lv' := [(4, .int x_20), (6, .int u_11), (5, .int u_12), (3, .int u_2), (0, .ref (y 0)), (1, .ref (y 39)), (2, .int a2)]) hx hb dX9_fittingWeathers_96 hl (k := 2) rfl (by rw [ex_20]; rfl) (by decide) rfl (fun ls hl => ?_)
        refine lv_goto (tgt := 5) hx hb dX9_fittingWeathers_99 (by decide) ?_
        exact ihn_7 _ _ _ _ (by rw [en_7, ex_20]; exact mu_up b_10 (by decide)) ⟨x_20, u_2, f_13, f_14, f_15, f_18, (iv_w bx_20 (by decide)), tf_13, tf_18, knn_16, rfl, hP, hD, hS, lv_sub hl [0, 3, 4, 5, 6] rfl⟩
      · have b_21 : iv (-1) 40 u_11 := iv_q c_19 bpy39_1
        refine lv_iload_n hx hb dX9_fittingWeathers_89 rfl (lv_at hl 3 rfl) ?_
        refine lv_iconst (v := 1) hx hb dX9_fittingWeathers_90 (by decide) ?_
        refine lv_iload hx hb dX9_fittingWeathers_91 (lv_at hl 2 rfl) ?_
        refine lv_ishl hx hb dX9_fittingWeathers_93 ?_
        refine lv_topi (fun x_22 ex_22 => ?_)
        refine lv_ior hx hb dX9_fittingWeathers_94 ?_
        refine lv_topi (fun x_23 ex_23 => ?_)
        refine lv_istore_n (lv' := [(3, .int x_23), (6, .int u_11), (5, .int u_12), (4, .int u_1), (0, .ref (y 0)), (1, .ref (y 39)), (2, .int a2)]) hx hb dX9_fittingWeathers_95 rfl hl (by decide) rfl (fun ls hl => ?_)
        obtain ⟨x_24, ex_24⟩ : ∃ z9 : Int32, z9 = u_1 + 1 := ⟨_, rfl⟩
        have bx_24 : iv 1 10 x_24 := by rw [ex_24]; exact iv_add b_10 (iv_c (1 : Int32) (a := 1) (b := 1) (by decide)) (by decide)
        refine lv_iinc (v := x_24) (lv' := [(4, .int x_24), (3, .int x_23), (6, .int u_11), (5, .int u_12), (0, .ref (y 0)), (1, .ref (y 39)), (2, .int a2)]) hx hb dX9_fittingWeathers_96 hl (k := 3) rfl (by rw [ex_24]; rfl) (by decide) rfl (fun ls hl => ?_)
        refine lv_goto (tgt := 5) hx hb dX9_fittingWeathers_99 (by decide) ?_
        exact ihn_7 _ _ _ _ (by rw [en_7, ex_24]; exact mu_up b_10 (by decide)) ⟨x_24, x_23, f_13, f_14, f_15, f_18, (iv_w bx_24 (by decide)), tf_13, tf_18, knn_16, rfl, hP, hD, hS, lv_sub hl [0, 1, 4, 5, 6] rfl⟩
    · have b_25 : iv 0 39 u_11 := iv_l1 (Int32.not_le.mp c_17) bu_11 bpy39_1 (by decide)
      have b_26 : iv 1 40 py39_1 := iv_l2 (Int32.not_le.mp c_17) bu_11 bpy39_1 (by decide)
      refine lv_aload_n hx hb dX9_fittingWeathers_30 rfl (lv_at hl 4 rfl) ?_
      refine va_get (ci := 9) (v := .ref (y 19)) (C := RX9) (T := TX9) (N := 15) hx hb hg inX9 hown hK hP 7 rfl rfl 4 (by decide) (hg _ q_2_40) (fun _ h9 => h9) rfl dX9_fittingWeathers_31 ?_
      refine lv_iload hx hb dX9_fittingWeathers_34 (lv_at hl 1 rfl) ?_
      refine lv_iload hx hb dX9_fittingWeathers_36 (lv_at hl 2 rfl) ?_
      refine lv_iconst (v := 0) hx hb dX9_fittingWeathers_38 (by decide) ?_
      refine jnI (wr := [(y 32, aI V 10 f_6), (y 0, .inr (9, o9_rirrrrrrrrvviii (y 1) py0_1 (y 2) (y 10) (y 19) (y 25) (y 26) (y 30) (y 31) (y 32) o10 o11 py0_12 py0_13 py0_14)), (y 39, .inr (7, o7_rii (y 40) py39_1 py39_2)), (y 40, aJ V 40 fy40)]) (rnV (rest := []) ⟨hx, hb, hml, hown, hg⟩ (k_X4_behind_0 l V y u_12 u_1 0 fy3 fy9 f_13 f_14 f_15 py2_0 py2_1 py2_2 py2_3 py2_4 py2_5 py2_13 py2_14 py2_15 py2_16 py2_17 bu_12 b_10 tf_13 bpy2_1 bpy2_2 bpy2_3 bpy2_4 bpy2_5 bpy2_13 bpy2_14 bpy2_15 bpy2_16 bpy2_17) mt_X4_behind q_3_145 ⟨Nat.le_of_ble_eq_true rfl, Nat.le_of_ble_eq_true rfl⟩ hK hP hD hS hA hE [0, 1, 2, 3, 4, 5, 8] rfl rfl 2 rfl rfl rfl rfl hl.1 rfl (Nat.le_of_ble_eq_true rfl) dX9_fittingWeathers_39 ⟨Nat.le_of_ble_eq_true rfl, Nat.le_of_ble_eq_true rfl⟩) hP hD hS hA [0, 1, 2, 3, 4, 5, 8] [6, 7, 9, 10] rfl rfl rfl (by decide) (fun r_27 w H locs hw hP hD hS => ?_)
      obtain ⟨f_28, f_29, f_30, tf_28, br_27, g_31, rfl⟩ := hw
      have qkn_32 := g_31 D9 hL9 knn_16
      have er_27 : r_27 = bhS D9 u_12 u_1 (0 : Int32) (py2_1 : Int32).toNatClampNeg := qkn_32.1
      have kn_32 := qkn_32.2
      have hP : va_P V.1 vwCl [(y 32, aI V 10 f_6), (y 0, .inr (9, o9_rirrrrrrrrvviii (y 1) py0_1 (y 2) (y 10) (y 19) (y 25) (y 26) (y 30) (y 31) (y 32) o10 o11 py0_12 py0_13 py0_14)), (y 39, .inr (7, o7_rii (y 40) py39_1 py39_2)), (y 40, aJ V 40 fy40), (y 3, aI V 4 fy3), (y 9, aI V 900 fy9), (y 19, .inr (4, o4_rrrrrr (y 2) (y 20) (y 21) (y 22) (y 23) (y 24))), (y 20, aI V 2000 f_28), (y 21, aI V 6 f_29), (y 22, aI V 64 f_30), (y 2, .inr (1, o1_iiiiiirrrrrrriiiii py2_0 py2_1 py2_2 py2_3 py2_4 py2_5 (y 3) (y 4) (y 5) (y 6) (y 7) (y 8) (y 9) py2_13 py2_14 py2_15 py2_16 py2_17))] H := hP
      have hD := cpD hP hD
      refine lv_istore (lv' := [(5, .int r_27), (6, .int u_11), (4, .int u_1), (3, .int u_2), (0, .ref (y 0)), (1, .ref (y 39)), (2, .int a2)]) hx hb dX9_fittingWeathers_42 hl (by decide) rfl (fun ls hl => ?_)
      refine lv_iload hx hb dX9_fittingWeathers_44 (lv_at hl 0 rfl) ?_
      refine lv_iload_n hx hb dX9_fittingWeathers_46 rfl (lv_at hl 6 rfl) ?_
      refine jnI (wr := [(y 32, aI V 10 f_6), (y 0, .inr (9, o9_rirrrrrrrrvviii (y 1) py0_1 (y 2) (y 10) (y 19) (y 25) (y 26) (y 30) (y 31) (y 32) o10 o11 py0_12 py0_13 py0_14)), (y 39, .inr (7, o7_rii (y 40) py39_1 py39_2)), (y 40, aJ V 40 fy40), (y 3, aI V 4 fy3), (y 9, aI V 900 fy9), (y 19, .inr (4, o4_rrrrrr (y 2) (y 20) (y 21) (y 22) (y 23) (y 24))), (y 20, aI V 2000 f_28), (y 21, aI V 6 f_29), (y 22, aI V 64 f_30), (y 2, .inr (1, o1_iiiiiirrrrrrriiiii py2_0 py2_1 py2_2 py2_3 py2_4 py2_5 (y 3) (y 4) (y 5) (y 6) (y 7) (y 8) (y 9) py2_13 py2_14 py2_15 py2_16 py2_17))]) (rnS (rest := []) ⟨hx, hb, hml, hown, hg⟩ (k_X9_stackIn_0 l V r_27 a2 br_27 (iv_w ba2 (by decide))) mt_X9_stackIn q_3_126 ⟨Nat.le_of_ble_eq_true rfl, Nat.le_of_ble_eq_true rfl⟩ hK hP hD hS hA hE [] rfl rfl rfl hl.1 rfl (Nat.le_of_ble_eq_true rfl) dX9_fittingWeathers_47 ⟨Nat.le_of_ble_eq_true rfl, Nat.le_of_ble_eq_true rfl⟩) hP hD hS hA [] [0, 1, 2, 3, 4, 5, 6, 7, 8, 9, 10] rfl rfl rfl (by decide) (fun r_33 w H locs hw hP hD hS => ?_)
      obtain ⟨br_33, er_33, et_34, rfl⟩ := hw
      have hP : va_P V.1 vwCl [(y 32, aI V 10 f_6), (y 0, .inr (9, o9_rirrrrrrrrvviii (y 1) py0_1 (y 2) (y 10) (y 19) (y 25) (y 26) (y 30) (y 31) (y 32) o10 o11 py0_12 py0_13 py0_14)), (y 39, .inr (7, o7_rii (y 40) py39_1 py39_2)), (y 40, aJ V 40 fy40), (y 3, aI V 4 fy3), (y 9, aI V 900 fy9), (y 19, .inr (4, o4_rrrrrr (y 2) (y 20) (y 21) (y 22) (y 23) (y 24))), (y 20, aI V 2000 f_28), (y 21, aI V 6 f_29), (y 22, aI V 64 f_30), (y 2, .inr (1, o1_iiiiiirrrrrrriiiii py2_0 py2_1 py2_2 py2_3 py2_4 py2_5 (y 3) (y 4) (y 5) (y 6) (y 7) (y 8) (y 9) py2_13 py2_14 py2_15 py2_16 py2_17))] H := hP
      have hD := cpD hP hD
      refine lv_i2l hx hb dX9_fittingWeathers_50 rfl ?_
      refine lv_topl (fun j_35 ej_35 => ?_)
      refine lv_aload_n hx hb dX9_fittingWeathers_51 rfl (lv_at hl 5 rfl) ?_
      refine va_get (ci := 7) (v := .ref (y 40)) (C := RX7) (T := TX7) (N := 3) hx hb hg inX7 hown hK hP 2 rfl rfl 0 (by decide) (hg _ q_1_239) (fun _ h9 => h9) rfl dX9_fittingWeathers_52 ?_
      refine lv_iload hx hb dX9_fittingWeathers_55 (lv_at hl 1 rfl) ?_
      refine va_lald hx hb hK hP 3 2 rfl rfl (iv_in b_25 (by decide)) dX9_fittingWeathers_57 ?_
      refine lv_topl (fun j_36 ej_36 => ?_)
      refine W.lcmp hx hb dX9_fittingWeathers_58 ?_
      refine lv_if_eq (tgt := 65) hx hb dX9_fittingWeathers_59 (by decide) (fun _ => ?_) (fun _ => ?_)
      · obtain ⟨x_38, ex_38⟩ : ∃ z9 : Int32, z9 = u_11 + 1 := ⟨_, rfl⟩
        have bx_38 : iv 1 40 x_38 := by rw [ex_38]; exact iv_add b_25 (iv_c (1 : Int32) (a := 1) (b := 1) (by decide)) (by decide)
        refine lv_iinc (v := x_38) (lv' := [(6, .int x_38), (5, .int r_27), (4, .int u_1), (3, .int u_2), (0, .ref (y 0)), (1, .ref (y 39)), (2, .int a2)]) hx hb dX9_fittingWeathers_65 hl (k := 1) rfl (by rw [ex_38]; rfl) (by decide) rfl (fun ls hl => ?_)
        refine lv_goto (tgt := 21) hx hb dX9_fittingWeathers_68 (by decide) ?_
        have hP := subP (ws' := [(y 3, aI V 4 fy3), (y 9, aI V 900 fy9), (y 19, .inr (4, o4_rrrrrr (y 2) (y 20) (y 21) (y 22) (y 23) (y 24))), (y 20, aI V 2000 f_28), (y 21, aI V 6 f_29), (y 22, aI V 64 f_30), (y 32, aI V 10 f_6), (y 0, .inr (9, o9_rirrrrrrrrvviii (y 1) py0_1 (y 2) (y 10) (y 19) (y 25) (y 26) (y 30) (y 31) (y 32) o10 o11 py0_12 py0_13 py0_14)), (y 2, .inr (1, o1_iiiiiirrrrrrriiiii py2_0 py2_1 py2_2 py2_3 py2_4 py2_5 (y 3) (y 4) (y 5) (y 6) (y 7) (y 8) (y 9) py2_13 py2_14 py2_15 py2_16 py2_17)), (y 39, .inr (7, o7_rii (y 40) py39_1 py39_2)), (y 40, aJ V 40 fy40)]) hP [4, 5, 6, 7, 8, 9, 0, 1, 10, 2, 3] rfl
        have hD := subD hP hD [4, 5, 6, 7, 8, 9, 0, 1, 10, 2, 3] rfl rfl
        exact ihn_16 _ _ _ _ (by rw [en_16, ex_38]; exact mu_up b_25 (by decide)) ⟨x_38, r_27, f_28, f_29, f_30, (iv_w bx_38 (by decide)), br_27, tf_28, kn_32, rfl, hP, hD, hS, lv_sub hl [0, 1, 2, 3, 4, 5, 6] rfl⟩
      · refine lv_goto (tgt := 71) hx hb dX9_fittingWeathers_62 (by decide) ?_
        refine lv_aload_n hx hb dX9_fittingWeathers_71 rfl (lv_at hl 4 rfl) ?_
        refine va_get (ci := 9) (v := .ref (y 32)) (C := RX9) (T := TX9) (N := 15) hx hb hg inX9 hown hK hP 1 rfl rfl 9 (by decide) (hg _ q_2_45) (fun _ h9 => h9) rfl dX9_fittingWeathers_72 ?_
        refine lv_iload hx hb dX9_fittingWeathers_75 (lv_at hl 2 rfl) ?_
        refine lv_iload hx hb dX9_fittingWeathers_77 (lv_at hl 0 rfl) ?_
        refine va_iast hx hb hK hP hD hS 0 0 rfl rfl (iv_in b_10 (by decide)) dX9_fittingWeathers_79 (fun H locs hP hD hS => ?_)
        obtain ⟨f_39, tf_39, hP, hD⟩ : ∃ f_39 : Nat → Int32, (∀ j, iv 0 9999 (f_39 j)) ∧ va_P V.1 vwCl [(y 32, aI V 10 f_39), (y 0, .inr (9, o9_rirrrrrrrrvviii (y 1) py0_1 (y 2) (y 10) (y 19) (y 25) (y 26) (y 30) (y 31) (y 32) o10 o11 py0_12 py0_13 py0_14)), (y 39, .inr (7, o7_rii (y 40) py39_1 py39_2)), (y 40, aJ V 40 fy40), (y 3, aI V 4 fy3), (y 9, aI V 900 fy9), (y 19, .inr (4, o4_rrrrrr (y 2) (y 20) (y 21) (y 22) (y 23) (y 24))), (y 20, aI V 2000 f_28), (y 21, aI V 6 f_29), (y 22, aI V 64 f_30), (y 2, .inr (1, o1_iiiiiirrrrrrriiiii py2_0 py2_1 py2_2 py2_3 py2_4 py2_5 (y 3) (y 4) (y 5) (y 6) (y 7) (y 8) (y 9) py2_13 py2_14 py2_15 py2_16 py2_17))] H ∧ va_D A [(y 32, aI V 10 f_39), (y 0, .inr (9, o9_rirrrrrrrrvviii (y 1) py0_1 (y 2) (y 10) (y 19) (y 25) (y 26) (y 30) (y 31) (y 32) o10 o11 py0_12 py0_13 py0_14)), (y 39, .inr (7, o7_rii (y 40) py39_1 py39_2)), (y 40, aJ V 40 fy40), (y 3, aI V 4 fy3), (y 9, aI V 900 fy9), (y 19, .inr (4, o4_rrrrrr (y 2) (y 20) (y 21) (y 22) (y 23) (y 24))), (y 20, aI V 2000 f_28), (y 21, aI V 6 f_29), (y 22, aI V 64 f_30), (y 2, .inr (1, o1_iiiiiirrrrrrriiiii py2_0 py2_1 py2_2 py2_3 py2_4 py2_5 (y 3) (y 4) (y 5) (y 6) (y 7) (y 8) (y 9) py2_13 py2_14 py2_15 py2_16 py2_17))] := ⟨_, ivU tf_6 _ br_27, hP, hD⟩
        refine lv_iload hx hb dX9_fittingWeathers_80 (lv_at hl 1 rfl) ?_
        refine lv_aload_n hx hb dX9_fittingWeathers_82 rfl (lv_at hl 5 rfl) ?_
        refine va_get (ci := 7) (v := .int py39_1) (C := RX7) (T := TX7) (N := 3) hx hb hg inX7 hown hK hP 2 rfl rfl 1 (by decide) (hg _ q_2_2) (fun _ h9 => h9) rfl dX9_fittingWeathers_83 ?_
        refine lv_icmp_ne (tgt := 96) hx hb dX9_fittingWeathers_86 (by decide) (fun c_40 => ?_) (fun c_40 => ?_)
        · obtain ⟨x_41, ex_41⟩ : ∃ z9 : Int32, z9 = u_1 + 1 := ⟨_, rfl⟩
          have bx_41 : iv 1 10 x_41 := by rw [ex_41]; exact iv_add b_10 (iv_c (1 : Int32) (a := 1) (b := 1) (by decide)) (by decide)
          refine lv_iinc (v := x_41) (lv' := [(4, .int x_41), (5, .int r_27), (6, .int u_11), (3, .int u_2), (0, .ref (y 0)), (1, .ref (y 39)), (2, .int a2)]) hx hb dX9_fittingWeathers_96 hl (k := 2) rfl (by rw [ex_41]; rfl) (by decide) rfl (fun ls hl => ?_)
          refine lv_goto (tgt := 5) hx hb dX9_fittingWeathers_99 (by decide) ?_
          have hP := subP (ws' := [(y 3, aI V 4 fy3), (y 9, aI V 900 fy9), (y 19, .inr (4, o4_rrrrrr (y 2) (y 20) (y 21) (y 22) (y 23) (y 24))), (y 20, aI V 2000 f_28), (y 21, aI V 6 f_29), (y 22, aI V 64 f_30), (y 32, aI V 10 f_39), (y 0, .inr (9, o9_rirrrrrrrrvviii (y 1) py0_1 (y 2) (y 10) (y 19) (y 25) (y 26) (y 30) (y 31) (y 32) o10 o11 py0_12 py0_13 py0_14)), (y 2, .inr (1, o1_iiiiiirrrrrrriiiii py2_0 py2_1 py2_2 py2_3 py2_4 py2_5 (y 3) (y 4) (y 5) (y 6) (y 7) (y 8) (y 9) py2_13 py2_14 py2_15 py2_16 py2_17)), (y 39, .inr (7, o7_rii (y 40) py39_1 py39_2)), (y 40, aJ V 40 fy40)]) hP [4, 5, 6, 7, 8, 9, 0, 1, 10, 2, 3] rfl
          have hD := subD hP hD [4, 5, 6, 7, 8, 9, 0, 1, 10, 2, 3] rfl rfl
          exact ihn_7 _ _ _ _ (by rw [en_7, ex_41]; exact mu_up b_10 (by decide)) ⟨x_41, u_2, f_28, f_29, f_30, f_39, (iv_w bx_41 (by decide)), tf_28, tf_39, kn_32, rfl, hP, hD, hS, lv_sub hl [0, 3, 4, 5, 6] rfl⟩
        · have b_42 : iv 1 40 u_11 := iv_q c_40 b_26
          refine lv_iload_n hx hb dX9_fittingWeathers_89 rfl (lv_at hl 3 rfl) ?_
          refine lv_iconst (v := 1) hx hb dX9_fittingWeathers_90 (by decide) ?_
          refine lv_iload hx hb dX9_fittingWeathers_91 (lv_at hl 2 rfl) ?_
          refine lv_ishl hx hb dX9_fittingWeathers_93 ?_
          refine lv_topi (fun x_43 ex_43 => ?_)
          refine lv_ior hx hb dX9_fittingWeathers_94 ?_
          refine lv_topi (fun x_44 ex_44 => ?_)
          refine lv_istore_n (lv' := [(3, .int x_44), (5, .int r_27), (6, .int u_11), (4, .int u_1), (0, .ref (y 0)), (1, .ref (y 39)), (2, .int a2)]) hx hb dX9_fittingWeathers_95 rfl hl (by decide) rfl (fun ls hl => ?_)
          obtain ⟨x_45, ex_45⟩ : ∃ z9 : Int32, z9 = u_1 + 1 := ⟨_, rfl⟩
          have bx_45 : iv 1 10 x_45 := by rw [ex_45]; exact iv_add b_10 (iv_c (1 : Int32) (a := 1) (b := 1) (by decide)) (by decide)
          refine lv_iinc (v := x_45) (lv' := [(4, .int x_45), (3, .int x_44), (5, .int r_27), (6, .int u_11), (0, .ref (y 0)), (1, .ref (y 39)), (2, .int a2)]) hx hb dX9_fittingWeathers_96 hl (k := 3) rfl (by rw [ex_45]; rfl) (by decide) rfl (fun ls hl => ?_)
          refine lv_goto (tgt := 5) hx hb dX9_fittingWeathers_99 (by decide) ?_
          have hP := subP (ws' := [(y 3, aI V 4 fy3), (y 9, aI V 900 fy9), (y 19, .inr (4, o4_rrrrrr (y 2) (y 20) (y 21) (y 22) (y 23) (y 24))), (y 20, aI V 2000 f_28), (y 21, aI V 6 f_29), (y 22, aI V 64 f_30), (y 32, aI V 10 f_39), (y 0, .inr (9, o9_rirrrrrrrrvviii (y 1) py0_1 (y 2) (y 10) (y 19) (y 25) (y 26) (y 30) (y 31) (y 32) o10 o11 py0_12 py0_13 py0_14)), (y 2, .inr (1, o1_iiiiiirrrrrrriiiii py2_0 py2_1 py2_2 py2_3 py2_4 py2_5 (y 3) (y 4) (y 5) (y 6) (y 7) (y 8) (y 9) py2_13 py2_14 py2_15 py2_16 py2_17)), (y 39, .inr (7, o7_rii (y 40) py39_1 py39_2)), (y 40, aJ V 40 fy40)]) hP [4, 5, 6, 7, 8, 9, 0, 1, 10, 2, 3] rfl
          have hD := subD hP hD [4, 5, 6, 7, 8, 9, 0, 1, 10, 2, 3] rfl rfl
          exact ihn_7 _ _ _ _ (by rw [en_7, ex_45]; exact mu_up b_10 (by decide)) ⟨x_45, x_44, f_28, f_29, f_30, f_39, (iv_w bx_45 (by decide)), tf_28, tf_39, kn_32, rfl, hP, hD, hS, lv_sub hl [0, 1, 4, 5, 6] rfl⟩
theorem dX9_weathers_0 : decode cX9_weathers 0 = .ok (.aload_n 0, 1) := by decide +kernel
theorem dX9_weathers_1 : decode cX9_weathers 1 = .ok (.iload_n 1, 1) := by decide +kernel
theorem dX9_weathers_2 : decode cX9_weathers 2 = .ok (.iload_n 2, 1) := by decide +kernel
theorem dX9_weathers_3 : decode cX9_weathers 3 = .ok (.iconst 0, 1) := by decide +kernel
theorem q_5_24 : Cond.code yX9_refusalOfTold prog_1_method_52_code 6 (some FieldType.int) ∈ gw := gw_5 (i := 24) (rfl) rfl
theorem q_5_23 : Cond.instanceMethod yX9_refusalOfTold ∈ gw := gw_5 (i := 23) (by decide +kernel) rfl
theorem q_s_42 : Cond.selects "BeaconDelay" yX9_refusalOfTold yX9_refusalOfTold ∈ gw := gw_s (i := 42) (by decide +kernel) rfl
theorem mt_X9_refusalOfTold : MtV yX9_refusalOfTold cX9_refusalOfTold 6 (some .int) 3 := ⟨⟨q_5_24, q_1_1, by decide +kernel, by decide +kernel, by decide +kernel⟩, q_5_23, q_s_42⟩
theorem q_5_21 : Cond.methodLink "BeaconDelay" 318 yX9_refusalOfTold ∈ gw := gw_5 (i := 21) (by decide +kernel) rfl
theorem dX9_weathers_4 : decode cX9_weathers 4 = .ok (.invokevirtual 318, 3) := by decide +kernel
theorem dX9_weathers_7 : decode cX9_weathers 7 = .ok (.istore_n 3, 1) := by decide +kernel
theorem dX9_weathers_8 : decode cX9_weathers 8 = .ok (.iload_n 3, 1) := by decide +kernel
theorem dX9_weathers_9 : decode cX9_weathers 9 = .ok (.ifCond .eq 7, 3) := by decide +kernel
theorem dX9_weathers_12 : decode cX9_weathers 12 = .ok (.iload_n 3, 1) := by decide +kernel
theorem dX9_weathers_13 : decode cX9_weathers 13 = .ok (.goto 14, 3) := by decide +kernel
theorem dX9_weathers_27 : decode cX9_weathers 27 = .ok (.ireturn, 1) := by decide +kernel
theorem dX9_weathers_16 : decode cX9_weathers 16 = .ok (.aload_n 0, 1) := by decide +kernel
theorem dX9_weathers_17 : decode cX9_weathers 17 = .ok (.aload_n 0, 1) := by decide +kernel
theorem dX9_weathers_18 : decode cX9_weathers 18 = .ok (.getfield 54, 3) := by decide +kernel
theorem dX9_weathers_21 : decode cX9_weathers 21 = .ok (.iload_n 1, 1) := by decide +kernel
theorem dX9_weathers_22 : decode cX9_weathers 22 = .ok (.aaload, 1) := by decide +kernel
theorem dX9_weathers_23 : decode cX9_weathers 23 = .ok (.iload_n 2, 1) := by decide +kernel
theorem q_5_70 : Cond.code yX9_fittingWeathers prog_1_method_57_code 7 (some FieldType.int) ∈ gw := gw_5 (i := 70) (rfl) rfl
theorem q_5_69 : Cond.instanceMethod yX9_fittingWeathers ∈ gw := gw_5 (i := 69) (by decide +kernel) rfl
theorem q_s_46 : Cond.selects "BeaconDelay" yX9_fittingWeathers yX9_fittingWeathers ∈ gw := gw_s (i := 46) (by decide +kernel) rfl
theorem mt_X9_fittingWeathers : MtV yX9_fittingWeathers cX9_fittingWeathers 7 (some .int) 2 := ⟨⟨q_5_70, q_1_1, by decide +kernel, by decide +kernel, by decide +kernel⟩, q_5_69, q_s_46⟩
theorem q_5_67 : Cond.methodLink "BeaconDelay" 334 yX9_fittingWeathers ∈ gw := gw_5 (i := 67) (by decide +kernel) rfl
theorem dX9_weathers_24 : decode cX9_weathers 24 = .ok (.invokevirtual 334, 3) := by decide +kernel
set_option maxHeartbeats 4000000 in
set_option maxRecDepth 100000 in
theorem k_X9_weathers_0 (l : Launch) (V : GV) (y : Nat → Nat) (D9 : Nat → Int32) (a1 : Int32) (a2 : Int32) (py0_1 : Int32) (o10 : Value) (o11 : Value) (py0_12 : Int32) (py0_13 : Int32) (py0_14 : Int32) (py2_0 : Int32) (py2_1 : Int32) (py2_2 : Int32) (py2_3 : Int32) (py2_4 : Int32) (py2_5 : Int32) (py2_13 : Int32) (py2_14 : Int32) (py2_15 : Int32) (py2_16 : Int32) (py2_17 : Int32) (fy3 : Nat → Int32) (fy9 : Nat → Int32) (fy20 : Nat → Int32) (fy21 : Nat → Int32) (fy22 : Nat → Int32) (fy32 : Nat → Int32) (py33_1 : Int32) (py33_2 : Int32) (fy34 : Nat → Int64) (py35_1 : Int32) (py35_2 : Int32) (fy36 : Nat → Int64) (py37_1 : Int32) (py37_2 : Int32) (fy38 : Nat → Int64) (py39_1 : Int32) (py39_2 : Int32) (fy40 : Nat → Int64) (bpy0_1 : iv 0 900 py0_1) (bpy0_12 : iv 0 9999 py0_12) (bpy0_13 : iv 0 9 py0_13) (bpy2_1 : iv 0 4 py2_1) (bpy2_2 : iv 0 4 py2_2) (bpy2_3 : iv 0 8 py2_3) (bpy2_4 : iv 0 9999 py2_4) (bpy2_5 : iv 0 9 py2_5) (bpy2_13 : iv 0 900 py2_13) (bpy2_14 : iv 0 900 py2_14) (bpy2_15 : iv 0 900 py2_15) (bpy2_16 : iv 0 900 py2_16) (bpy2_17 : iv 0 900 py2_17) (tfy20 : ∀ j, iv 0 10 (fy20 j)) (tfy32 : ∀ j, iv 0 9999 (fy32 j)) (bpy33_1 : iv (-1) 40 py33_1) (bpy35_1 : iv (-1) 40 py35_1) (bpy37_1 : iv (-1) 40 py37_1) (bpy39_1 : iv (-1) 40 py39_1) (hL9 : LW D9 fy3 fy9 py2_14 py2_15 py2_16 py2_17) (hK9 : KN D9 fy20) : Ct l V yX9_weathers (.code yX9_weathers cX9_weathers 4 (some .int)) 7 [.ref (y 0), .int a1, .int a2] [(y 0, .inr (9, o9_rirrrrrrrrvviii (y 1) py0_1 (y 2) (y 10) (y 19) (y 25) (y 26) (y 30) (y 31) (y 32) o10 o11 py0_12 py0_13 py0_14)), (y 2, .inr (1, o1_iiiiiirrrrrrriiiii py2_0 py2_1 py2_2 py2_3 py2_4 py2_5 (y 3) (y 4) (y 5) (y 6) (y 7) (y 8) (y 9) py2_13 py2_14 py2_15 py2_16 py2_17)), (y 3, aI V 4 fy3), (y 9, aI V 900 fy9), (y 19, .inr (4, o4_rrrrrr (y 2) (y 20) (y 21) (y 22) (y 23) (y 24))), (y 20, aI V 2000 fy20), (y 21, aI V 6 fy21), (y 22, aI V 64 fy22), (y 30, aT V 4 (va_up (va_up (va_up (va_up (fun _ => none) 0 (some (y 33))) 1 (some (y 35))) 2 (some (y 37))) 3 (some (y 39)))), (y 32, aI V 10 fy32), (y 33, .inr (7, o7_rii (y 34) py33_1 py33_2)), (y 34, aJ V 40 fy34), (y 35, .inr (7, o7_rii (y 36) py35_1 py35_2)), (y 36, aJ V 40 fy36), (y 37, .inr (7, o7_rii (y 38) py37_1 py37_2)), (y 38, aJ V 40 fy38), (y 39, .inr (7, o7_rii (y 40) py39_1 py39_2)), (y 40, aJ V 40 fy40)] 0 0 (QI V (fun (r : Int32) (w : va_W) => ∃ (g0 : Nat → Int32) (g1 : Nat → Int32) (g2 : Nat → Int32) (g3 : Nat → Int32), (∀ j, iv 0 10 (g0 j)) ∧ (∀ j, iv 0 9999 (g3 j)) ∧ KN D9 g0 ∧ w = [(y 0, .inr (9, o9_rirrrrrrrrvviii (y 1) py0_1 (y 2) (y 10) (y 19) (y 25) (y 26) (y 30) (y 31) (y 32) o10 o11 py0_12 py0_13 py0_14)), (y 2, .inr (1, o1_iiiiiirrrrrrriiiii py2_0 py2_1 py2_2 py2_3 py2_4 py2_5 (y 3) (y 4) (y 5) (y 6) (y 7) (y 8) (y 9) py2_13 py2_14 py2_15 py2_16 py2_17)), (y 3, aI V 4 fy3), (y 9, aI V 900 fy9), (y 19, .inr (4, o4_rrrrrr (y 2) (y 20) (y 21) (y 22) (y 23) (y 24))), (y 20, aI V 2000 g0), (y 21, aI V 6 g1), (y 22, aI V 64 g2), (y 30, aT V 4 (va_up (va_up (va_up (va_up (fun _ => none) 0 (some (y 33))) 1 (some (y 35))) 2 (some (y 37))) 3 (some (y 39)))), (y 32, aI V 10 g3), (y 33, .inr (7, o7_rii (y 34) py33_1 py33_2)), (y 34, aJ V 40 fy34), (y 35, .inr (7, o7_rii (y 36) py35_1 py35_2)), (y 36, aJ V 40 fy36), (y 37, .inr (7, o7_rii (y 38) py37_1 py37_2)), (y 38, aJ V 40 fy38), (y 39, .inr (7, o7_rii (y 40) py39_1 py39_2)), (y 40, aJ V 40 fy40)])) := by
  refine Ct.of (by decide) (Nat.le_of_ble_eq_true rfl) (fun p e s m below meth c A ls hx hb hr hml hown hlk hnm hg hP hK hD hE hA hS hl => ?_)
  have hl : lv_has ls 4 [(0, .ref (y 0)), (1, .int a1), (2, .int a2)] := hl
  refine lv_aload_n hx hb dX9_weathers_0 rfl (lv_at hl 0 rfl) ?_
  refine lv_iload_n hx hb dX9_weathers_1 rfl (lv_at hl 1 rfl) ?_
  refine lv_iload_n hx hb dX9_weathers_2 rfl (lv_at hl 2 rfl) ?_
  refine lv_iconst (v := 0) hx hb dX9_weathers_3 (by decide) ?_
  refine jnI (wr := [(y 3, aI V 4 fy3), (y 9, aI V 900 fy9), (y 19, .inr (4, o4_rrrrrr (y 2) (y 20) (y 21) (y 22) (y 23) (y 24))), (y 20, aI V 2000 fy20), (y 21, aI V 6 fy21), (y 22, aI V 64 fy22), (y 32, aI V 10 fy32)]) (rnV (rest := []) ⟨hx, hb, hml, hown, hg⟩ (k_X9_refusalOfTold_0 l V y a1 a2 0 py0_1 o10 o11 py0_12 py0_13 py0_14 py2_0 py2_1 py2_2 py2_3 py2_4 py2_5 py2_13 py2_14 py2_15 py2_16 py2_17 py33_1 py33_2 fy34 py35_1 py35_2 fy36 py37_1 py37_2 fy38 py39_1 py39_2 fy40 bpy0_1 bpy0_12 bpy0_13 bpy2_1 bpy2_2 bpy2_3 bpy2_4 bpy2_5 bpy2_13 bpy2_14 bpy2_15 bpy2_16 bpy2_17 bpy33_1 bpy35_1 bpy37_1 bpy39_1) mt_X9_refusalOfTold q_5_21 ⟨Nat.le_of_ble_eq_true rfl, Nat.le_of_ble_eq_true rfl⟩ hK hP hD hS hA hE [0, 1, 8, 10, 11, 12, 13, 14, 15, 16, 17] rfl rfl 0 rfl rfl rfl rfl hl.1 rfl (Nat.le_of_ble_eq_true rfl) dX9_weathers_4 ⟨Nat.le_of_ble_eq_true rfl, Nat.le_of_ble_eq_true rfl⟩) hP hD hS hA [0, 1, 8, 10, 11, 12, 13, 14, 15, 16, 17] [2, 3, 4, 5, 6, 7, 9] rfl rfl rfl (by decide) (fun r_1 w H locs hw hP hD hS => ?_)
  rcases hw with ⟨c_2, rfl, g_3, rfl⟩ | ⟨c_4, c_5, rfl, g_6, rfl⟩ | ⟨c_7, c_8, c_9, rfl, g_10, rfl⟩ | ⟨c_11, c_12, c_13, c_14, rfl, g_15, rfl⟩ | ⟨c_16, c_17, c_18, c_19, c_20, c_21, c_22, rfl, g_23, rfl⟩ | ⟨c_24, c_25, c_26, c_27, c_28, c_29, c_30, c_31, rfl, g_32, rfl⟩ | ⟨c_33, c_34, c_35, c_36, c_37, c_38, c_39, c_40, rfl, g_41, rfl⟩ | ⟨c_42, c_43, c_44, c_45, c_46, c_47, c_48, c_49, rfl, g_50, rfl⟩ | ⟨c_51, c_52, c_53, c_54, c_55, c_56, rfl, g_57, rfl⟩ | ⟨c_58, c_59, c_60, c_61, c_62, c_63, c_64, rfl, g_65, rfl⟩ | ⟨c_66, c_67, c_68, c_69, c_70, c_71, c_72, c_73, rfl, g_74, rfl⟩ | ⟨c_75, c_76, c_77, c_78, c_79, c_80, c_81, c_82, rfl, g_83, rfl⟩ | ⟨c_84, c_85, c_86, c_87, c_88, c_89, c_90, c_91, rfl, g_92, rfl⟩ | ⟨c_93, c_94, c_95, c_96, c_97, c_98, rfl, g_99, rfl⟩ | ⟨c_100, c_101, c_102, c_103, c_104, c_105, c_106, rfl, g_107, rfl⟩ | ⟨c_108, c_109, c_110, c_111, c_112, c_113, c_114, c_115, rfl, g_116, rfl⟩ | ⟨c_117, c_118, c_119, c_120, c_121, c_122, c_123, c_124, rfl, g_125, rfl⟩ | ⟨c_126, c_127, c_128, c_129, c_130, c_131, c_132, c_133, rfl, g_134, rfl⟩ | ⟨c_135, c_136, c_137, c_138, c_139, c_140, rfl, g_141, rfl⟩ | ⟨c_142, c_143, c_144, c_145, c_146, c_147, c_148, rfl, g_149, rfl⟩ | ⟨c_150, c_151, c_152, c_153, c_154, c_155, c_156, c_157, rfl, g_158, rfl⟩ | ⟨c_159, c_160, c_161, c_162, c_163, c_164, c_165, c_166, rfl, g_167, rfl⟩ | ⟨c_168, c_169, c_170, c_171, c_172, c_173, c_174, c_175, rfl, g_176, rfl⟩ | ⟨c_177, c_178, c_179, c_180, c_181, c_182, rfl, g_183, rfl⟩
  · have hP : va_P V.1 vwCl [(y 3, aI V 4 fy3), (y 9, aI V 900 fy9), (y 19, .inr (4, o4_rrrrrr (y 2) (y 20) (y 21) (y 22) (y 23) (y 24))), (y 20, aI V 2000 fy20), (y 21, aI V 6 fy21), (y 22, aI V 64 fy22), (y 32, aI V 10 fy32), (y 0, .inr (9, o9_rirrrrrrrrvviii (y 1) py0_1 (y 2) (y 10) (y 19) (y 25) (y 26) (y 30) (y 31) (y 32) o10 o11 py0_12 py0_13 py0_14)), (y 2, .inr (1, o1_iiiiiirrrrrrriiiii py2_0 py2_1 py2_2 py2_3 py2_4 py2_5 (y 3) (y 4) (y 5) (y 6) (y 7) (y 8) (y 9) py2_13 py2_14 py2_15 py2_16 py2_17)), (y 30, aT V 4 (va_up (va_up (va_up (va_up (fun _ => none) 0 (some (y 33))) 1 (some (y 35))) 2 (some (y 37))) 3 (some (y 39)))), (y 33, .inr (7, o7_rii (y 34) py33_1 py33_2)), (y 34, aJ V 40 fy34), (y 35, .inr (7, o7_rii (y 36) py35_1 py35_2)), (y 36, aJ V 40 fy36), (y 37, .inr (7, o7_rii (y 38) py37_1 py37_2)), (y 38, aJ V 40 fy38), (y 39, .inr (7, o7_rii (y 40) py39_1 py39_2)), (y 40, aJ V 40 fy40)] H := hP
    have hD := cpD hP hD
    have b_184 : iv (-2147483648) (-1) a1 := iv_l1 c_2 (iv_top a1) (iv_c (0 : Int32) (a := 0) (b := 0) (by decide)) (by decide)
    refine lv_istore_n (lv' := [(3, .int (-2)), (0, .ref (y 0)), (1, .int a1), (2, .int a2)]) hx hb dX9_weathers_7 rfl hl (by decide) rfl (fun ls hl => ?_)
    refine lv_iload_n hx hb dX9_weathers_8 rfl (lv_at hl 0 rfl) ?_
    refine lv_if_eq (tgt := 16) hx hb dX9_weathers_9 (by decide) (fun c_186 => absurd c_186 (by decide)) (fun _ => ?_)
    refine lv_iload_n hx hb dX9_weathers_12 rfl (lv_at hl 0 rfl) ?_
    refine lv_goto (tgt := 27) hx hb dX9_weathers_13 (by decide) ?_
    have hP := subP (ws' := [(y 0, .inr (9, o9_rirrrrrrrrvviii (y 1) py0_1 (y 2) (y 10) (y 19) (y 25) (y 26) (y 30) (y 31) (y 32) o10 o11 py0_12 py0_13 py0_14)), (y 2, .inr (1, o1_iiiiiirrrrrrriiiii py2_0 py2_1 py2_2 py2_3 py2_4 py2_5 (y 3) (y 4) (y 5) (y 6) (y 7) (y 8) (y 9) py2_13 py2_14 py2_15 py2_16 py2_17)), (y 3, aI V 4 fy3), (y 9, aI V 900 fy9), (y 19, .inr (4, o4_rrrrrr (y 2) (y 20) (y 21) (y 22) (y 23) (y 24))), (y 20, aI V 2000 fy20), (y 21, aI V 6 fy21), (y 22, aI V 64 fy22), (y 30, aT V 4 (va_up (va_up (va_up (va_up (fun _ => none) 0 (some (y 33))) 1 (some (y 35))) 2 (some (y 37))) 3 (some (y 39)))), (y 32, aI V 10 fy32), (y 33, .inr (7, o7_rii (y 34) py33_1 py33_2)), (y 34, aJ V 40 fy34), (y 35, .inr (7, o7_rii (y 36) py35_1 py35_2)), (y 36, aJ V 40 fy36), (y 37, .inr (7, o7_rii (y 38) py37_1 py37_2)), (y 38, aJ V 40 fy38), (y 39, .inr (7, o7_rii (y 40) py39_1 py39_2)), (y 40, aJ V 40 fy40)]) hP [7, 8, 0, 1, 2, 3, 4, 5, 9, 6, 10, 11, 12, 13, 14, 15, 16, 17] rfl
    have hD := subD hP hD [7, 8, 0, 1, 2, 3, 4, 5, 9, 6, 10, 11, 12, 13, 14, 15, 16, 17] rfl rfl
    exact fiI hx hb hr hlk hK hP hD hS dX9_weathers_27 (Nat.le_of_ble_eq_true rfl) (Nat.le_of_ble_eq_true rfl) (⟨fy20, fy21, fy22, fy32, tfy20, tfy32, hK9, rfl⟩)
  · have hP : va_P V.1 vwCl [(y 3, aI V 4 fy3), (y 9, aI V 900 fy9), (y 19, .inr (4, o4_rrrrrr (y 2) (y 20) (y 21) (y 22) (y 23) (y 24))), (y 20, aI V 2000 fy20), (y 21, aI V 6 fy21), (y 22, aI V 64 fy22), (y 32, aI V 10 fy32), (y 0, .inr (9, o9_rirrrrrrrrvviii (y 1) py0_1 (y 2) (y 10) (y 19) (y 25) (y 26) (y 30) (y 31) (y 32) o10 o11 py0_12 py0_13 py0_14)), (y 2, .inr (1, o1_iiiiiirrrrrrriiiii py2_0 py2_1 py2_2 py2_3 py2_4 py2_5 (y 3) (y 4) (y 5) (y 6) (y 7) (y 8) (y 9) py2_13 py2_14 py2_15 py2_16 py2_17)), (y 30, aT V 4 (va_up (va_up (va_up (va_up (fun _ => none) 0 (some (y 33))) 1 (some (y 35))) 2 (some (y 37))) 3 (some (y 39)))), (y 33, .inr (7, o7_rii (y 34) py33_1 py33_2)), (y 34, aJ V 40 fy34), (y 35, .inr (7, o7_rii (y 36) py35_1 py35_2)), (y 36, aJ V 40 fy36), (y 37, .inr (7, o7_rii (y 38) py37_1 py37_2)), (y 38, aJ V 40 fy38), (y 39, .inr (7, o7_rii (y 40) py39_1 py39_2)), (y 40, aJ V 40 fy40)] H := hP
    have hD := cpD hP hD
    have b_187 : iv 0 2147483647 a1 := iv_e2 (Int32.not_lt.mp c_4) (iv_c (0 : Int32) (a := 0) (b := 0) (by decide)) (iv_top a1) (by decide)
    have b_188 : iv 4 2147483647 a1 := iv_e2 c_5 (iv_c (4 : Int32) (a := 4) (b := 4) (by decide)) b_187 (by decide)
    refine lv_istore_n (lv' := [(3, .int (-2)), (0, .ref (y 0)), (1, .int a1), (2, .int a2)]) hx hb dX9_weathers_7 rfl hl (by decide) rfl (fun ls hl => ?_)
    refine lv_iload_n hx hb dX9_weathers_8 rfl (lv_at hl 0 rfl) ?_
    refine lv_if_eq (tgt := 16) hx hb dX9_weathers_9 (by decide) (fun c_190 => absurd c_190 (by decide)) (fun _ => ?_)
    refine lv_iload_n hx hb dX9_weathers_12 rfl (lv_at hl 0 rfl) ?_
    refine lv_goto (tgt := 27) hx hb dX9_weathers_13 (by decide) ?_
    have hP := subP (ws' := [(y 0, .inr (9, o9_rirrrrrrrrvviii (y 1) py0_1 (y 2) (y 10) (y 19) (y 25) (y 26) (y 30) (y 31) (y 32) o10 o11 py0_12 py0_13 py0_14)), (y 2, .inr (1, o1_iiiiiirrrrrrriiiii py2_0 py2_1 py2_2 py2_3 py2_4 py2_5 (y 3) (y 4) (y 5) (y 6) (y 7) (y 8) (y 9) py2_13 py2_14 py2_15 py2_16 py2_17)), (y 3, aI V 4 fy3), (y 9, aI V 900 fy9), (y 19, .inr (4, o4_rrrrrr (y 2) (y 20) (y 21) (y 22) (y 23) (y 24))), (y 20, aI V 2000 fy20), (y 21, aI V 6 fy21), (y 22, aI V 64 fy22), (y 30, aT V 4 (va_up (va_up (va_up (va_up (fun _ => none) 0 (some (y 33))) 1 (some (y 35))) 2 (some (y 37))) 3 (some (y 39)))), (y 32, aI V 10 fy32), (y 33, .inr (7, o7_rii (y 34) py33_1 py33_2)), (y 34, aJ V 40 fy34), (y 35, .inr (7, o7_rii (y 36) py35_1 py35_2)), (y 36, aJ V 40 fy36), (y 37, .inr (7, o7_rii (y 38) py37_1 py37_2)), (y 38, aJ V 40 fy38), (y 39, .inr (7, o7_rii (y 40) py39_1 py39_2)), (y 40, aJ V 40 fy40)]) hP [7, 8, 0, 1, 2, 3, 4, 5, 9, 6, 10, 11, 12, 13, 14, 15, 16, 17] rfl
    have hD := subD hP hD [7, 8, 0, 1, 2, 3, 4, 5, 9, 6, 10, 11, 12, 13, 14, 15, 16, 17] rfl rfl
    exact fiI hx hb hr hlk hK hP hD hS dX9_weathers_27 (Nat.le_of_ble_eq_true rfl) (Nat.le_of_ble_eq_true rfl) (⟨fy20, fy21, fy22, fy32, tfy20, tfy32, hK9, rfl⟩)
  · have hP : va_P V.1 vwCl [(y 3, aI V 4 fy3), (y 9, aI V 900 fy9), (y 19, .inr (4, o4_rrrrrr (y 2) (y 20) (y 21) (y 22) (y 23) (y 24))), (y 20, aI V 2000 fy20), (y 21, aI V 6 fy21), (y 22, aI V 64 fy22), (y 32, aI V 10 fy32), (y 0, .inr (9, o9_rirrrrrrrrvviii (y 1) py0_1 (y 2) (y 10) (y 19) (y 25) (y 26) (y 30) (y 31) (y 32) o10 o11 py0_12 py0_13 py0_14)), (y 2, .inr (1, o1_iiiiiirrrrrrriiiii py2_0 py2_1 py2_2 py2_3 py2_4 py2_5 (y 3) (y 4) (y 5) (y 6) (y 7) (y 8) (y 9) py2_13 py2_14 py2_15 py2_16 py2_17)), (y 30, aT V 4 (va_up (va_up (va_up (va_up (fun _ => none) 0 (some (y 33))) 1 (some (y 35))) 2 (some (y 37))) 3 (some (y 39)))), (y 33, .inr (7, o7_rii (y 34) py33_1 py33_2)), (y 34, aJ V 40 fy34), (y 35, .inr (7, o7_rii (y 36) py35_1 py35_2)), (y 36, aJ V 40 fy36), (y 37, .inr (7, o7_rii (y 38) py37_1 py37_2)), (y 38, aJ V 40 fy38), (y 39, .inr (7, o7_rii (y 40) py39_1 py39_2)), (y 40, aJ V 40 fy40)] H := hP
    have hD := cpD hP hD
    have b_191 : iv 0 2147483647 a1 := iv_e2 (Int32.not_lt.mp c_7) (iv_c (0 : Int32) (a := 0) (b := 0) (by decide)) (iv_top a1) (by decide)
    have b_192 : iv 0 3 a1 := iv_l1 (Int32.not_le.mp c_8) b_191 (iv_c (4 : Int32) (a := 4) (b := 4) (by decide)) (by decide)
    have b_193 : iv (-2147483648) (-1) a2 := iv_l1 c_9 (iv_top a2) (iv_c (0 : Int32) (a := 0) (b := 0) (by decide)) (by decide)
    refine lv_istore_n (lv' := [(3, .int (-2)), (0, .ref (y 0)), (1, .int a1), (2, .int a2)]) hx hb dX9_weathers_7 rfl hl (by decide) rfl (fun ls hl => ?_)
    refine lv_iload_n hx hb dX9_weathers_8 rfl (lv_at hl 0 rfl) ?_
    refine lv_if_eq (tgt := 16) hx hb dX9_weathers_9 (by decide) (fun c_195 => absurd c_195 (by decide)) (fun _ => ?_)
    refine lv_iload_n hx hb dX9_weathers_12 rfl (lv_at hl 0 rfl) ?_
    refine lv_goto (tgt := 27) hx hb dX9_weathers_13 (by decide) ?_
    have hP := subP (ws' := [(y 0, .inr (9, o9_rirrrrrrrrvviii (y 1) py0_1 (y 2) (y 10) (y 19) (y 25) (y 26) (y 30) (y 31) (y 32) o10 o11 py0_12 py0_13 py0_14)), (y 2, .inr (1, o1_iiiiiirrrrrrriiiii py2_0 py2_1 py2_2 py2_3 py2_4 py2_5 (y 3) (y 4) (y 5) (y 6) (y 7) (y 8) (y 9) py2_13 py2_14 py2_15 py2_16 py2_17)), (y 3, aI V 4 fy3), (y 9, aI V 900 fy9), (y 19, .inr (4, o4_rrrrrr (y 2) (y 20) (y 21) (y 22) (y 23) (y 24))), (y 20, aI V 2000 fy20), (y 21, aI V 6 fy21), (y 22, aI V 64 fy22), (y 30, aT V 4 (va_up (va_up (va_up (va_up (fun _ => none) 0 (some (y 33))) 1 (some (y 35))) 2 (some (y 37))) 3 (some (y 39)))), (y 32, aI V 10 fy32), (y 33, .inr (7, o7_rii (y 34) py33_1 py33_2)), (y 34, aJ V 40 fy34), (y 35, .inr (7, o7_rii (y 36) py35_1 py35_2)), (y 36, aJ V 40 fy36), (y 37, .inr (7, o7_rii (y 38) py37_1 py37_2)), (y 38, aJ V 40 fy38), (y 39, .inr (7, o7_rii (y 40) py39_1 py39_2)), (y 40, aJ V 40 fy40)]) hP [7, 8, 0, 1, 2, 3, 4, 5, 9, 6, 10, 11, 12, 13, 14, 15, 16, 17] rfl
    have hD := subD hP hD [7, 8, 0, 1, 2, 3, 4, 5, 9, 6, 10, 11, 12, 13, 14, 15, 16, 17] rfl rfl
    exact fiI hx hb hr hlk hK hP hD hS dX9_weathers_27 (Nat.le_of_ble_eq_true rfl) (Nat.le_of_ble_eq_true rfl) (⟨fy20, fy21, fy22, fy32, tfy20, tfy32, hK9, rfl⟩)
  · have hP : va_P V.1 vwCl [(y 3, aI V 4 fy3), (y 9, aI V 900 fy9), (y 19, .inr (4, o4_rrrrrr (y 2) (y 20) (y 21) (y 22) (y 23) (y 24))), (y 20, aI V 2000 fy20), (y 21, aI V 6 fy21), (y 22, aI V 64 fy22), (y 32, aI V 10 fy32), (y 0, .inr (9, o9_rirrrrrrrrvviii (y 1) py0_1 (y 2) (y 10) (y 19) (y 25) (y 26) (y 30) (y 31) (y 32) o10 o11 py0_12 py0_13 py0_14)), (y 2, .inr (1, o1_iiiiiirrrrrrriiiii py2_0 py2_1 py2_2 py2_3 py2_4 py2_5 (y 3) (y 4) (y 5) (y 6) (y 7) (y 8) (y 9) py2_13 py2_14 py2_15 py2_16 py2_17)), (y 30, aT V 4 (va_up (va_up (va_up (va_up (fun _ => none) 0 (some (y 33))) 1 (some (y 35))) 2 (some (y 37))) 3 (some (y 39)))), (y 33, .inr (7, o7_rii (y 34) py33_1 py33_2)), (y 34, aJ V 40 fy34), (y 35, .inr (7, o7_rii (y 36) py35_1 py35_2)), (y 36, aJ V 40 fy36), (y 37, .inr (7, o7_rii (y 38) py37_1 py37_2)), (y 38, aJ V 40 fy38), (y 39, .inr (7, o7_rii (y 40) py39_1 py39_2)), (y 40, aJ V 40 fy40)] H := hP
    have hD := cpD hP hD
    have b_196 : iv 0 2147483647 a1 := iv_e2 (Int32.not_lt.mp c_11) (iv_c (0 : Int32) (a := 0) (b := 0) (by decide)) (iv_top a1) (by decide)
    have b_197 : iv 0 3 a1 := iv_l1 (Int32.not_le.mp c_12) b_196 (iv_c (4 : Int32) (a := 4) (b := 4) (by decide)) (by decide)
    have b_198 : iv 0 2147483647 a2 := iv_e2 (Int32.not_lt.mp c_13) (iv_c (0 : Int32) (a := 0) (b := 0) (by decide)) (iv_top a2) (by decide)
    refine lv_istore_n (lv' := [(3, .int (-2)), (0, .ref (y 0)), (1, .int a1), (2, .int a2)]) hx hb dX9_weathers_7 rfl hl (by decide) rfl (fun ls hl => ?_)
    refine lv_iload_n hx hb dX9_weathers_8 rfl (lv_at hl 0 rfl) ?_
    refine lv_if_eq (tgt := 16) hx hb dX9_weathers_9 (by decide) (fun c_200 => absurd c_200 (by decide)) (fun _ => ?_)
    refine lv_iload_n hx hb dX9_weathers_12 rfl (lv_at hl 0 rfl) ?_
    refine lv_goto (tgt := 27) hx hb dX9_weathers_13 (by decide) ?_
    have hP := subP (ws' := [(y 0, .inr (9, o9_rirrrrrrrrvviii (y 1) py0_1 (y 2) (y 10) (y 19) (y 25) (y 26) (y 30) (y 31) (y 32) o10 o11 py0_12 py0_13 py0_14)), (y 2, .inr (1, o1_iiiiiirrrrrrriiiii py2_0 py2_1 py2_2 py2_3 py2_4 py2_5 (y 3) (y 4) (y 5) (y 6) (y 7) (y 8) (y 9) py2_13 py2_14 py2_15 py2_16 py2_17)), (y 3, aI V 4 fy3), (y 9, aI V 900 fy9), (y 19, .inr (4, o4_rrrrrr (y 2) (y 20) (y 21) (y 22) (y 23) (y 24))), (y 20, aI V 2000 fy20), (y 21, aI V 6 fy21), (y 22, aI V 64 fy22), (y 30, aT V 4 (va_up (va_up (va_up (va_up (fun _ => none) 0 (some (y 33))) 1 (some (y 35))) 2 (some (y 37))) 3 (some (y 39)))), (y 32, aI V 10 fy32), (y 33, .inr (7, o7_rii (y 34) py33_1 py33_2)), (y 34, aJ V 40 fy34), (y 35, .inr (7, o7_rii (y 36) py35_1 py35_2)), (y 36, aJ V 40 fy36), (y 37, .inr (7, o7_rii (y 38) py37_1 py37_2)), (y 38, aJ V 40 fy38), (y 39, .inr (7, o7_rii (y 40) py39_1 py39_2)), (y 40, aJ V 40 fy40)]) hP [7, 8, 0, 1, 2, 3, 4, 5, 9, 6, 10, 11, 12, 13, 14, 15, 16, 17] rfl
    have hD := subD hP hD [7, 8, 0, 1, 2, 3, 4, 5, 9, 6, 10, 11, 12, 13, 14, 15, 16, 17] rfl rfl
    exact fiI hx hb hr hlk hK hP hD hS dX9_weathers_27 (Nat.le_of_ble_eq_true rfl) (Nat.le_of_ble_eq_true rfl) (⟨fy20, fy21, fy22, fy32, tfy20, tfy32, hK9, rfl⟩)
  · have hP : va_P V.1 vwCl [(y 3, aI V 4 fy3), (y 9, aI V 900 fy9), (y 19, .inr (4, o4_rrrrrr (y 2) (y 20) (y 21) (y 22) (y 23) (y 24))), (y 20, aI V 2000 fy20), (y 21, aI V 6 fy21), (y 22, aI V 64 fy22), (y 32, aI V 10 fy32), (y 0, .inr (9, o9_rirrrrrrrrvviii (y 1) py0_1 (y 2) (y 10) (y 19) (y 25) (y 26) (y 30) (y 31) (y 32) o10 o11 py0_12 py0_13 py0_14)), (y 2, .inr (1, o1_iiiiiirrrrrrriiiii py2_0 py2_1 py2_2 py2_3 py2_4 py2_5 (y 3) (y 4) (y 5) (y 6) (y 7) (y 8) (y 9) py2_13 py2_14 py2_15 py2_16 py2_17)), (y 30, aT V 4 (va_up (va_up (va_up (va_up (fun _ => none) 0 (some (y 33))) 1 (some (y 35))) 2 (some (y 37))) 3 (some (y 39)))), (y 33, .inr (7, o7_rii (y 34) py33_1 py33_2)), (y 34, aJ V 40 fy34), (y 35, .inr (7, o7_rii (y 36) py35_1 py35_2)), (y 36, aJ V 40 fy36), (y 37, .inr (7, o7_rii (y 38) py37_1 py37_2)), (y 38, aJ V 40 fy38), (y 39, .inr (7, o7_rii (y 40) py39_1 py39_2)), (y 40, aJ V 40 fy40)] H := hP
    have hD := cpD hP hD
    have b_201 : iv 0 2147483647 a2 := iv_e2 (Int32.not_lt.mp c_18) (iv_c (0 : Int32) (a := 0) (b := 0) (by decide)) (iv_top a2) (by decide)
    have b_202 : iv 0 3 a2 := iv_l1 (Int32.not_le.mp c_19) b_201 bpy2_1 (by decide)
    have b_203 : iv 1 4 py2_1 := iv_l2 (Int32.not_le.mp c_19) b_201 bpy2_1 (by decide)
    have b_204 : iv 0 0 a1 := iv_q c_20 (iv_c (0 : Int32) (a := 0) (b := 0) (by decide))
    have b_205 : iv 0 40 py33_1 := iv_e2 c_21 (iv_c (0 : Int32) (a := 0) (b := 0) (by decide)) bpy33_1 (by decide)
    have b_206 : iv 0 0 py33_1 := iv_l1 c_22 b_205 (iv_c (1 : Int32) (a := 1) (b := 1) (by decide)) (by decide)
    refine lv_istore_n (lv' := [(3, .int (-4)), (0, .ref (y 0)), (1, .int a1), (2, .int a2)]) hx hb dX9_weathers_7 rfl hl (by decide) rfl (fun ls hl => ?_)
    refine lv_iload_n hx hb dX9_weathers_8 rfl (lv_at hl 0 rfl) ?_
    refine lv_if_eq (tgt := 16) hx hb dX9_weathers_9 (by decide) (fun c_208 => absurd c_208 (by decide)) (fun _ => ?_)
    refine lv_iload_n hx hb dX9_weathers_12 rfl (lv_at hl 0 rfl) ?_
    refine lv_goto (tgt := 27) hx hb dX9_weathers_13 (by decide) ?_
    have hP := subP (ws' := [(y 0, .inr (9, o9_rirrrrrrrrvviii (y 1) py0_1 (y 2) (y 10) (y 19) (y 25) (y 26) (y 30) (y 31) (y 32) o10 o11 py0_12 py0_13 py0_14)), (y 2, .inr (1, o1_iiiiiirrrrrrriiiii py2_0 py2_1 py2_2 py2_3 py2_4 py2_5 (y 3) (y 4) (y 5) (y 6) (y 7) (y 8) (y 9) py2_13 py2_14 py2_15 py2_16 py2_17)), (y 3, aI V 4 fy3), (y 9, aI V 900 fy9), (y 19, .inr (4, o4_rrrrrr (y 2) (y 20) (y 21) (y 22) (y 23) (y 24))), (y 20, aI V 2000 fy20), (y 21, aI V 6 fy21), (y 22, aI V 64 fy22), (y 30, aT V 4 (va_up (va_up (va_up (va_up (fun _ => none) 0 (some (y 33))) 1 (some (y 35))) 2 (some (y 37))) 3 (some (y 39)))), (y 32, aI V 10 fy32), (y 33, .inr (7, o7_rii (y 34) py33_1 py33_2)), (y 34, aJ V 40 fy34), (y 35, .inr (7, o7_rii (y 36) py35_1 py35_2)), (y 36, aJ V 40 fy36), (y 37, .inr (7, o7_rii (y 38) py37_1 py37_2)), (y 38, aJ V 40 fy38), (y 39, .inr (7, o7_rii (y 40) py39_1 py39_2)), (y 40, aJ V 40 fy40)]) hP [7, 8, 0, 1, 2, 3, 4, 5, 9, 6, 10, 11, 12, 13, 14, 15, 16, 17] rfl
    have hD := subD hP hD [7, 8, 0, 1, 2, 3, 4, 5, 9, 6, 10, 11, 12, 13, 14, 15, 16, 17] rfl rfl
    exact fiI hx hb hr hlk hK hP hD hS dX9_weathers_27 (Nat.le_of_ble_eq_true rfl) (Nat.le_of_ble_eq_true rfl) (⟨fy20, fy21, fy22, fy32, tfy20, tfy32, hK9, rfl⟩)
  · have hP : va_P V.1 vwCl [(y 3, aI V 4 fy3), (y 9, aI V 900 fy9), (y 19, .inr (4, o4_rrrrrr (y 2) (y 20) (y 21) (y 22) (y 23) (y 24))), (y 20, aI V 2000 fy20), (y 21, aI V 6 fy21), (y 22, aI V 64 fy22), (y 32, aI V 10 fy32), (y 0, .inr (9, o9_rirrrrrrrrvviii (y 1) py0_1 (y 2) (y 10) (y 19) (y 25) (y 26) (y 30) (y 31) (y 32) o10 o11 py0_12 py0_13 py0_14)), (y 2, .inr (1, o1_iiiiiirrrrrrriiiii py2_0 py2_1 py2_2 py2_3 py2_4 py2_5 (y 3) (y 4) (y 5) (y 6) (y 7) (y 8) (y 9) py2_13 py2_14 py2_15 py2_16 py2_17)), (y 30, aT V 4 (va_up (va_up (va_up (va_up (fun _ => none) 0 (some (y 33))) 1 (some (y 35))) 2 (some (y 37))) 3 (some (y 39)))), (y 33, .inr (7, o7_rii (y 34) py33_1 py33_2)), (y 34, aJ V 40 fy34), (y 35, .inr (7, o7_rii (y 36) py35_1 py35_2)), (y 36, aJ V 40 fy36), (y 37, .inr (7, o7_rii (y 38) py37_1 py37_2)), (y 38, aJ V 40 fy38), (y 39, .inr (7, o7_rii (y 40) py39_1 py39_2)), (y 40, aJ V 40 fy40)] H := hP
    have hD := cpD hP hD
    have b_209 : iv 0 2147483647 a2 := iv_e2 (Int32.not_lt.mp c_26) (iv_c (0 : Int32) (a := 0) (b := 0) (by decide)) (iv_top a2) (by decide)
    have b_210 : iv 0 3 a2 := iv_l1 (Int32.not_le.mp c_27) b_209 bpy2_1 (by decide)
    have b_211 : iv 1 4 py2_1 := iv_l2 (Int32.not_le.mp c_27) b_209 bpy2_1 (by decide)
    have b_212 : iv 0 0 a1 := iv_q c_28 (iv_c (0 : Int32) (a := 0) (b := 0) (by decide))
    have b_213 : iv 0 40 py33_1 := iv_e2 c_29 (iv_c (0 : Int32) (a := 0) (b := 0) (by decide)) bpy33_1 (by decide)
    have b_214 : iv 1 40 py33_1 := iv_e2 (Int32.not_lt.mp c_30) (iv_c (1 : Int32) (a := 1) (b := 1) (by decide)) b_213 (by decide)
    have b_215 : iv 1 8 py33_1 := iv_e1 c_31 b_214 (iv_c (8 : Int32) (a := 8) (b := 8) (by decide)) (by decide)
    refine lv_istore_n (lv' := [(3, .int 0), (0, .ref (y 0)), (1, .int a1), (2, .int a2)]) hx hb dX9_weathers_7 rfl hl (by decide) rfl (fun ls hl => ?_)
    refine lv_iload_n hx hb dX9_weathers_8 rfl (lv_at hl 0 rfl) ?_
    refine lv_if_eq (tgt := 16) hx hb dX9_weathers_9 (by decide) (fun _ => ?_) (fun c_217 => absurd c_217 (by decide))
    refine lv_aload_n hx hb dX9_weathers_16 rfl (lv_at hl 1 rfl) ?_
    refine lv_aload_n hx hb dX9_weathers_17 rfl (lv_at hl 1 rfl) ?_
    refine va_get (ci := 9) (v := .ref (y 30)) (C := RX9) (T := TX9) (N := 15) hx hb hg inX9 hown hK hP 7 rfl rfl 7 (by decide) (hg _ q_2_43) (fun _ h9 => h9) rfl dX9_weathers_18 ?_
    refine lv_iload_n hx hb dX9_weathers_21 rfl (lv_at hl 2 rfl) ?_
    have c_218 : a1 = 0 := by have q9 := b_212; unfold iv at q9; simp only [tI_eq, (by decide : (0 : Int32).toInt = 0)]; omega
    rcases c_218 with rfl
    · refine va_aldq hx hb hK hP 9 4 rfl rfl (vin (by decide +kernel)) dX9_weathers_22 ?_
      refine W.eq (g2 := F0 m 23 ls (.ref (y 33) :: .ref (y 0) :: [])) rfl ?_
      refine lv_iload_n hx hb dX9_weathers_23 rfl (lv_at hl 3 rfl) ?_
      refine jnI (wr := [(y 30, aT V 4 (va_up (va_up (va_up (va_up (fun _ => none) 0 (some (y 33))) 1 (some (y 35))) 2 (some (y 37))) 3 (some (y 39)))), (y 35, .inr (7, o7_rii (y 36) py35_1 py35_2)), (y 36, aJ V 40 fy36), (y 37, .inr (7, o7_rii (y 38) py37_1 py37_2)), (y 38, aJ V 40 fy38), (y 39, .inr (7, o7_rii (y 40) py39_1 py39_2)), (y 40, aJ V 40 fy40)]) (rnV (rest := []) ⟨hx, hb, hml, hown, hg⟩ (k_X9_fittingWeathers_0 l V y D9 a2 fy3 fy9 fy20 fy21 fy22 fy32 py0_1 o10 o11 py0_12 py0_13 py0_14 py2_0 py2_1 py2_2 py2_3 py2_4 py2_5 py2_13 py2_14 py2_15 py2_16 py2_17 py33_1 py33_2 fy34 b_210 tfy20 tfy32 bpy0_1 bpy0_12 bpy0_13 (iv_w b_211 (by decide)) bpy2_2 bpy2_3 bpy2_4 bpy2_5 bpy2_13 bpy2_14 bpy2_15 bpy2_16 bpy2_17 (iv_w b_215 (by decide)) hL9 hK9) mt_X9_fittingWeathers q_5_67 ⟨Nat.le_of_ble_eq_true rfl, Nat.le_of_ble_eq_true rfl⟩ hK hP hD hS hA hE [0, 1, 2, 3, 4, 5, 6, 7, 8, 10, 11] rfl rfl 7 rfl rfl rfl rfl hl.1 rfl (Nat.le_of_ble_eq_true rfl) dX9_weathers_24 ⟨Nat.le_of_ble_eq_true rfl, Nat.le_of_ble_eq_true rfl⟩) hP hD hS hA [0, 1, 2, 3, 4, 5, 6, 7, 8, 10, 11] [9, 12, 13, 14, 15, 16, 17] rfl rfl rfl (by decide) (fun r_219 w H locs hw hP hD hS => ?_)
      obtain ⟨f_220, f_221, f_222, f_223, tf_220, tf_223, kn_224, rfl⟩ := hw
      have hP : va_P V.1 vwCl [(y 30, aT V 4 (va_up (va_up (va_up (va_up (fun _ => none) 0 (some (y 33))) 1 (some (y 35))) 2 (some (y 37))) 3 (some (y 39)))), (y 35, .inr (7, o7_rii (y 36) py35_1 py35_2)), (y 36, aJ V 40 fy36), (y 37, .inr (7, o7_rii (y 38) py37_1 py37_2)), (y 38, aJ V 40 fy38), (y 39, .inr (7, o7_rii (y 40) py39_1 py39_2)), (y 40, aJ V 40 fy40), (y 3, aI V 4 fy3), (y 9, aI V 900 fy9), (y 19, .inr (4, o4_rrrrrr (y 2) (y 20) (y 21) (y 22) (y 23) (y 24))), (y 20, aI V 2000 f_220), (y 21, aI V 6 f_221), (y 22, aI V 64 f_222), (y 32, aI V 10 f_223), (y 0, .inr (9, o9_rirrrrrrrrvviii (y 1) py0_1 (y 2) (y 10) (y 19) (y 25) (y 26) (y 30) (y 31) (y 32) o10 o11 py0_12 py0_13 py0_14)), (y 2, .inr (1, o1_iiiiiirrrrrrriiiii py2_0 py2_1 py2_2 py2_3 py2_4 py2_5 (y 3) (y 4) (y 5) (y 6) (y 7) (y 8) (y 9) py2_13 py2_14 py2_15 py2_16 py2_17)), (y 33, .inr (7, o7_rii (y 34) py33_1 py33_2)), (y 34, aJ V 40 fy34)] H := hP
      have hD := cpD hP hD
      have hP := subP (ws' := [(y 0, .inr (9, o9_rirrrrrrrrvviii (y 1) py0_1 (y 2) (y 10) (y 19) (y 25) (y 26) (y 30) (y 31) (y 32) o10 o11 py0_12 py0_13 py0_14)), (y 2, .inr (1, o1_iiiiiirrrrrrriiiii py2_0 py2_1 py2_2 py2_3 py2_4 py2_5 (y 3) (y 4) (y 5) (y 6) (y 7) (y 8) (y 9) py2_13 py2_14 py2_15 py2_16 py2_17)), (y 3, aI V 4 fy3), (y 9, aI V 900 fy9), (y 19, .inr (4, o4_rrrrrr (y 2) (y 20) (y 21) (y 22) (y 23) (y 24))), (y 20, aI V 2000 f_220), (y 21, aI V 6 f_221), (y 22, aI V 64 f_222), (y 30, aT V 4 (va_up (va_up (va_up (va_up (fun _ => none) 0 (some (y 33))) 1 (some (y 35))) 2 (some (y 37))) 3 (some (y 39)))), (y 32, aI V 10 f_223), (y 33, .inr (7, o7_rii (y 34) py33_1 py33_2)), (y 34, aJ V 40 fy34), (y 35, .inr (7, o7_rii (y 36) py35_1 py35_2)), (y 36, aJ V 40 fy36), (y 37, .inr (7, o7_rii (y 38) py37_1 py37_2)), (y 38, aJ V 40 fy38), (y 39, .inr (7, o7_rii (y 40) py39_1 py39_2)), (y 40, aJ V 40 fy40)]) hP [14, 15, 7, 8, 9, 10, 11, 12, 0, 13, 16, 17, 1, 2, 3, 4, 5, 6] rfl
      have hD := subD hP hD [14, 15, 7, 8, 9, 10, 11, 12, 0, 13, 16, 17, 1, 2, 3, 4, 5, 6] rfl rfl
      exact fiI hx hb hr hlk hK hP hD hS dX9_weathers_27 (Nat.le_of_ble_eq_true rfl) (Nat.le_of_ble_eq_true rfl) (⟨f_220, f_221, f_222, f_223, tf_220, tf_223, kn_224, rfl⟩)
  · have hP : va_P V.1 vwCl [(y 3, aI V 4 fy3), (y 9, aI V 900 fy9), (y 19, .inr (4, o4_rrrrrr (y 2) (y 20) (y 21) (y 22) (y 23) (y 24))), (y 20, aI V 2000 fy20), (y 21, aI V 6 fy21), (y 22, aI V 64 fy22), (y 32, aI V 10 fy32), (y 0, .inr (9, o9_rirrrrrrrrvviii (y 1) py0_1 (y 2) (y 10) (y 19) (y 25) (y 26) (y 30) (y 31) (y 32) o10 o11 py0_12 py0_13 py0_14)), (y 2, .inr (1, o1_iiiiiirrrrrrriiiii py2_0 py2_1 py2_2 py2_3 py2_4 py2_5 (y 3) (y 4) (y 5) (y 6) (y 7) (y 8) (y 9) py2_13 py2_14 py2_15 py2_16 py2_17)), (y 30, aT V 4 (va_up (va_up (va_up (va_up (fun _ => none) 0 (some (y 33))) 1 (some (y 35))) 2 (some (y 37))) 3 (some (y 39)))), (y 33, .inr (7, o7_rii (y 34) py33_1 py33_2)), (y 34, aJ V 40 fy34), (y 35, .inr (7, o7_rii (y 36) py35_1 py35_2)), (y 36, aJ V 40 fy36), (y 37, .inr (7, o7_rii (y 38) py37_1 py37_2)), (y 38, aJ V 40 fy38), (y 39, .inr (7, o7_rii (y 40) py39_1 py39_2)), (y 40, aJ V 40 fy40)] H := hP
    have hD := cpD hP hD
    have b_225 : iv 0 2147483647 a2 := iv_e2 (Int32.not_lt.mp c_35) (iv_c (0 : Int32) (a := 0) (b := 0) (by decide)) (iv_top a2) (by decide)
    have b_226 : iv 0 3 a2 := iv_l1 (Int32.not_le.mp c_36) b_225 bpy2_1 (by decide)
    have b_227 : iv 1 4 py2_1 := iv_l2 (Int32.not_le.mp c_36) b_225 bpy2_1 (by decide)
    have b_228 : iv 0 0 a1 := iv_q c_37 (iv_c (0 : Int32) (a := 0) (b := 0) (by decide))
    have b_229 : iv 0 40 py33_1 := iv_e2 c_38 (iv_c (0 : Int32) (a := 0) (b := 0) (by decide)) bpy33_1 (by decide)
    have b_230 : iv 1 40 py33_1 := iv_e2 (Int32.not_lt.mp c_39) (iv_c (1 : Int32) (a := 1) (b := 1) (by decide)) b_229 (by decide)
    have b_231 : iv 1 8 py33_1 := iv_e1 c_40 b_230 (iv_c (8 : Int32) (a := 8) (b := 8) (by decide)) (by decide)
    refine lv_istore_n (lv' := [(3, .int (-3)), (0, .ref (y 0)), (1, .int a1), (2, .int a2)]) hx hb dX9_weathers_7 rfl hl (by decide) rfl (fun ls hl => ?_)
    refine lv_iload_n hx hb dX9_weathers_8 rfl (lv_at hl 0 rfl) ?_
    refine lv_if_eq (tgt := 16) hx hb dX9_weathers_9 (by decide) (fun c_233 => absurd c_233 (by decide)) (fun _ => ?_)
    refine lv_iload_n hx hb dX9_weathers_12 rfl (lv_at hl 0 rfl) ?_
    refine lv_goto (tgt := 27) hx hb dX9_weathers_13 (by decide) ?_
    have hP := subP (ws' := [(y 0, .inr (9, o9_rirrrrrrrrvviii (y 1) py0_1 (y 2) (y 10) (y 19) (y 25) (y 26) (y 30) (y 31) (y 32) o10 o11 py0_12 py0_13 py0_14)), (y 2, .inr (1, o1_iiiiiirrrrrrriiiii py2_0 py2_1 py2_2 py2_3 py2_4 py2_5 (y 3) (y 4) (y 5) (y 6) (y 7) (y 8) (y 9) py2_13 py2_14 py2_15 py2_16 py2_17)), (y 3, aI V 4 fy3), (y 9, aI V 900 fy9), (y 19, .inr (4, o4_rrrrrr (y 2) (y 20) (y 21) (y 22) (y 23) (y 24))), (y 20, aI V 2000 fy20), (y 21, aI V 6 fy21), (y 22, aI V 64 fy22), (y 30, aT V 4 (va_up (va_up (va_up (va_up (fun _ => none) 0 (some (y 33))) 1 (some (y 35))) 2 (some (y 37))) 3 (some (y 39)))), (y 32, aI V 10 fy32), (y 33, .inr (7, o7_rii (y 34) py33_1 py33_2)), (y 34, aJ V 40 fy34), (y 35, .inr (7, o7_rii (y 36) py35_1 py35_2)), (y 36, aJ V 40 fy36), (y 37, .inr (7, o7_rii (y 38) py37_1 py37_2)), (y 38, aJ V 40 fy38), (y 39, .inr (7, o7_rii (y 40) py39_1 py39_2)), (y 40, aJ V 40 fy40)]) hP [7, 8, 0, 1, 2, 3, 4, 5, 9, 6, 10, 11, 12, 13, 14, 15, 16, 17] rfl
    have hD := subD hP hD [7, 8, 0, 1, 2, 3, 4, 5, 9, 6, 10, 11, 12, 13, 14, 15, 16, 17] rfl rfl
    exact fiI hx hb hr hlk hK hP hD hS dX9_weathers_27 (Nat.le_of_ble_eq_true rfl) (Nat.le_of_ble_eq_true rfl) (⟨fy20, fy21, fy22, fy32, tfy20, tfy32, hK9, rfl⟩)
  · have hP : va_P V.1 vwCl [(y 3, aI V 4 fy3), (y 9, aI V 900 fy9), (y 19, .inr (4, o4_rrrrrr (y 2) (y 20) (y 21) (y 22) (y 23) (y 24))), (y 20, aI V 2000 fy20), (y 21, aI V 6 fy21), (y 22, aI V 64 fy22), (y 32, aI V 10 fy32), (y 0, .inr (9, o9_rirrrrrrrrvviii (y 1) py0_1 (y 2) (y 10) (y 19) (y 25) (y 26) (y 30) (y 31) (y 32) o10 o11 py0_12 py0_13 py0_14)), (y 2, .inr (1, o1_iiiiiirrrrrrriiiii py2_0 py2_1 py2_2 py2_3 py2_4 py2_5 (y 3) (y 4) (y 5) (y 6) (y 7) (y 8) (y 9) py2_13 py2_14 py2_15 py2_16 py2_17)), (y 30, aT V 4 (va_up (va_up (va_up (va_up (fun _ => none) 0 (some (y 33))) 1 (some (y 35))) 2 (some (y 37))) 3 (some (y 39)))), (y 33, .inr (7, o7_rii (y 34) py33_1 py33_2)), (y 34, aJ V 40 fy34), (y 35, .inr (7, o7_rii (y 36) py35_1 py35_2)), (y 36, aJ V 40 fy36), (y 37, .inr (7, o7_rii (y 38) py37_1 py37_2)), (y 38, aJ V 40 fy38), (y 39, .inr (7, o7_rii (y 40) py39_1 py39_2)), (y 40, aJ V 40 fy40)] H := hP
    have hD := cpD hP hD
    have b_234 : iv 0 2147483647 a2 := iv_e2 (Int32.not_lt.mp c_44) (iv_c (0 : Int32) (a := 0) (b := 0) (by decide)) (iv_top a2) (by decide)
    have b_235 : iv 0 3 a2 := iv_l1 (Int32.not_le.mp c_45) b_234 bpy2_1 (by decide)
    have b_236 : iv 1 4 py2_1 := iv_l2 (Int32.not_le.mp c_45) b_234 bpy2_1 (by decide)
    have b_237 : iv 0 0 a1 := iv_q c_46 (iv_c (0 : Int32) (a := 0) (b := 0) (by decide))
    have b_238 : iv 0 40 py33_1 := iv_e2 c_47 (iv_c (0 : Int32) (a := 0) (b := 0) (by decide)) bpy33_1 (by decide)
    have b_239 : iv 1 40 py33_1 := iv_e2 (Int32.not_lt.mp c_48) (iv_c (1 : Int32) (a := 1) (b := 1) (by decide)) b_238 (by decide)
    have b_240 : iv 9 40 py33_1 := iv_l2 (Int32.not_le.mp c_49) (iv_c (8 : Int32) (a := 8) (b := 8) (by decide)) b_239 (by decide)
    refine lv_istore_n (lv' := [(3, .int (-4)), (0, .ref (y 0)), (1, .int a1), (2, .int a2)]) hx hb dX9_weathers_7 rfl hl (by decide) rfl (fun ls hl => ?_)
    refine lv_iload_n hx hb dX9_weathers_8 rfl (lv_at hl 0 rfl) ?_
    refine lv_if_eq (tgt := 16) hx hb dX9_weathers_9 (by decide) (fun c_242 => absurd c_242 (by decide)) (fun _ => ?_)
    refine lv_iload_n hx hb dX9_weathers_12 rfl (lv_at hl 0 rfl) ?_
    refine lv_goto (tgt := 27) hx hb dX9_weathers_13 (by decide) ?_
    have hP := subP (ws' := [(y 0, .inr (9, o9_rirrrrrrrrvviii (y 1) py0_1 (y 2) (y 10) (y 19) (y 25) (y 26) (y 30) (y 31) (y 32) o10 o11 py0_12 py0_13 py0_14)), (y 2, .inr (1, o1_iiiiiirrrrrrriiiii py2_0 py2_1 py2_2 py2_3 py2_4 py2_5 (y 3) (y 4) (y 5) (y 6) (y 7) (y 8) (y 9) py2_13 py2_14 py2_15 py2_16 py2_17)), (y 3, aI V 4 fy3), (y 9, aI V 900 fy9), (y 19, .inr (4, o4_rrrrrr (y 2) (y 20) (y 21) (y 22) (y 23) (y 24))), (y 20, aI V 2000 fy20), (y 21, aI V 6 fy21), (y 22, aI V 64 fy22), (y 30, aT V 4 (va_up (va_up (va_up (va_up (fun _ => none) 0 (some (y 33))) 1 (some (y 35))) 2 (some (y 37))) 3 (some (y 39)))), (y 32, aI V 10 fy32), (y 33, .inr (7, o7_rii (y 34) py33_1 py33_2)), (y 34, aJ V 40 fy34), (y 35, .inr (7, o7_rii (y 36) py35_1 py35_2)), (y 36, aJ V 40 fy36), (y 37, .inr (7, o7_rii (y 38) py37_1 py37_2)), (y 38, aJ V 40 fy38), (y 39, .inr (7, o7_rii (y 40) py39_1 py39_2)), (y 40, aJ V 40 fy40)]) hP [7, 8, 0, 1, 2, 3, 4, 5, 9, 6, 10, 11, 12, 13, 14, 15, 16, 17] rfl
    have hD := subD hP hD [7, 8, 0, 1, 2, 3, 4, 5, 9, 6, 10, 11, 12, 13, 14, 15, 16, 17] rfl rfl
    exact fiI hx hb hr hlk hK hP hD hS dX9_weathers_27 (Nat.le_of_ble_eq_true rfl) (Nat.le_of_ble_eq_true rfl) (⟨fy20, fy21, fy22, fy32, tfy20, tfy32, hK9, rfl⟩)
  · have hP : va_P V.1 vwCl [(y 3, aI V 4 fy3), (y 9, aI V 900 fy9), (y 19, .inr (4, o4_rrrrrr (y 2) (y 20) (y 21) (y 22) (y 23) (y 24))), (y 20, aI V 2000 fy20), (y 21, aI V 6 fy21), (y 22, aI V 64 fy22), (y 32, aI V 10 fy32), (y 0, .inr (9, o9_rirrrrrrrrvviii (y 1) py0_1 (y 2) (y 10) (y 19) (y 25) (y 26) (y 30) (y 31) (y 32) o10 o11 py0_12 py0_13 py0_14)), (y 2, .inr (1, o1_iiiiiirrrrrrriiiii py2_0 py2_1 py2_2 py2_3 py2_4 py2_5 (y 3) (y 4) (y 5) (y 6) (y 7) (y 8) (y 9) py2_13 py2_14 py2_15 py2_16 py2_17)), (y 30, aT V 4 (va_up (va_up (va_up (va_up (fun _ => none) 0 (some (y 33))) 1 (some (y 35))) 2 (some (y 37))) 3 (some (y 39)))), (y 33, .inr (7, o7_rii (y 34) py33_1 py33_2)), (y 34, aJ V 40 fy34), (y 35, .inr (7, o7_rii (y 36) py35_1 py35_2)), (y 36, aJ V 40 fy36), (y 37, .inr (7, o7_rii (y 38) py37_1 py37_2)), (y 38, aJ V 40 fy38), (y 39, .inr (7, o7_rii (y 40) py39_1 py39_2)), (y 40, aJ V 40 fy40)] H := hP
    have hD := cpD hP hD
    have b_243 : iv 0 2147483647 a2 := iv_e2 (Int32.not_lt.mp c_53) (iv_c (0 : Int32) (a := 0) (b := 0) (by decide)) (iv_top a2) (by decide)
    have b_244 : iv 0 3 a2 := iv_l1 (Int32.not_le.mp c_54) b_243 bpy2_1 (by decide)
    have b_245 : iv 1 4 py2_1 := iv_l2 (Int32.not_le.mp c_54) b_243 bpy2_1 (by decide)
    have b_246 : iv 0 0 a1 := iv_q c_55 (iv_c (0 : Int32) (a := 0) (b := 0) (by decide))
    have b_247 : iv (-1) (-1) py33_1 := iv_l1 (Int32.not_le.mp c_56) bpy33_1 (iv_c (0 : Int32) (a := 0) (b := 0) (by decide)) (by decide)
    refine lv_istore_n (lv' := [(3, .int (-6)), (0, .ref (y 0)), (1, .int a1), (2, .int a2)]) hx hb dX9_weathers_7 rfl hl (by decide) rfl (fun ls hl => ?_)
    refine lv_iload_n hx hb dX9_weathers_8 rfl (lv_at hl 0 rfl) ?_
    refine lv_if_eq (tgt := 16) hx hb dX9_weathers_9 (by decide) (fun c_249 => absurd c_249 (by decide)) (fun _ => ?_)
    refine lv_iload_n hx hb dX9_weathers_12 rfl (lv_at hl 0 rfl) ?_
    refine lv_goto (tgt := 27) hx hb dX9_weathers_13 (by decide) ?_
    have hP := subP (ws' := [(y 0, .inr (9, o9_rirrrrrrrrvviii (y 1) py0_1 (y 2) (y 10) (y 19) (y 25) (y 26) (y 30) (y 31) (y 32) o10 o11 py0_12 py0_13 py0_14)), (y 2, .inr (1, o1_iiiiiirrrrrrriiiii py2_0 py2_1 py2_2 py2_3 py2_4 py2_5 (y 3) (y 4) (y 5) (y 6) (y 7) (y 8) (y 9) py2_13 py2_14 py2_15 py2_16 py2_17)), (y 3, aI V 4 fy3), (y 9, aI V 900 fy9), (y 19, .inr (4, o4_rrrrrr (y 2) (y 20) (y 21) (y 22) (y 23) (y 24))), (y 20, aI V 2000 fy20), (y 21, aI V 6 fy21), (y 22, aI V 64 fy22), (y 30, aT V 4 (va_up (va_up (va_up (va_up (fun _ => none) 0 (some (y 33))) 1 (some (y 35))) 2 (some (y 37))) 3 (some (y 39)))), (y 32, aI V 10 fy32), (y 33, .inr (7, o7_rii (y 34) py33_1 py33_2)), (y 34, aJ V 40 fy34), (y 35, .inr (7, o7_rii (y 36) py35_1 py35_2)), (y 36, aJ V 40 fy36), (y 37, .inr (7, o7_rii (y 38) py37_1 py37_2)), (y 38, aJ V 40 fy38), (y 39, .inr (7, o7_rii (y 40) py39_1 py39_2)), (y 40, aJ V 40 fy40)]) hP [7, 8, 0, 1, 2, 3, 4, 5, 9, 6, 10, 11, 12, 13, 14, 15, 16, 17] rfl
    have hD := subD hP hD [7, 8, 0, 1, 2, 3, 4, 5, 9, 6, 10, 11, 12, 13, 14, 15, 16, 17] rfl rfl
    exact fiI hx hb hr hlk hK hP hD hS dX9_weathers_27 (Nat.le_of_ble_eq_true rfl) (Nat.le_of_ble_eq_true rfl) (⟨fy20, fy21, fy22, fy32, tfy20, tfy32, hK9, rfl⟩)
  · have hP : va_P V.1 vwCl [(y 3, aI V 4 fy3), (y 9, aI V 900 fy9), (y 19, .inr (4, o4_rrrrrr (y 2) (y 20) (y 21) (y 22) (y 23) (y 24))), (y 20, aI V 2000 fy20), (y 21, aI V 6 fy21), (y 22, aI V 64 fy22), (y 32, aI V 10 fy32), (y 0, .inr (9, o9_rirrrrrrrrvviii (y 1) py0_1 (y 2) (y 10) (y 19) (y 25) (y 26) (y 30) (y 31) (y 32) o10 o11 py0_12 py0_13 py0_14)), (y 2, .inr (1, o1_iiiiiirrrrrrriiiii py2_0 py2_1 py2_2 py2_3 py2_4 py2_5 (y 3) (y 4) (y 5) (y 6) (y 7) (y 8) (y 9) py2_13 py2_14 py2_15 py2_16 py2_17)), (y 30, aT V 4 (va_up (va_up (va_up (va_up (fun _ => none) 0 (some (y 33))) 1 (some (y 35))) 2 (some (y 37))) 3 (some (y 39)))), (y 33, .inr (7, o7_rii (y 34) py33_1 py33_2)), (y 34, aJ V 40 fy34), (y 35, .inr (7, o7_rii (y 36) py35_1 py35_2)), (y 36, aJ V 40 fy36), (y 37, .inr (7, o7_rii (y 38) py37_1 py37_2)), (y 38, aJ V 40 fy38), (y 39, .inr (7, o7_rii (y 40) py39_1 py39_2)), (y 40, aJ V 40 fy40)] H := hP
    have hD := cpD hP hD
    have b_250 : iv 0 2147483647 a2 := iv_e2 (Int32.not_lt.mp c_60) (iv_c (0 : Int32) (a := 0) (b := 0) (by decide)) (iv_top a2) (by decide)
    have b_251 : iv 0 3 a2 := iv_l1 (Int32.not_le.mp c_61) b_250 bpy2_1 (by decide)
    have b_252 : iv 1 4 py2_1 := iv_l2 (Int32.not_le.mp c_61) b_250 bpy2_1 (by decide)
    have b_253 : iv 1 1 a1 := iv_q c_62 (iv_c (1 : Int32) (a := 1) (b := 1) (by decide))
    have b_254 : iv 0 40 py35_1 := iv_e2 c_63 (iv_c (0 : Int32) (a := 0) (b := 0) (by decide)) bpy35_1 (by decide)
    have b_255 : iv 0 0 py35_1 := iv_l1 c_64 b_254 (iv_c (1 : Int32) (a := 1) (b := 1) (by decide)) (by decide)
    refine lv_istore_n (lv' := [(3, .int (-4)), (0, .ref (y 0)), (1, .int a1), (2, .int a2)]) hx hb dX9_weathers_7 rfl hl (by decide) rfl (fun ls hl => ?_)
    refine lv_iload_n hx hb dX9_weathers_8 rfl (lv_at hl 0 rfl) ?_
    refine lv_if_eq (tgt := 16) hx hb dX9_weathers_9 (by decide) (fun c_257 => absurd c_257 (by decide)) (fun _ => ?_)
    refine lv_iload_n hx hb dX9_weathers_12 rfl (lv_at hl 0 rfl) ?_
    refine lv_goto (tgt := 27) hx hb dX9_weathers_13 (by decide) ?_
    have hP := subP (ws' := [(y 0, .inr (9, o9_rirrrrrrrrvviii (y 1) py0_1 (y 2) (y 10) (y 19) (y 25) (y 26) (y 30) (y 31) (y 32) o10 o11 py0_12 py0_13 py0_14)), (y 2, .inr (1, o1_iiiiiirrrrrrriiiii py2_0 py2_1 py2_2 py2_3 py2_4 py2_5 (y 3) (y 4) (y 5) (y 6) (y 7) (y 8) (y 9) py2_13 py2_14 py2_15 py2_16 py2_17)), (y 3, aI V 4 fy3), (y 9, aI V 900 fy9), (y 19, .inr (4, o4_rrrrrr (y 2) (y 20) (y 21) (y 22) (y 23) (y 24))), (y 20, aI V 2000 fy20), (y 21, aI V 6 fy21), (y 22, aI V 64 fy22), (y 30, aT V 4 (va_up (va_up (va_up (va_up (fun _ => none) 0 (some (y 33))) 1 (some (y 35))) 2 (some (y 37))) 3 (some (y 39)))), (y 32, aI V 10 fy32), (y 33, .inr (7, o7_rii (y 34) py33_1 py33_2)), (y 34, aJ V 40 fy34), (y 35, .inr (7, o7_rii (y 36) py35_1 py35_2)), (y 36, aJ V 40 fy36), (y 37, .inr (7, o7_rii (y 38) py37_1 py37_2)), (y 38, aJ V 40 fy38), (y 39, .inr (7, o7_rii (y 40) py39_1 py39_2)), (y 40, aJ V 40 fy40)]) hP [7, 8, 0, 1, 2, 3, 4, 5, 9, 6, 10, 11, 12, 13, 14, 15, 16, 17] rfl
    have hD := subD hP hD [7, 8, 0, 1, 2, 3, 4, 5, 9, 6, 10, 11, 12, 13, 14, 15, 16, 17] rfl rfl
    exact fiI hx hb hr hlk hK hP hD hS dX9_weathers_27 (Nat.le_of_ble_eq_true rfl) (Nat.le_of_ble_eq_true rfl) (⟨fy20, fy21, fy22, fy32, tfy20, tfy32, hK9, rfl⟩)
  · have hP : va_P V.1 vwCl [(y 3, aI V 4 fy3), (y 9, aI V 900 fy9), (y 19, .inr (4, o4_rrrrrr (y 2) (y 20) (y 21) (y 22) (y 23) (y 24))), (y 20, aI V 2000 fy20), (y 21, aI V 6 fy21), (y 22, aI V 64 fy22), (y 32, aI V 10 fy32), (y 0, .inr (9, o9_rirrrrrrrrvviii (y 1) py0_1 (y 2) (y 10) (y 19) (y 25) (y 26) (y 30) (y 31) (y 32) o10 o11 py0_12 py0_13 py0_14)), (y 2, .inr (1, o1_iiiiiirrrrrrriiiii py2_0 py2_1 py2_2 py2_3 py2_4 py2_5 (y 3) (y 4) (y 5) (y 6) (y 7) (y 8) (y 9) py2_13 py2_14 py2_15 py2_16 py2_17)), (y 30, aT V 4 (va_up (va_up (va_up (va_up (fun _ => none) 0 (some (y 33))) 1 (some (y 35))) 2 (some (y 37))) 3 (some (y 39)))), (y 33, .inr (7, o7_rii (y 34) py33_1 py33_2)), (y 34, aJ V 40 fy34), (y 35, .inr (7, o7_rii (y 36) py35_1 py35_2)), (y 36, aJ V 40 fy36), (y 37, .inr (7, o7_rii (y 38) py37_1 py37_2)), (y 38, aJ V 40 fy38), (y 39, .inr (7, o7_rii (y 40) py39_1 py39_2)), (y 40, aJ V 40 fy40)] H := hP
    have hD := cpD hP hD
    have b_258 : iv 0 2147483647 a2 := iv_e2 (Int32.not_lt.mp c_68) (iv_c (0 : Int32) (a := 0) (b := 0) (by decide)) (iv_top a2) (by decide)
    have b_259 : iv 0 3 a2 := iv_l1 (Int32.not_le.mp c_69) b_258 bpy2_1 (by decide)
    have b_260 : iv 1 4 py2_1 := iv_l2 (Int32.not_le.mp c_69) b_258 bpy2_1 (by decide)
    have b_261 : iv 1 1 a1 := iv_q c_70 (iv_c (1 : Int32) (a := 1) (b := 1) (by decide))
    have b_262 : iv 0 40 py35_1 := iv_e2 c_71 (iv_c (0 : Int32) (a := 0) (b := 0) (by decide)) bpy35_1 (by decide)
    have b_263 : iv 1 40 py35_1 := iv_e2 (Int32.not_lt.mp c_72) (iv_c (1 : Int32) (a := 1) (b := 1) (by decide)) b_262 (by decide)
    have b_264 : iv 1 8 py35_1 := iv_e1 c_73 b_263 (iv_c (8 : Int32) (a := 8) (b := 8) (by decide)) (by decide)
    refine lv_istore_n (lv' := [(3, .int 0), (0, .ref (y 0)), (1, .int a1), (2, .int a2)]) hx hb dX9_weathers_7 rfl hl (by decide) rfl (fun ls hl => ?_)
    refine lv_iload_n hx hb dX9_weathers_8 rfl (lv_at hl 0 rfl) ?_
    refine lv_if_eq (tgt := 16) hx hb dX9_weathers_9 (by decide) (fun _ => ?_) (fun c_266 => absurd c_266 (by decide))
    refine lv_aload_n hx hb dX9_weathers_16 rfl (lv_at hl 1 rfl) ?_
    refine lv_aload_n hx hb dX9_weathers_17 rfl (lv_at hl 1 rfl) ?_
    refine va_get (ci := 9) (v := .ref (y 30)) (C := RX9) (T := TX9) (N := 15) hx hb hg inX9 hown hK hP 7 rfl rfl 7 (by decide) (hg _ q_2_43) (fun _ h9 => h9) rfl dX9_weathers_18 ?_
    refine lv_iload_n hx hb dX9_weathers_21 rfl (lv_at hl 2 rfl) ?_
    have c_267 : a1 = 1 := by have q9 := b_261; unfold iv at q9; simp only [tI_eq, (by decide : (1 : Int32).toInt = 1)]; omega
    rcases c_267 with rfl
    · refine va_aldq hx hb hK hP 9 4 rfl rfl (vin (by decide +kernel)) dX9_weathers_22 ?_
      refine W.eq (g2 := F0 m 23 ls (.ref (y 35) :: .ref (y 0) :: [])) rfl ?_
      refine lv_iload_n hx hb dX9_weathers_23 rfl (lv_at hl 3 rfl) ?_
      refine jnI (wr := [(y 30, aT V 4 (va_up (va_up (va_up (va_up (fun _ => none) 0 (some (y 33))) 1 (some (y 35))) 2 (some (y 37))) 3 (some (y 39)))), (y 33, .inr (7, o7_rii (y 34) py33_1 py33_2)), (y 34, aJ V 40 fy34), (y 37, .inr (7, o7_rii (y 38) py37_1 py37_2)), (y 38, aJ V 40 fy38), (y 39, .inr (7, o7_rii (y 40) py39_1 py39_2)), (y 40, aJ V 40 fy40)]) (rnV (rest := []) ⟨hx, hb, hml, hown, hg⟩ (k_X9_fittingWeathers_1 l V y D9 a2 fy3 fy9 fy20 fy21 fy22 fy32 py0_1 o10 o11 py0_12 py0_13 py0_14 py2_0 py2_1 py2_2 py2_3 py2_4 py2_5 py2_13 py2_14 py2_15 py2_16 py2_17 py35_1 py35_2 fy36 b_259 tfy20 tfy32 bpy0_1 bpy0_12 bpy0_13 (iv_w b_260 (by decide)) bpy2_2 bpy2_3 bpy2_4 bpy2_5 bpy2_13 bpy2_14 bpy2_15 bpy2_16 bpy2_17 (iv_w b_264 (by decide)) hL9 hK9) mt_X9_fittingWeathers q_5_67 ⟨Nat.le_of_ble_eq_true rfl, Nat.le_of_ble_eq_true rfl⟩ hK hP hD hS hA hE [0, 1, 2, 3, 4, 5, 6, 7, 8, 12, 13] rfl rfl 7 rfl rfl rfl rfl hl.1 rfl (Nat.le_of_ble_eq_true rfl) dX9_weathers_24 ⟨Nat.le_of_ble_eq_true rfl, Nat.le_of_ble_eq_true rfl⟩) hP hD hS hA [0, 1, 2, 3, 4, 5, 6, 7, 8, 12, 13] [9, 10, 11, 14, 15, 16, 17] rfl rfl rfl (by decide) (fun r_268 w H locs hw hP hD hS => ?_)
      obtain ⟨f_269, f_270, f_271, f_272, tf_269, tf_272, kn_273, rfl⟩ := hw
      have hP : va_P V.1 vwCl [(y 30, aT V 4 (va_up (va_up (va_up (va_up (fun _ => none) 0 (some (y 33))) 1 (some (y 35))) 2 (some (y 37))) 3 (some (y 39)))), (y 33, .inr (7, o7_rii (y 34) py33_1 py33_2)), (y 34, aJ V 40 fy34), (y 37, .inr (7, o7_rii (y 38) py37_1 py37_2)), (y 38, aJ V 40 fy38), (y 39, .inr (7, o7_rii (y 40) py39_1 py39_2)), (y 40, aJ V 40 fy40), (y 3, aI V 4 fy3), (y 9, aI V 900 fy9), (y 19, .inr (4, o4_rrrrrr (y 2) (y 20) (y 21) (y 22) (y 23) (y 24))), (y 20, aI V 2000 f_269), (y 21, aI V 6 f_270), (y 22, aI V 64 f_271), (y 32, aI V 10 f_272), (y 0, .inr (9, o9_rirrrrrrrrvviii (y 1) py0_1 (y 2) (y 10) (y 19) (y 25) (y 26) (y 30) (y 31) (y 32) o10 o11 py0_12 py0_13 py0_14)), (y 2, .inr (1, o1_iiiiiirrrrrrriiiii py2_0 py2_1 py2_2 py2_3 py2_4 py2_5 (y 3) (y 4) (y 5) (y 6) (y 7) (y 8) (y 9) py2_13 py2_14 py2_15 py2_16 py2_17)), (y 35, .inr (7, o7_rii (y 36) py35_1 py35_2)), (y 36, aJ V 40 fy36)] H := hP
      have hD := cpD hP hD
      have hP := subP (ws' := [(y 0, .inr (9, o9_rirrrrrrrrvviii (y 1) py0_1 (y 2) (y 10) (y 19) (y 25) (y 26) (y 30) (y 31) (y 32) o10 o11 py0_12 py0_13 py0_14)), (y 2, .inr (1, o1_iiiiiirrrrrrriiiii py2_0 py2_1 py2_2 py2_3 py2_4 py2_5 (y 3) (y 4) (y 5) (y 6) (y 7) (y 8) (y 9) py2_13 py2_14 py2_15 py2_16 py2_17)), (y 3, aI V 4 fy3), (y 9, aI V 900 fy9), (y 19, .inr (4, o4_rrrrrr (y 2) (y 20) (y 21) (y 22) (y 23) (y 24))), (y 20, aI V 2000 f_269), (y 21, aI V 6 f_270), (y 22, aI V 64 f_271), (y 30, aT V 4 (va_up (va_up (va_up (va_up (fun _ => none) 0 (some (y 33))) 1 (some (y 35))) 2 (some (y 37))) 3 (some (y 39)))), (y 32, aI V 10 f_272), (y 33, .inr (7, o7_rii (y 34) py33_1 py33_2)), (y 34, aJ V 40 fy34), (y 35, .inr (7, o7_rii (y 36) py35_1 py35_2)), (y 36, aJ V 40 fy36), (y 37, .inr (7, o7_rii (y 38) py37_1 py37_2)), (y 38, aJ V 40 fy38), (y 39, .inr (7, o7_rii (y 40) py39_1 py39_2)), (y 40, aJ V 40 fy40)]) hP [14, 15, 7, 8, 9, 10, 11, 12, 0, 13, 1, 2, 16, 17, 3, 4, 5, 6] rfl
      have hD := subD hP hD [14, 15, 7, 8, 9, 10, 11, 12, 0, 13, 1, 2, 16, 17, 3, 4, 5, 6] rfl rfl
      exact fiI hx hb hr hlk hK hP hD hS dX9_weathers_27 (Nat.le_of_ble_eq_true rfl) (Nat.le_of_ble_eq_true rfl) (⟨f_269, f_270, f_271, f_272, tf_269, tf_272, kn_273, rfl⟩)
  · have hP : va_P V.1 vwCl [(y 3, aI V 4 fy3), (y 9, aI V 900 fy9), (y 19, .inr (4, o4_rrrrrr (y 2) (y 20) (y 21) (y 22) (y 23) (y 24))), (y 20, aI V 2000 fy20), (y 21, aI V 6 fy21), (y 22, aI V 64 fy22), (y 32, aI V 10 fy32), (y 0, .inr (9, o9_rirrrrrrrrvviii (y 1) py0_1 (y 2) (y 10) (y 19) (y 25) (y 26) (y 30) (y 31) (y 32) o10 o11 py0_12 py0_13 py0_14)), (y 2, .inr (1, o1_iiiiiirrrrrrriiiii py2_0 py2_1 py2_2 py2_3 py2_4 py2_5 (y 3) (y 4) (y 5) (y 6) (y 7) (y 8) (y 9) py2_13 py2_14 py2_15 py2_16 py2_17)), (y 30, aT V 4 (va_up (va_up (va_up (va_up (fun _ => none) 0 (some (y 33))) 1 (some (y 35))) 2 (some (y 37))) 3 (some (y 39)))), (y 33, .inr (7, o7_rii (y 34) py33_1 py33_2)), (y 34, aJ V 40 fy34), (y 35, .inr (7, o7_rii (y 36) py35_1 py35_2)), (y 36, aJ V 40 fy36), (y 37, .inr (7, o7_rii (y 38) py37_1 py37_2)), (y 38, aJ V 40 fy38), (y 39, .inr (7, o7_rii (y 40) py39_1 py39_2)), (y 40, aJ V 40 fy40)] H := hP
    have hD := cpD hP hD
    have b_274 : iv 0 2147483647 a2 := iv_e2 (Int32.not_lt.mp c_77) (iv_c (0 : Int32) (a := 0) (b := 0) (by decide)) (iv_top a2) (by decide)
    have b_275 : iv 0 3 a2 := iv_l1 (Int32.not_le.mp c_78) b_274 bpy2_1 (by decide)
    have b_276 : iv 1 4 py2_1 := iv_l2 (Int32.not_le.mp c_78) b_274 bpy2_1 (by decide)
    have b_277 : iv 1 1 a1 := iv_q c_79 (iv_c (1 : Int32) (a := 1) (b := 1) (by decide))
    have b_278 : iv 0 40 py35_1 := iv_e2 c_80 (iv_c (0 : Int32) (a := 0) (b := 0) (by decide)) bpy35_1 (by decide)
    have b_279 : iv 1 40 py35_1 := iv_e2 (Int32.not_lt.mp c_81) (iv_c (1 : Int32) (a := 1) (b := 1) (by decide)) b_278 (by decide)
    have b_280 : iv 1 8 py35_1 := iv_e1 c_82 b_279 (iv_c (8 : Int32) (a := 8) (b := 8) (by decide)) (by decide)
    refine lv_istore_n (lv' := [(3, .int (-3)), (0, .ref (y 0)), (1, .int a1), (2, .int a2)]) hx hb dX9_weathers_7 rfl hl (by decide) rfl (fun ls hl => ?_)
    refine lv_iload_n hx hb dX9_weathers_8 rfl (lv_at hl 0 rfl) ?_
    refine lv_if_eq (tgt := 16) hx hb dX9_weathers_9 (by decide) (fun c_282 => absurd c_282 (by decide)) (fun _ => ?_)
    refine lv_iload_n hx hb dX9_weathers_12 rfl (lv_at hl 0 rfl) ?_
    refine lv_goto (tgt := 27) hx hb dX9_weathers_13 (by decide) ?_
    have hP := subP (ws' := [(y 0, .inr (9, o9_rirrrrrrrrvviii (y 1) py0_1 (y 2) (y 10) (y 19) (y 25) (y 26) (y 30) (y 31) (y 32) o10 o11 py0_12 py0_13 py0_14)), (y 2, .inr (1, o1_iiiiiirrrrrrriiiii py2_0 py2_1 py2_2 py2_3 py2_4 py2_5 (y 3) (y 4) (y 5) (y 6) (y 7) (y 8) (y 9) py2_13 py2_14 py2_15 py2_16 py2_17)), (y 3, aI V 4 fy3), (y 9, aI V 900 fy9), (y 19, .inr (4, o4_rrrrrr (y 2) (y 20) (y 21) (y 22) (y 23) (y 24))), (y 20, aI V 2000 fy20), (y 21, aI V 6 fy21), (y 22, aI V 64 fy22), (y 30, aT V 4 (va_up (va_up (va_up (va_up (fun _ => none) 0 (some (y 33))) 1 (some (y 35))) 2 (some (y 37))) 3 (some (y 39)))), (y 32, aI V 10 fy32), (y 33, .inr (7, o7_rii (y 34) py33_1 py33_2)), (y 34, aJ V 40 fy34), (y 35, .inr (7, o7_rii (y 36) py35_1 py35_2)), (y 36, aJ V 40 fy36), (y 37, .inr (7, o7_rii (y 38) py37_1 py37_2)), (y 38, aJ V 40 fy38), (y 39, .inr (7, o7_rii (y 40) py39_1 py39_2)), (y 40, aJ V 40 fy40)]) hP [7, 8, 0, 1, 2, 3, 4, 5, 9, 6, 10, 11, 12, 13, 14, 15, 16, 17] rfl
    have hD := subD hP hD [7, 8, 0, 1, 2, 3, 4, 5, 9, 6, 10, 11, 12, 13, 14, 15, 16, 17] rfl rfl
    exact fiI hx hb hr hlk hK hP hD hS dX9_weathers_27 (Nat.le_of_ble_eq_true rfl) (Nat.le_of_ble_eq_true rfl) (⟨fy20, fy21, fy22, fy32, tfy20, tfy32, hK9, rfl⟩)
  · have hP : va_P V.1 vwCl [(y 3, aI V 4 fy3), (y 9, aI V 900 fy9), (y 19, .inr (4, o4_rrrrrr (y 2) (y 20) (y 21) (y 22) (y 23) (y 24))), (y 20, aI V 2000 fy20), (y 21, aI V 6 fy21), (y 22, aI V 64 fy22), (y 32, aI V 10 fy32), (y 0, .inr (9, o9_rirrrrrrrrvviii (y 1) py0_1 (y 2) (y 10) (y 19) (y 25) (y 26) (y 30) (y 31) (y 32) o10 o11 py0_12 py0_13 py0_14)), (y 2, .inr (1, o1_iiiiiirrrrrrriiiii py2_0 py2_1 py2_2 py2_3 py2_4 py2_5 (y 3) (y 4) (y 5) (y 6) (y 7) (y 8) (y 9) py2_13 py2_14 py2_15 py2_16 py2_17)), (y 30, aT V 4 (va_up (va_up (va_up (va_up (fun _ => none) 0 (some (y 33))) 1 (some (y 35))) 2 (some (y 37))) 3 (some (y 39)))), (y 33, .inr (7, o7_rii (y 34) py33_1 py33_2)), (y 34, aJ V 40 fy34), (y 35, .inr (7, o7_rii (y 36) py35_1 py35_2)), (y 36, aJ V 40 fy36), (y 37, .inr (7, o7_rii (y 38) py37_1 py37_2)), (y 38, aJ V 40 fy38), (y 39, .inr (7, o7_rii (y 40) py39_1 py39_2)), (y 40, aJ V 40 fy40)] H := hP
    have hD := cpD hP hD
    have b_283 : iv 0 2147483647 a2 := iv_e2 (Int32.not_lt.mp c_86) (iv_c (0 : Int32) (a := 0) (b := 0) (by decide)) (iv_top a2) (by decide)
    have b_284 : iv 0 3 a2 := iv_l1 (Int32.not_le.mp c_87) b_283 bpy2_1 (by decide)
    have b_285 : iv 1 4 py2_1 := iv_l2 (Int32.not_le.mp c_87) b_283 bpy2_1 (by decide)
    have b_286 : iv 1 1 a1 := iv_q c_88 (iv_c (1 : Int32) (a := 1) (b := 1) (by decide))
    have b_287 : iv 0 40 py35_1 := iv_e2 c_89 (iv_c (0 : Int32) (a := 0) (b := 0) (by decide)) bpy35_1 (by decide)
    have b_288 : iv 1 40 py35_1 := iv_e2 (Int32.not_lt.mp c_90) (iv_c (1 : Int32) (a := 1) (b := 1) (by decide)) b_287 (by decide)
    have b_289 : iv 9 40 py35_1 := iv_l2 (Int32.not_le.mp c_91) (iv_c (8 : Int32) (a := 8) (b := 8) (by decide)) b_288 (by decide)
    refine lv_istore_n (lv' := [(3, .int (-4)), (0, .ref (y 0)), (1, .int a1), (2, .int a2)]) hx hb dX9_weathers_7 rfl hl (by decide) rfl (fun ls hl => ?_)
    refine lv_iload_n hx hb dX9_weathers_8 rfl (lv_at hl 0 rfl) ?_
    refine lv_if_eq (tgt := 16) hx hb dX9_weathers_9 (by decide) (fun c_291 => absurd c_291 (by decide)) (fun _ => ?_)
    refine lv_iload_n hx hb dX9_weathers_12 rfl (lv_at hl 0 rfl) ?_
    refine lv_goto (tgt := 27) hx hb dX9_weathers_13 (by decide) ?_
    have hP := subP (ws' := [(y 0, .inr (9, o9_rirrrrrrrrvviii (y 1) py0_1 (y 2) (y 10) (y 19) (y 25) (y 26) (y 30) (y 31) (y 32) o10 o11 py0_12 py0_13 py0_14)), (y 2, .inr (1, o1_iiiiiirrrrrrriiiii py2_0 py2_1 py2_2 py2_3 py2_4 py2_5 (y 3) (y 4) (y 5) (y 6) (y 7) (y 8) (y 9) py2_13 py2_14 py2_15 py2_16 py2_17)), (y 3, aI V 4 fy3), (y 9, aI V 900 fy9), (y 19, .inr (4, o4_rrrrrr (y 2) (y 20) (y 21) (y 22) (y 23) (y 24))), (y 20, aI V 2000 fy20), (y 21, aI V 6 fy21), (y 22, aI V 64 fy22), (y 30, aT V 4 (va_up (va_up (va_up (va_up (fun _ => none) 0 (some (y 33))) 1 (some (y 35))) 2 (some (y 37))) 3 (some (y 39)))), (y 32, aI V 10 fy32), (y 33, .inr (7, o7_rii (y 34) py33_1 py33_2)), (y 34, aJ V 40 fy34), (y 35, .inr (7, o7_rii (y 36) py35_1 py35_2)), (y 36, aJ V 40 fy36), (y 37, .inr (7, o7_rii (y 38) py37_1 py37_2)), (y 38, aJ V 40 fy38), (y 39, .inr (7, o7_rii (y 40) py39_1 py39_2)), (y 40, aJ V 40 fy40)]) hP [7, 8, 0, 1, 2, 3, 4, 5, 9, 6, 10, 11, 12, 13, 14, 15, 16, 17] rfl
    have hD := subD hP hD [7, 8, 0, 1, 2, 3, 4, 5, 9, 6, 10, 11, 12, 13, 14, 15, 16, 17] rfl rfl
    exact fiI hx hb hr hlk hK hP hD hS dX9_weathers_27 (Nat.le_of_ble_eq_true rfl) (Nat.le_of_ble_eq_true rfl) (⟨fy20, fy21, fy22, fy32, tfy20, tfy32, hK9, rfl⟩)
  · have hP : va_P V.1 vwCl [(y 3, aI V 4 fy3), (y 9, aI V 900 fy9), (y 19, .inr (4, o4_rrrrrr (y 2) (y 20) (y 21) (y 22) (y 23) (y 24))), (y 20, aI V 2000 fy20), (y 21, aI V 6 fy21), (y 22, aI V 64 fy22), (y 32, aI V 10 fy32), (y 0, .inr (9, o9_rirrrrrrrrvviii (y 1) py0_1 (y 2) (y 10) (y 19) (y 25) (y 26) (y 30) (y 31) (y 32) o10 o11 py0_12 py0_13 py0_14)), (y 2, .inr (1, o1_iiiiiirrrrrrriiiii py2_0 py2_1 py2_2 py2_3 py2_4 py2_5 (y 3) (y 4) (y 5) (y 6) (y 7) (y 8) (y 9) py2_13 py2_14 py2_15 py2_16 py2_17)), (y 30, aT V 4 (va_up (va_up (va_up (va_up (fun _ => none) 0 (some (y 33))) 1 (some (y 35))) 2 (some (y 37))) 3 (some (y 39)))), (y 33, .inr (7, o7_rii (y 34) py33_1 py33_2)), (y 34, aJ V 40 fy34), (y 35, .inr (7, o7_rii (y 36) py35_1 py35_2)), (y 36, aJ V 40 fy36), (y 37, .inr (7, o7_rii (y 38) py37_1 py37_2)), (y 38, aJ V 40 fy38), (y 39, .inr (7, o7_rii (y 40) py39_1 py39_2)), (y 40, aJ V 40 fy40)] H := hP
    have hD := cpD hP hD
    have b_292 : iv 0 2147483647 a2 := iv_e2 (Int32.not_lt.mp c_95) (iv_c (0 : Int32) (a := 0) (b := 0) (by decide)) (iv_top a2) (by decide)
    have b_293 : iv 0 3 a2 := iv_l1 (Int32.not_le.mp c_96) b_292 bpy2_1 (by decide)
    have b_294 : iv 1 4 py2_1 := iv_l2 (Int32.not_le.mp c_96) b_292 bpy2_1 (by decide)
    have b_295 : iv 1 1 a1 := iv_q c_97 (iv_c (1 : Int32) (a := 1) (b := 1) (by decide))
    have b_296 : iv (-1) (-1) py35_1 := iv_l1 (Int32.not_le.mp c_98) bpy35_1 (iv_c (0 : Int32) (a := 0) (b := 0) (by decide)) (by decide)
    refine lv_istore_n (lv' := [(3, .int (-6)), (0, .ref (y 0)), (1, .int a1), (2, .int a2)]) hx hb dX9_weathers_7 rfl hl (by decide) rfl (fun ls hl => ?_)
    refine lv_iload_n hx hb dX9_weathers_8 rfl (lv_at hl 0 rfl) ?_
    refine lv_if_eq (tgt := 16) hx hb dX9_weathers_9 (by decide) (fun c_298 => absurd c_298 (by decide)) (fun _ => ?_)
    refine lv_iload_n hx hb dX9_weathers_12 rfl (lv_at hl 0 rfl) ?_
    refine lv_goto (tgt := 27) hx hb dX9_weathers_13 (by decide) ?_
    have hP := subP (ws' := [(y 0, .inr (9, o9_rirrrrrrrrvviii (y 1) py0_1 (y 2) (y 10) (y 19) (y 25) (y 26) (y 30) (y 31) (y 32) o10 o11 py0_12 py0_13 py0_14)), (y 2, .inr (1, o1_iiiiiirrrrrrriiiii py2_0 py2_1 py2_2 py2_3 py2_4 py2_5 (y 3) (y 4) (y 5) (y 6) (y 7) (y 8) (y 9) py2_13 py2_14 py2_15 py2_16 py2_17)), (y 3, aI V 4 fy3), (y 9, aI V 900 fy9), (y 19, .inr (4, o4_rrrrrr (y 2) (y 20) (y 21) (y 22) (y 23) (y 24))), (y 20, aI V 2000 fy20), (y 21, aI V 6 fy21), (y 22, aI V 64 fy22), (y 30, aT V 4 (va_up (va_up (va_up (va_up (fun _ => none) 0 (some (y 33))) 1 (some (y 35))) 2 (some (y 37))) 3 (some (y 39)))), (y 32, aI V 10 fy32), (y 33, .inr (7, o7_rii (y 34) py33_1 py33_2)), (y 34, aJ V 40 fy34), (y 35, .inr (7, o7_rii (y 36) py35_1 py35_2)), (y 36, aJ V 40 fy36), (y 37, .inr (7, o7_rii (y 38) py37_1 py37_2)), (y 38, aJ V 40 fy38), (y 39, .inr (7, o7_rii (y 40) py39_1 py39_2)), (y 40, aJ V 40 fy40)]) hP [7, 8, 0, 1, 2, 3, 4, 5, 9, 6, 10, 11, 12, 13, 14, 15, 16, 17] rfl
    have hD := subD hP hD [7, 8, 0, 1, 2, 3, 4, 5, 9, 6, 10, 11, 12, 13, 14, 15, 16, 17] rfl rfl
    exact fiI hx hb hr hlk hK hP hD hS dX9_weathers_27 (Nat.le_of_ble_eq_true rfl) (Nat.le_of_ble_eq_true rfl) (⟨fy20, fy21, fy22, fy32, tfy20, tfy32, hK9, rfl⟩)
  · have hP : va_P V.1 vwCl [(y 3, aI V 4 fy3), (y 9, aI V 900 fy9), (y 19, .inr (4, o4_rrrrrr (y 2) (y 20) (y 21) (y 22) (y 23) (y 24))), (y 20, aI V 2000 fy20), (y 21, aI V 6 fy21), (y 22, aI V 64 fy22), (y 32, aI V 10 fy32), (y 0, .inr (9, o9_rirrrrrrrrvviii (y 1) py0_1 (y 2) (y 10) (y 19) (y 25) (y 26) (y 30) (y 31) (y 32) o10 o11 py0_12 py0_13 py0_14)), (y 2, .inr (1, o1_iiiiiirrrrrrriiiii py2_0 py2_1 py2_2 py2_3 py2_4 py2_5 (y 3) (y 4) (y 5) (y 6) (y 7) (y 8) (y 9) py2_13 py2_14 py2_15 py2_16 py2_17)), (y 30, aT V 4 (va_up (va_up (va_up (va_up (fun _ => none) 0 (some (y 33))) 1 (some (y 35))) 2 (some (y 37))) 3 (some (y 39)))), (y 33, .inr (7, o7_rii (y 34) py33_1 py33_2)), (y 34, aJ V 40 fy34), (y 35, .inr (7, o7_rii (y 36) py35_1 py35_2)), (y 36, aJ V 40 fy36), (y 37, .inr (7, o7_rii (y 38) py37_1 py37_2)), (y 38, aJ V 40 fy38), (y 39, .inr (7, o7_rii (y 40) py39_1 py39_2)), (y 40, aJ V 40 fy40)] H := hP
    have hD := cpD hP hD
    have b_299 : iv 0 2147483647 a2 := iv_e2 (Int32.not_lt.mp c_102) (iv_c (0 : Int32) (a := 0) (b := 0) (by decide)) (iv_top a2) (by decide)
    have b_300 : iv 0 3 a2 := iv_l1 (Int32.not_le.mp c_103) b_299 bpy2_1 (by decide)
    have b_301 : iv 1 4 py2_1 := iv_l2 (Int32.not_le.mp c_103) b_299 bpy2_1 (by decide)
    have b_302 : iv 2 2 a1 := iv_q c_104 (iv_c (2 : Int32) (a := 2) (b := 2) (by decide))
    have b_303 : iv 0 40 py37_1 := iv_e2 c_105 (iv_c (0 : Int32) (a := 0) (b := 0) (by decide)) bpy37_1 (by decide)
    have b_304 : iv 0 0 py37_1 := iv_l1 c_106 b_303 (iv_c (1 : Int32) (a := 1) (b := 1) (by decide)) (by decide)
    refine lv_istore_n (lv' := [(3, .int (-4)), (0, .ref (y 0)), (1, .int a1), (2, .int a2)]) hx hb dX9_weathers_7 rfl hl (by decide) rfl (fun ls hl => ?_)
    refine lv_iload_n hx hb dX9_weathers_8 rfl (lv_at hl 0 rfl) ?_
    refine lv_if_eq (tgt := 16) hx hb dX9_weathers_9 (by decide) (fun c_306 => absurd c_306 (by decide)) (fun _ => ?_)
    refine lv_iload_n hx hb dX9_weathers_12 rfl (lv_at hl 0 rfl) ?_
    refine lv_goto (tgt := 27) hx hb dX9_weathers_13 (by decide) ?_
    have hP := subP (ws' := [(y 0, .inr (9, o9_rirrrrrrrrvviii (y 1) py0_1 (y 2) (y 10) (y 19) (y 25) (y 26) (y 30) (y 31) (y 32) o10 o11 py0_12 py0_13 py0_14)), (y 2, .inr (1, o1_iiiiiirrrrrrriiiii py2_0 py2_1 py2_2 py2_3 py2_4 py2_5 (y 3) (y 4) (y 5) (y 6) (y 7) (y 8) (y 9) py2_13 py2_14 py2_15 py2_16 py2_17)), (y 3, aI V 4 fy3), (y 9, aI V 900 fy9), (y 19, .inr (4, o4_rrrrrr (y 2) (y 20) (y 21) (y 22) (y 23) (y 24))), (y 20, aI V 2000 fy20), (y 21, aI V 6 fy21), (y 22, aI V 64 fy22), (y 30, aT V 4 (va_up (va_up (va_up (va_up (fun _ => none) 0 (some (y 33))) 1 (some (y 35))) 2 (some (y 37))) 3 (some (y 39)))), (y 32, aI V 10 fy32), (y 33, .inr (7, o7_rii (y 34) py33_1 py33_2)), (y 34, aJ V 40 fy34), (y 35, .inr (7, o7_rii (y 36) py35_1 py35_2)), (y 36, aJ V 40 fy36), (y 37, .inr (7, o7_rii (y 38) py37_1 py37_2)), (y 38, aJ V 40 fy38), (y 39, .inr (7, o7_rii (y 40) py39_1 py39_2)), (y 40, aJ V 40 fy40)]) hP [7, 8, 0, 1, 2, 3, 4, 5, 9, 6, 10, 11, 12, 13, 14, 15, 16, 17] rfl
    have hD := subD hP hD [7, 8, 0, 1, 2, 3, 4, 5, 9, 6, 10, 11, 12, 13, 14, 15, 16, 17] rfl rfl
    exact fiI hx hb hr hlk hK hP hD hS dX9_weathers_27 (Nat.le_of_ble_eq_true rfl) (Nat.le_of_ble_eq_true rfl) (⟨fy20, fy21, fy22, fy32, tfy20, tfy32, hK9, rfl⟩)
  · have hP : va_P V.1 vwCl [(y 3, aI V 4 fy3), (y 9, aI V 900 fy9), (y 19, .inr (4, o4_rrrrrr (y 2) (y 20) (y 21) (y 22) (y 23) (y 24))), (y 20, aI V 2000 fy20), (y 21, aI V 6 fy21), (y 22, aI V 64 fy22), (y 32, aI V 10 fy32), (y 0, .inr (9, o9_rirrrrrrrrvviii (y 1) py0_1 (y 2) (y 10) (y 19) (y 25) (y 26) (y 30) (y 31) (y 32) o10 o11 py0_12 py0_13 py0_14)), (y 2, .inr (1, o1_iiiiiirrrrrrriiiii py2_0 py2_1 py2_2 py2_3 py2_4 py2_5 (y 3) (y 4) (y 5) (y 6) (y 7) (y 8) (y 9) py2_13 py2_14 py2_15 py2_16 py2_17)), (y 30, aT V 4 (va_up (va_up (va_up (va_up (fun _ => none) 0 (some (y 33))) 1 (some (y 35))) 2 (some (y 37))) 3 (some (y 39)))), (y 33, .inr (7, o7_rii (y 34) py33_1 py33_2)), (y 34, aJ V 40 fy34), (y 35, .inr (7, o7_rii (y 36) py35_1 py35_2)), (y 36, aJ V 40 fy36), (y 37, .inr (7, o7_rii (y 38) py37_1 py37_2)), (y 38, aJ V 40 fy38), (y 39, .inr (7, o7_rii (y 40) py39_1 py39_2)), (y 40, aJ V 40 fy40)] H := hP
    have hD := cpD hP hD
    have b_307 : iv 0 2147483647 a2 := iv_e2 (Int32.not_lt.mp c_110) (iv_c (0 : Int32) (a := 0) (b := 0) (by decide)) (iv_top a2) (by decide)
    have b_308 : iv 0 3 a2 := iv_l1 (Int32.not_le.mp c_111) b_307 bpy2_1 (by decide)
    have b_309 : iv 1 4 py2_1 := iv_l2 (Int32.not_le.mp c_111) b_307 bpy2_1 (by decide)
    have b_310 : iv 2 2 a1 := iv_q c_112 (iv_c (2 : Int32) (a := 2) (b := 2) (by decide))
    have b_311 : iv 0 40 py37_1 := iv_e2 c_113 (iv_c (0 : Int32) (a := 0) (b := 0) (by decide)) bpy37_1 (by decide)
    have b_312 : iv 1 40 py37_1 := iv_e2 (Int32.not_lt.mp c_114) (iv_c (1 : Int32) (a := 1) (b := 1) (by decide)) b_311 (by decide)
    have b_313 : iv 1 8 py37_1 := iv_e1 c_115 b_312 (iv_c (8 : Int32) (a := 8) (b := 8) (by decide)) (by decide)
    refine lv_istore_n (lv' := [(3, .int 0), (0, .ref (y 0)), (1, .int a1), (2, .int a2)]) hx hb dX9_weathers_7 rfl hl (by decide) rfl (fun ls hl => ?_)
    refine lv_iload_n hx hb dX9_weathers_8 rfl (lv_at hl 0 rfl) ?_
    refine lv_if_eq (tgt := 16) hx hb dX9_weathers_9 (by decide) (fun _ => ?_) (fun c_315 => absurd c_315 (by decide))
    refine lv_aload_n hx hb dX9_weathers_16 rfl (lv_at hl 1 rfl) ?_
    refine lv_aload_n hx hb dX9_weathers_17 rfl (lv_at hl 1 rfl) ?_
    refine va_get (ci := 9) (v := .ref (y 30)) (C := RX9) (T := TX9) (N := 15) hx hb hg inX9 hown hK hP 7 rfl rfl 7 (by decide) (hg _ q_2_43) (fun _ h9 => h9) rfl dX9_weathers_18 ?_
    refine lv_iload_n hx hb dX9_weathers_21 rfl (lv_at hl 2 rfl) ?_
    have c_316 : a1 = 2 := by have q9 := b_310; unfold iv at q9; simp only [tI_eq, (by decide : (2 : Int32).toInt = 2)]; omega
    rcases c_316 with rfl
    · refine va_aldq hx hb hK hP 9 4 rfl rfl (vin (by decide +kernel)) dX9_weathers_22 ?_
      refine W.eq (g2 := F0 m 23 ls (.ref (y 37) :: .ref (y 0) :: [])) rfl ?_
      refine lv_iload_n hx hb dX9_weathers_23 rfl (lv_at hl 3 rfl) ?_
      refine jnI (wr := [(y 30, aT V 4 (va_up (va_up (va_up (va_up (fun _ => none) 0 (some (y 33))) 1 (some (y 35))) 2 (some (y 37))) 3 (some (y 39)))), (y 33, .inr (7, o7_rii (y 34) py33_1 py33_2)), (y 34, aJ V 40 fy34), (y 35, .inr (7, o7_rii (y 36) py35_1 py35_2)), (y 36, aJ V 40 fy36), (y 39, .inr (7, o7_rii (y 40) py39_1 py39_2)), (y 40, aJ V 40 fy40)]) (rnV (rest := []) ⟨hx, hb, hml, hown, hg⟩ (k_X9_fittingWeathers_2 l V y D9 a2 fy3 fy9 fy20 fy21 fy22 fy32 py0_1 o10 o11 py0_12 py0_13 py0_14 py2_0 py2_1 py2_2 py2_3 py2_4 py2_5 py2_13 py2_14 py2_15 py2_16 py2_17 py37_1 py37_2 fy38 b_308 tfy20 tfy32 bpy0_1 bpy0_12 bpy0_13 (iv_w b_309 (by decide)) bpy2_2 bpy2_3 bpy2_4 bpy2_5 bpy2_13 bpy2_14 bpy2_15 bpy2_16 bpy2_17 (iv_w b_313 (by decide)) hL9 hK9) mt_X9_fittingWeathers q_5_67 ⟨Nat.le_of_ble_eq_true rfl, Nat.le_of_ble_eq_true rfl⟩ hK hP hD hS hA hE [0, 1, 2, 3, 4, 5, 6, 7, 8, 14, 15] rfl rfl 7 rfl rfl rfl rfl hl.1 rfl (Nat.le_of_ble_eq_true rfl) dX9_weathers_24 ⟨Nat.le_of_ble_eq_true rfl, Nat.le_of_ble_eq_true rfl⟩) hP hD hS hA [0, 1, 2, 3, 4, 5, 6, 7, 8, 14, 15] [9, 10, 11, 12, 13, 16, 17] rfl rfl rfl (by decide) (fun r_317 w H locs hw hP hD hS => ?_)
      obtain ⟨f_318, f_319, f_320, f_321, tf_318, tf_321, kn_322, rfl⟩ := hw
      have hP : va_P V.1 vwCl [(y 30, aT V 4 (va_up (va_up (va_up (va_up (fun _ => none) 0 (some (y 33))) 1 (some (y 35))) 2 (some (y 37))) 3 (some (y 39)))), (y 33, .inr (7, o7_rii (y 34) py33_1 py33_2)), (y 34, aJ V 40 fy34), (y 35, .inr (7, o7_rii (y 36) py35_1 py35_2)), (y 36, aJ V 40 fy36), (y 39, .inr (7, o7_rii (y 40) py39_1 py39_2)), (y 40, aJ V 40 fy40), (y 3, aI V 4 fy3), (y 9, aI V 900 fy9), (y 19, .inr (4, o4_rrrrrr (y 2) (y 20) (y 21) (y 22) (y 23) (y 24))), (y 20, aI V 2000 f_318), (y 21, aI V 6 f_319), (y 22, aI V 64 f_320), (y 32, aI V 10 f_321), (y 0, .inr (9, o9_rirrrrrrrrvviii (y 1) py0_1 (y 2) (y 10) (y 19) (y 25) (y 26) (y 30) (y 31) (y 32) o10 o11 py0_12 py0_13 py0_14)), (y 2, .inr (1, o1_iiiiiirrrrrrriiiii py2_0 py2_1 py2_2 py2_3 py2_4 py2_5 (y 3) (y 4) (y 5) (y 6) (y 7) (y 8) (y 9) py2_13 py2_14 py2_15 py2_16 py2_17)), (y 37, .inr (7, o7_rii (y 38) py37_1 py37_2)), (y 38, aJ V 40 fy38)] H := hP
      have hD := cpD hP hD
      have hP := subP (ws' := [(y 0, .inr (9, o9_rirrrrrrrrvviii (y 1) py0_1 (y 2) (y 10) (y 19) (y 25) (y 26) (y 30) (y 31) (y 32) o10 o11 py0_12 py0_13 py0_14)), (y 2, .inr (1, o1_iiiiiirrrrrrriiiii py2_0 py2_1 py2_2 py2_3 py2_4 py2_5 (y 3) (y 4) (y 5) (y 6) (y 7) (y 8) (y 9) py2_13 py2_14 py2_15 py2_16 py2_17)), (y 3, aI V 4 fy3), (y 9, aI V 900 fy9), (y 19, .inr (4, o4_rrrrrr (y 2) (y 20) (y 21) (y 22) (y 23) (y 24))), (y 20, aI V 2000 f_318), (y 21, aI V 6 f_319), (y 22, aI V 64 f_320), (y 30, aT V 4 (va_up (va_up (va_up (va_up (fun _ => none) 0 (some (y 33))) 1 (some (y 35))) 2 (some (y 37))) 3 (some (y 39)))), (y 32, aI V 10 f_321), (y 33, .inr (7, o7_rii (y 34) py33_1 py33_2)), (y 34, aJ V 40 fy34), (y 35, .inr (7, o7_rii (y 36) py35_1 py35_2)), (y 36, aJ V 40 fy36), (y 37, .inr (7, o7_rii (y 38) py37_1 py37_2)), (y 38, aJ V 40 fy38), (y 39, .inr (7, o7_rii (y 40) py39_1 py39_2)), (y 40, aJ V 40 fy40)]) hP [14, 15, 7, 8, 9, 10, 11, 12, 0, 13, 1, 2, 3, 4, 16, 17, 5, 6] rfl
      have hD := subD hP hD [14, 15, 7, 8, 9, 10, 11, 12, 0, 13, 1, 2, 3, 4, 16, 17, 5, 6] rfl rfl
      exact fiI hx hb hr hlk hK hP hD hS dX9_weathers_27 (Nat.le_of_ble_eq_true rfl) (Nat.le_of_ble_eq_true rfl) (⟨f_318, f_319, f_320, f_321, tf_318, tf_321, kn_322, rfl⟩)
  · have hP : va_P V.1 vwCl [(y 3, aI V 4 fy3), (y 9, aI V 900 fy9), (y 19, .inr (4, o4_rrrrrr (y 2) (y 20) (y 21) (y 22) (y 23) (y 24))), (y 20, aI V 2000 fy20), (y 21, aI V 6 fy21), (y 22, aI V 64 fy22), (y 32, aI V 10 fy32), (y 0, .inr (9, o9_rirrrrrrrrvviii (y 1) py0_1 (y 2) (y 10) (y 19) (y 25) (y 26) (y 30) (y 31) (y 32) o10 o11 py0_12 py0_13 py0_14)), (y 2, .inr (1, o1_iiiiiirrrrrrriiiii py2_0 py2_1 py2_2 py2_3 py2_4 py2_5 (y 3) (y 4) (y 5) (y 6) (y 7) (y 8) (y 9) py2_13 py2_14 py2_15 py2_16 py2_17)), (y 30, aT V 4 (va_up (va_up (va_up (va_up (fun _ => none) 0 (some (y 33))) 1 (some (y 35))) 2 (some (y 37))) 3 (some (y 39)))), (y 33, .inr (7, o7_rii (y 34) py33_1 py33_2)), (y 34, aJ V 40 fy34), (y 35, .inr (7, o7_rii (y 36) py35_1 py35_2)), (y 36, aJ V 40 fy36), (y 37, .inr (7, o7_rii (y 38) py37_1 py37_2)), (y 38, aJ V 40 fy38), (y 39, .inr (7, o7_rii (y 40) py39_1 py39_2)), (y 40, aJ V 40 fy40)] H := hP
    have hD := cpD hP hD
    have b_323 : iv 0 2147483647 a2 := iv_e2 (Int32.not_lt.mp c_119) (iv_c (0 : Int32) (a := 0) (b := 0) (by decide)) (iv_top a2) (by decide)
    have b_324 : iv 0 3 a2 := iv_l1 (Int32.not_le.mp c_120) b_323 bpy2_1 (by decide)
    have b_325 : iv 1 4 py2_1 := iv_l2 (Int32.not_le.mp c_120) b_323 bpy2_1 (by decide)
    have b_326 : iv 2 2 a1 := iv_q c_121 (iv_c (2 : Int32) (a := 2) (b := 2) (by decide))
    have b_327 : iv 0 40 py37_1 := iv_e2 c_122 (iv_c (0 : Int32) (a := 0) (b := 0) (by decide)) bpy37_1 (by decide)
    have b_328 : iv 1 40 py37_1 := iv_e2 (Int32.not_lt.mp c_123) (iv_c (1 : Int32) (a := 1) (b := 1) (by decide)) b_327 (by decide)
    have b_329 : iv 1 8 py37_1 := iv_e1 c_124 b_328 (iv_c (8 : Int32) (a := 8) (b := 8) (by decide)) (by decide)
    refine lv_istore_n (lv' := [(3, .int (-3)), (0, .ref (y 0)), (1, .int a1), (2, .int a2)]) hx hb dX9_weathers_7 rfl hl (by decide) rfl (fun ls hl => ?_)
    refine lv_iload_n hx hb dX9_weathers_8 rfl (lv_at hl 0 rfl) ?_
    refine lv_if_eq (tgt := 16) hx hb dX9_weathers_9 (by decide) (fun c_331 => absurd c_331 (by decide)) (fun _ => ?_)
    refine lv_iload_n hx hb dX9_weathers_12 rfl (lv_at hl 0 rfl) ?_
    refine lv_goto (tgt := 27) hx hb dX9_weathers_13 (by decide) ?_
    have hP := subP (ws' := [(y 0, .inr (9, o9_rirrrrrrrrvviii (y 1) py0_1 (y 2) (y 10) (y 19) (y 25) (y 26) (y 30) (y 31) (y 32) o10 o11 py0_12 py0_13 py0_14)), (y 2, .inr (1, o1_iiiiiirrrrrrriiiii py2_0 py2_1 py2_2 py2_3 py2_4 py2_5 (y 3) (y 4) (y 5) (y 6) (y 7) (y 8) (y 9) py2_13 py2_14 py2_15 py2_16 py2_17)), (y 3, aI V 4 fy3), (y 9, aI V 900 fy9), (y 19, .inr (4, o4_rrrrrr (y 2) (y 20) (y 21) (y 22) (y 23) (y 24))), (y 20, aI V 2000 fy20), (y 21, aI V 6 fy21), (y 22, aI V 64 fy22), (y 30, aT V 4 (va_up (va_up (va_up (va_up (fun _ => none) 0 (some (y 33))) 1 (some (y 35))) 2 (some (y 37))) 3 (some (y 39)))), (y 32, aI V 10 fy32), (y 33, .inr (7, o7_rii (y 34) py33_1 py33_2)), (y 34, aJ V 40 fy34), (y 35, .inr (7, o7_rii (y 36) py35_1 py35_2)), (y 36, aJ V 40 fy36), (y 37, .inr (7, o7_rii (y 38) py37_1 py37_2)), (y 38, aJ V 40 fy38), (y 39, .inr (7, o7_rii (y 40) py39_1 py39_2)), (y 40, aJ V 40 fy40)]) hP [7, 8, 0, 1, 2, 3, 4, 5, 9, 6, 10, 11, 12, 13, 14, 15, 16, 17] rfl
    have hD := subD hP hD [7, 8, 0, 1, 2, 3, 4, 5, 9, 6, 10, 11, 12, 13, 14, 15, 16, 17] rfl rfl
    exact fiI hx hb hr hlk hK hP hD hS dX9_weathers_27 (Nat.le_of_ble_eq_true rfl) (Nat.le_of_ble_eq_true rfl) (⟨fy20, fy21, fy22, fy32, tfy20, tfy32, hK9, rfl⟩)
  · have hP : va_P V.1 vwCl [(y 3, aI V 4 fy3), (y 9, aI V 900 fy9), (y 19, .inr (4, o4_rrrrrr (y 2) (y 20) (y 21) (y 22) (y 23) (y 24))), (y 20, aI V 2000 fy20), (y 21, aI V 6 fy21), (y 22, aI V 64 fy22), (y 32, aI V 10 fy32), (y 0, .inr (9, o9_rirrrrrrrrvviii (y 1) py0_1 (y 2) (y 10) (y 19) (y 25) (y 26) (y 30) (y 31) (y 32) o10 o11 py0_12 py0_13 py0_14)), (y 2, .inr (1, o1_iiiiiirrrrrrriiiii py2_0 py2_1 py2_2 py2_3 py2_4 py2_5 (y 3) (y 4) (y 5) (y 6) (y 7) (y 8) (y 9) py2_13 py2_14 py2_15 py2_16 py2_17)), (y 30, aT V 4 (va_up (va_up (va_up (va_up (fun _ => none) 0 (some (y 33))) 1 (some (y 35))) 2 (some (y 37))) 3 (some (y 39)))), (y 33, .inr (7, o7_rii (y 34) py33_1 py33_2)), (y 34, aJ V 40 fy34), (y 35, .inr (7, o7_rii (y 36) py35_1 py35_2)), (y 36, aJ V 40 fy36), (y 37, .inr (7, o7_rii (y 38) py37_1 py37_2)), (y 38, aJ V 40 fy38), (y 39, .inr (7, o7_rii (y 40) py39_1 py39_2)), (y 40, aJ V 40 fy40)] H := hP
    have hD := cpD hP hD
    have b_332 : iv 0 2147483647 a2 := iv_e2 (Int32.not_lt.mp c_128) (iv_c (0 : Int32) (a := 0) (b := 0) (by decide)) (iv_top a2) (by decide)
    have b_333 : iv 0 3 a2 := iv_l1 (Int32.not_le.mp c_129) b_332 bpy2_1 (by decide)
    have b_334 : iv 1 4 py2_1 := iv_l2 (Int32.not_le.mp c_129) b_332 bpy2_1 (by decide)
    have b_335 : iv 2 2 a1 := iv_q c_130 (iv_c (2 : Int32) (a := 2) (b := 2) (by decide))
    have b_336 : iv 0 40 py37_1 := iv_e2 c_131 (iv_c (0 : Int32) (a := 0) (b := 0) (by decide)) bpy37_1 (by decide)
    have b_337 : iv 1 40 py37_1 := iv_e2 (Int32.not_lt.mp c_132) (iv_c (1 : Int32) (a := 1) (b := 1) (by decide)) b_336 (by decide)
    have b_338 : iv 9 40 py37_1 := iv_l2 (Int32.not_le.mp c_133) (iv_c (8 : Int32) (a := 8) (b := 8) (by decide)) b_337 (by decide)
    refine lv_istore_n (lv' := [(3, .int (-4)), (0, .ref (y 0)), (1, .int a1), (2, .int a2)]) hx hb dX9_weathers_7 rfl hl (by decide) rfl (fun ls hl => ?_)
    refine lv_iload_n hx hb dX9_weathers_8 rfl (lv_at hl 0 rfl) ?_
    refine lv_if_eq (tgt := 16) hx hb dX9_weathers_9 (by decide) (fun c_340 => absurd c_340 (by decide)) (fun _ => ?_)
    refine lv_iload_n hx hb dX9_weathers_12 rfl (lv_at hl 0 rfl) ?_
    refine lv_goto (tgt := 27) hx hb dX9_weathers_13 (by decide) ?_
    have hP := subP (ws' := [(y 0, .inr (9, o9_rirrrrrrrrvviii (y 1) py0_1 (y 2) (y 10) (y 19) (y 25) (y 26) (y 30) (y 31) (y 32) o10 o11 py0_12 py0_13 py0_14)), (y 2, .inr (1, o1_iiiiiirrrrrrriiiii py2_0 py2_1 py2_2 py2_3 py2_4 py2_5 (y 3) (y 4) (y 5) (y 6) (y 7) (y 8) (y 9) py2_13 py2_14 py2_15 py2_16 py2_17)), (y 3, aI V 4 fy3), (y 9, aI V 900 fy9), (y 19, .inr (4, o4_rrrrrr (y 2) (y 20) (y 21) (y 22) (y 23) (y 24))), (y 20, aI V 2000 fy20), (y 21, aI V 6 fy21), (y 22, aI V 64 fy22), (y 30, aT V 4 (va_up (va_up (va_up (va_up (fun _ => none) 0 (some (y 33))) 1 (some (y 35))) 2 (some (y 37))) 3 (some (y 39)))), (y 32, aI V 10 fy32), (y 33, .inr (7, o7_rii (y 34) py33_1 py33_2)), (y 34, aJ V 40 fy34), (y 35, .inr (7, o7_rii (y 36) py35_1 py35_2)), (y 36, aJ V 40 fy36), (y 37, .inr (7, o7_rii (y 38) py37_1 py37_2)), (y 38, aJ V 40 fy38), (y 39, .inr (7, o7_rii (y 40) py39_1 py39_2)), (y 40, aJ V 40 fy40)]) hP [7, 8, 0, 1, 2, 3, 4, 5, 9, 6, 10, 11, 12, 13, 14, 15, 16, 17] rfl
    have hD := subD hP hD [7, 8, 0, 1, 2, 3, 4, 5, 9, 6, 10, 11, 12, 13, 14, 15, 16, 17] rfl rfl
    exact fiI hx hb hr hlk hK hP hD hS dX9_weathers_27 (Nat.le_of_ble_eq_true rfl) (Nat.le_of_ble_eq_true rfl) (⟨fy20, fy21, fy22, fy32, tfy20, tfy32, hK9, rfl⟩)
  · have hP : va_P V.1 vwCl [(y 3, aI V 4 fy3), (y 9, aI V 900 fy9), (y 19, .inr (4, o4_rrrrrr (y 2) (y 20) (y 21) (y 22) (y 23) (y 24))), (y 20, aI V 2000 fy20), (y 21, aI V 6 fy21), (y 22, aI V 64 fy22), (y 32, aI V 10 fy32), (y 0, .inr (9, o9_rirrrrrrrrvviii (y 1) py0_1 (y 2) (y 10) (y 19) (y 25) (y 26) (y 30) (y 31) (y 32) o10 o11 py0_12 py0_13 py0_14)), (y 2, .inr (1, o1_iiiiiirrrrrrriiiii py2_0 py2_1 py2_2 py2_3 py2_4 py2_5 (y 3) (y 4) (y 5) (y 6) (y 7) (y 8) (y 9) py2_13 py2_14 py2_15 py2_16 py2_17)), (y 30, aT V 4 (va_up (va_up (va_up (va_up (fun _ => none) 0 (some (y 33))) 1 (some (y 35))) 2 (some (y 37))) 3 (some (y 39)))), (y 33, .inr (7, o7_rii (y 34) py33_1 py33_2)), (y 34, aJ V 40 fy34), (y 35, .inr (7, o7_rii (y 36) py35_1 py35_2)), (y 36, aJ V 40 fy36), (y 37, .inr (7, o7_rii (y 38) py37_1 py37_2)), (y 38, aJ V 40 fy38), (y 39, .inr (7, o7_rii (y 40) py39_1 py39_2)), (y 40, aJ V 40 fy40)] H := hP
    have hD := cpD hP hD
    have b_341 : iv 0 2147483647 a2 := iv_e2 (Int32.not_lt.mp c_137) (iv_c (0 : Int32) (a := 0) (b := 0) (by decide)) (iv_top a2) (by decide)
    have b_342 : iv 0 3 a2 := iv_l1 (Int32.not_le.mp c_138) b_341 bpy2_1 (by decide)
    have b_343 : iv 1 4 py2_1 := iv_l2 (Int32.not_le.mp c_138) b_341 bpy2_1 (by decide)
    have b_344 : iv 2 2 a1 := iv_q c_139 (iv_c (2 : Int32) (a := 2) (b := 2) (by decide))
    have b_345 : iv (-1) (-1) py37_1 := iv_l1 (Int32.not_le.mp c_140) bpy37_1 (iv_c (0 : Int32) (a := 0) (b := 0) (by decide)) (by decide)
    refine lv_istore_n (lv' := [(3, .int (-6)), (0, .ref (y 0)), (1, .int a1), (2, .int a2)]) hx hb dX9_weathers_7 rfl hl (by decide) rfl (fun ls hl => ?_)
    refine lv_iload_n hx hb dX9_weathers_8 rfl (lv_at hl 0 rfl) ?_
    refine lv_if_eq (tgt := 16) hx hb dX9_weathers_9 (by decide) (fun c_347 => absurd c_347 (by decide)) (fun _ => ?_)
    refine lv_iload_n hx hb dX9_weathers_12 rfl (lv_at hl 0 rfl) ?_
    refine lv_goto (tgt := 27) hx hb dX9_weathers_13 (by decide) ?_
    have hP := subP (ws' := [(y 0, .inr (9, o9_rirrrrrrrrvviii (y 1) py0_1 (y 2) (y 10) (y 19) (y 25) (y 26) (y 30) (y 31) (y 32) o10 o11 py0_12 py0_13 py0_14)), (y 2, .inr (1, o1_iiiiiirrrrrrriiiii py2_0 py2_1 py2_2 py2_3 py2_4 py2_5 (y 3) (y 4) (y 5) (y 6) (y 7) (y 8) (y 9) py2_13 py2_14 py2_15 py2_16 py2_17)), (y 3, aI V 4 fy3), (y 9, aI V 900 fy9), (y 19, .inr (4, o4_rrrrrr (y 2) (y 20) (y 21) (y 22) (y 23) (y 24))), (y 20, aI V 2000 fy20), (y 21, aI V 6 fy21), (y 22, aI V 64 fy22), (y 30, aT V 4 (va_up (va_up (va_up (va_up (fun _ => none) 0 (some (y 33))) 1 (some (y 35))) 2 (some (y 37))) 3 (some (y 39)))), (y 32, aI V 10 fy32), (y 33, .inr (7, o7_rii (y 34) py33_1 py33_2)), (y 34, aJ V 40 fy34), (y 35, .inr (7, o7_rii (y 36) py35_1 py35_2)), (y 36, aJ V 40 fy36), (y 37, .inr (7, o7_rii (y 38) py37_1 py37_2)), (y 38, aJ V 40 fy38), (y 39, .inr (7, o7_rii (y 40) py39_1 py39_2)), (y 40, aJ V 40 fy40)]) hP [7, 8, 0, 1, 2, 3, 4, 5, 9, 6, 10, 11, 12, 13, 14, 15, 16, 17] rfl
    have hD := subD hP hD [7, 8, 0, 1, 2, 3, 4, 5, 9, 6, 10, 11, 12, 13, 14, 15, 16, 17] rfl rfl
    exact fiI hx hb hr hlk hK hP hD hS dX9_weathers_27 (Nat.le_of_ble_eq_true rfl) (Nat.le_of_ble_eq_true rfl) (⟨fy20, fy21, fy22, fy32, tfy20, tfy32, hK9, rfl⟩)
  · have hP : va_P V.1 vwCl [(y 3, aI V 4 fy3), (y 9, aI V 900 fy9), (y 19, .inr (4, o4_rrrrrr (y 2) (y 20) (y 21) (y 22) (y 23) (y 24))), (y 20, aI V 2000 fy20), (y 21, aI V 6 fy21), (y 22, aI V 64 fy22), (y 32, aI V 10 fy32), (y 0, .inr (9, o9_rirrrrrrrrvviii (y 1) py0_1 (y 2) (y 10) (y 19) (y 25) (y 26) (y 30) (y 31) (y 32) o10 o11 py0_12 py0_13 py0_14)), (y 2, .inr (1, o1_iiiiiirrrrrrriiiii py2_0 py2_1 py2_2 py2_3 py2_4 py2_5 (y 3) (y 4) (y 5) (y 6) (y 7) (y 8) (y 9) py2_13 py2_14 py2_15 py2_16 py2_17)), (y 30, aT V 4 (va_up (va_up (va_up (va_up (fun _ => none) 0 (some (y 33))) 1 (some (y 35))) 2 (some (y 37))) 3 (some (y 39)))), (y 33, .inr (7, o7_rii (y 34) py33_1 py33_2)), (y 34, aJ V 40 fy34), (y 35, .inr (7, o7_rii (y 36) py35_1 py35_2)), (y 36, aJ V 40 fy36), (y 37, .inr (7, o7_rii (y 38) py37_1 py37_2)), (y 38, aJ V 40 fy38), (y 39, .inr (7, o7_rii (y 40) py39_1 py39_2)), (y 40, aJ V 40 fy40)] H := hP
    have hD := cpD hP hD
    have b_348 : iv 0 2147483647 a2 := iv_e2 (Int32.not_lt.mp c_144) (iv_c (0 : Int32) (a := 0) (b := 0) (by decide)) (iv_top a2) (by decide)
    have b_349 : iv 0 3 a2 := iv_l1 (Int32.not_le.mp c_145) b_348 bpy2_1 (by decide)
    have b_350 : iv 1 4 py2_1 := iv_l2 (Int32.not_le.mp c_145) b_348 bpy2_1 (by decide)
    have b_351 : iv 3 3 a1 := iv_q c_146 (iv_c (3 : Int32) (a := 3) (b := 3) (by decide))
    have b_352 : iv 0 40 py39_1 := iv_e2 c_147 (iv_c (0 : Int32) (a := 0) (b := 0) (by decide)) bpy39_1 (by decide)
    have b_353 : iv 0 0 py39_1 := iv_l1 c_148 b_352 (iv_c (1 : Int32) (a := 1) (b := 1) (by decide)) (by decide)
    refine lv_istore_n (lv' := [(3, .int (-4)), (0, .ref (y 0)), (1, .int a1), (2, .int a2)]) hx hb dX9_weathers_7 rfl hl (by decide) rfl (fun ls hl => ?_)
    refine lv_iload_n hx hb dX9_weathers_8 rfl (lv_at hl 0 rfl) ?_
    refine lv_if_eq (tgt := 16) hx hb dX9_weathers_9 (by decide) (fun c_355 => absurd c_355 (by decide)) (fun _ => ?_)
    refine lv_iload_n hx hb dX9_weathers_12 rfl (lv_at hl 0 rfl) ?_
    refine lv_goto (tgt := 27) hx hb dX9_weathers_13 (by decide) ?_
    have hP := subP (ws' := [(y 0, .inr (9, o9_rirrrrrrrrvviii (y 1) py0_1 (y 2) (y 10) (y 19) (y 25) (y 26) (y 30) (y 31) (y 32) o10 o11 py0_12 py0_13 py0_14)), (y 2, .inr (1, o1_iiiiiirrrrrrriiiii py2_0 py2_1 py2_2 py2_3 py2_4 py2_5 (y 3) (y 4) (y 5) (y 6) (y 7) (y 8) (y 9) py2_13 py2_14 py2_15 py2_16 py2_17)), (y 3, aI V 4 fy3), (y 9, aI V 900 fy9), (y 19, .inr (4, o4_rrrrrr (y 2) (y 20) (y 21) (y 22) (y 23) (y 24))), (y 20, aI V 2000 fy20), (y 21, aI V 6 fy21), (y 22, aI V 64 fy22), (y 30, aT V 4 (va_up (va_up (va_up (va_up (fun _ => none) 0 (some (y 33))) 1 (some (y 35))) 2 (some (y 37))) 3 (some (y 39)))), (y 32, aI V 10 fy32), (y 33, .inr (7, o7_rii (y 34) py33_1 py33_2)), (y 34, aJ V 40 fy34), (y 35, .inr (7, o7_rii (y 36) py35_1 py35_2)), (y 36, aJ V 40 fy36), (y 37, .inr (7, o7_rii (y 38) py37_1 py37_2)), (y 38, aJ V 40 fy38), (y 39, .inr (7, o7_rii (y 40) py39_1 py39_2)), (y 40, aJ V 40 fy40)]) hP [7, 8, 0, 1, 2, 3, 4, 5, 9, 6, 10, 11, 12, 13, 14, 15, 16, 17] rfl
    have hD := subD hP hD [7, 8, 0, 1, 2, 3, 4, 5, 9, 6, 10, 11, 12, 13, 14, 15, 16, 17] rfl rfl
    exact fiI hx hb hr hlk hK hP hD hS dX9_weathers_27 (Nat.le_of_ble_eq_true rfl) (Nat.le_of_ble_eq_true rfl) (⟨fy20, fy21, fy22, fy32, tfy20, tfy32, hK9, rfl⟩)
  · have hP : va_P V.1 vwCl [(y 3, aI V 4 fy3), (y 9, aI V 900 fy9), (y 19, .inr (4, o4_rrrrrr (y 2) (y 20) (y 21) (y 22) (y 23) (y 24))), (y 20, aI V 2000 fy20), (y 21, aI V 6 fy21), (y 22, aI V 64 fy22), (y 32, aI V 10 fy32), (y 0, .inr (9, o9_rirrrrrrrrvviii (y 1) py0_1 (y 2) (y 10) (y 19) (y 25) (y 26) (y 30) (y 31) (y 32) o10 o11 py0_12 py0_13 py0_14)), (y 2, .inr (1, o1_iiiiiirrrrrrriiiii py2_0 py2_1 py2_2 py2_3 py2_4 py2_5 (y 3) (y 4) (y 5) (y 6) (y 7) (y 8) (y 9) py2_13 py2_14 py2_15 py2_16 py2_17)), (y 30, aT V 4 (va_up (va_up (va_up (va_up (fun _ => none) 0 (some (y 33))) 1 (some (y 35))) 2 (some (y 37))) 3 (some (y 39)))), (y 33, .inr (7, o7_rii (y 34) py33_1 py33_2)), (y 34, aJ V 40 fy34), (y 35, .inr (7, o7_rii (y 36) py35_1 py35_2)), (y 36, aJ V 40 fy36), (y 37, .inr (7, o7_rii (y 38) py37_1 py37_2)), (y 38, aJ V 40 fy38), (y 39, .inr (7, o7_rii (y 40) py39_1 py39_2)), (y 40, aJ V 40 fy40)] H := hP
    have hD := cpD hP hD
    have b_356 : iv 0 2147483647 a2 := iv_e2 (Int32.not_lt.mp c_152) (iv_c (0 : Int32) (a := 0) (b := 0) (by decide)) (iv_top a2) (by decide)
    have b_357 : iv 0 3 a2 := iv_l1 (Int32.not_le.mp c_153) b_356 bpy2_1 (by decide)
    have b_358 : iv 1 4 py2_1 := iv_l2 (Int32.not_le.mp c_153) b_356 bpy2_1 (by decide)
    have b_359 : iv 3 3 a1 := iv_q c_154 (iv_c (3 : Int32) (a := 3) (b := 3) (by decide))
    have b_360 : iv 0 40 py39_1 := iv_e2 c_155 (iv_c (0 : Int32) (a := 0) (b := 0) (by decide)) bpy39_1 (by decide)
    have b_361 : iv 1 40 py39_1 := iv_e2 (Int32.not_lt.mp c_156) (iv_c (1 : Int32) (a := 1) (b := 1) (by decide)) b_360 (by decide)
    have b_362 : iv 1 8 py39_1 := iv_e1 c_157 b_361 (iv_c (8 : Int32) (a := 8) (b := 8) (by decide)) (by decide)
    refine lv_istore_n (lv' := [(3, .int 0), (0, .ref (y 0)), (1, .int a1), (2, .int a2)]) hx hb dX9_weathers_7 rfl hl (by decide) rfl (fun ls hl => ?_)
    refine lv_iload_n hx hb dX9_weathers_8 rfl (lv_at hl 0 rfl) ?_
    refine lv_if_eq (tgt := 16) hx hb dX9_weathers_9 (by decide) (fun _ => ?_) (fun c_364 => absurd c_364 (by decide))
    refine lv_aload_n hx hb dX9_weathers_16 rfl (lv_at hl 1 rfl) ?_
    refine lv_aload_n hx hb dX9_weathers_17 rfl (lv_at hl 1 rfl) ?_
    refine va_get (ci := 9) (v := .ref (y 30)) (C := RX9) (T := TX9) (N := 15) hx hb hg inX9 hown hK hP 7 rfl rfl 7 (by decide) (hg _ q_2_43) (fun _ h9 => h9) rfl dX9_weathers_18 ?_
    refine lv_iload_n hx hb dX9_weathers_21 rfl (lv_at hl 2 rfl) ?_
    have c_365 : a1 = 3 := by have q9 := b_359; unfold iv at q9; simp only [tI_eq, (by decide : (3 : Int32).toInt = 3)]; omega
    rcases c_365 with rfl
    · refine va_aldq hx hb hK hP 9 4 rfl rfl (vin (by decide +kernel)) dX9_weathers_22 ?_
      refine W.eq (g2 := F0 m 23 ls (.ref (y 39) :: .ref (y 0) :: [])) rfl ?_
      refine lv_iload_n hx hb dX9_weathers_23 rfl (lv_at hl 3 rfl) ?_
      refine jnI (wr := [(y 30, aT V 4 (va_up (va_up (va_up (va_up (fun _ => none) 0 (some (y 33))) 1 (some (y 35))) 2 (some (y 37))) 3 (some (y 39)))), (y 33, .inr (7, o7_rii (y 34) py33_1 py33_2)), (y 34, aJ V 40 fy34), (y 35, .inr (7, o7_rii (y 36) py35_1 py35_2)), (y 36, aJ V 40 fy36), (y 37, .inr (7, o7_rii (y 38) py37_1 py37_2)), (y 38, aJ V 40 fy38)]) (rnV (rest := []) ⟨hx, hb, hml, hown, hg⟩ (k_X9_fittingWeathers_3 l V y D9 a2 fy3 fy9 fy20 fy21 fy22 fy32 py0_1 o10 o11 py0_12 py0_13 py0_14 py2_0 py2_1 py2_2 py2_3 py2_4 py2_5 py2_13 py2_14 py2_15 py2_16 py2_17 py39_1 py39_2 fy40 b_357 tfy20 tfy32 bpy0_1 bpy0_12 bpy0_13 (iv_w b_358 (by decide)) bpy2_2 bpy2_3 bpy2_4 bpy2_5 bpy2_13 bpy2_14 bpy2_15 bpy2_16 bpy2_17 (iv_w b_362 (by decide)) hL9 hK9) mt_X9_fittingWeathers q_5_67 ⟨Nat.le_of_ble_eq_true rfl, Nat.le_of_ble_eq_true rfl⟩ hK hP hD hS hA hE [0, 1, 2, 3, 4, 5, 6, 7, 8, 16, 17] rfl rfl 7 rfl rfl rfl rfl hl.1 rfl (Nat.le_of_ble_eq_true rfl) dX9_weathers_24 ⟨Nat.le_of_ble_eq_true rfl, Nat.le_of_ble_eq_true rfl⟩) hP hD hS hA [0, 1, 2, 3, 4, 5, 6, 7, 8, 16, 17] [9, 10, 11, 12, 13, 14, 15] rfl rfl rfl (by decide) (fun r_366 w H locs hw hP hD hS => ?_)
      obtain ⟨f_367, f_368, f_369, f_370, tf_367, tf_370, kn_371, rfl⟩ := hw
      have hP : va_P V.1 vwCl [(y 30, aT V 4 (va_up (va_up (va_up (va_up (fun _ => none) 0 (some (y 33))) 1 (some (y 35))) 2 (some (y 37))) 3 (some (y 39)))), (y 33, .inr (7, o7_rii (y 34) py33_1 py33_2)), (y 34, aJ V 40 fy34), (y 35, .inr (7, o7_rii (y 36) py35_1 py35_2)), (y 36, aJ V 40 fy36), (y 37, .inr (7, o7_rii (y 38) py37_1 py37_2)), (y 38, aJ V 40 fy38), (y 3, aI V 4 fy3), (y 9, aI V 900 fy9), (y 19, .inr (4, o4_rrrrrr (y 2) (y 20) (y 21) (y 22) (y 23) (y 24))), (y 20, aI V 2000 f_367), (y 21, aI V 6 f_368), (y 22, aI V 64 f_369), (y 32, aI V 10 f_370), (y 0, .inr (9, o9_rirrrrrrrrvviii (y 1) py0_1 (y 2) (y 10) (y 19) (y 25) (y 26) (y 30) (y 31) (y 32) o10 o11 py0_12 py0_13 py0_14)), (y 2, .inr (1, o1_iiiiiirrrrrrriiiii py2_0 py2_1 py2_2 py2_3 py2_4 py2_5 (y 3) (y 4) (y 5) (y 6) (y 7) (y 8) (y 9) py2_13 py2_14 py2_15 py2_16 py2_17)), (y 39, .inr (7, o7_rii (y 40) py39_1 py39_2)), (y 40, aJ V 40 fy40)] H := hP
      have hD := cpD hP hD
      have hP := subP (ws' := [(y 0, .inr (9, o9_rirrrrrrrrvviii (y 1) py0_1 (y 2) (y 10) (y 19) (y 25) (y 26) (y 30) (y 31) (y 32) o10 o11 py0_12 py0_13 py0_14)), (y 2, .inr (1, o1_iiiiiirrrrrrriiiii py2_0 py2_1 py2_2 py2_3 py2_4 py2_5 (y 3) (y 4) (y 5) (y 6) (y 7) (y 8) (y 9) py2_13 py2_14 py2_15 py2_16 py2_17)), (y 3, aI V 4 fy3), (y 9, aI V 900 fy9), (y 19, .inr (4, o4_rrrrrr (y 2) (y 20) (y 21) (y 22) (y 23) (y 24))), (y 20, aI V 2000 f_367), (y 21, aI V 6 f_368), (y 22, aI V 64 f_369), (y 30, aT V 4 (va_up (va_up (va_up (va_up (fun _ => none) 0 (some (y 33))) 1 (some (y 35))) 2 (some (y 37))) 3 (some (y 39)))), (y 32, aI V 10 f_370), (y 33, .inr (7, o7_rii (y 34) py33_1 py33_2)), (y 34, aJ V 40 fy34), (y 35, .inr (7, o7_rii (y 36) py35_1 py35_2)), (y 36, aJ V 40 fy36), (y 37, .inr (7, o7_rii (y 38) py37_1 py37_2)), (y 38, aJ V 40 fy38), (y 39, .inr (7, o7_rii (y 40) py39_1 py39_2)), (y 40, aJ V 40 fy40)]) hP [14, 15, 7, 8, 9, 10, 11, 12, 0, 13, 1, 2, 3, 4, 5, 6, 16, 17] rfl
      have hD := subD hP hD [14, 15, 7, 8, 9, 10, 11, 12, 0, 13, 1, 2, 3, 4, 5, 6, 16, 17] rfl rfl
      exact fiI hx hb hr hlk hK hP hD hS dX9_weathers_27 (Nat.le_of_ble_eq_true rfl) (Nat.le_of_ble_eq_true rfl) (⟨f_367, f_368, f_369, f_370, tf_367, tf_370, kn_371, rfl⟩)
  · have hP : va_P V.1 vwCl [(y 3, aI V 4 fy3), (y 9, aI V 900 fy9), (y 19, .inr (4, o4_rrrrrr (y 2) (y 20) (y 21) (y 22) (y 23) (y 24))), (y 20, aI V 2000 fy20), (y 21, aI V 6 fy21), (y 22, aI V 64 fy22), (y 32, aI V 10 fy32), (y 0, .inr (9, o9_rirrrrrrrrvviii (y 1) py0_1 (y 2) (y 10) (y 19) (y 25) (y 26) (y 30) (y 31) (y 32) o10 o11 py0_12 py0_13 py0_14)), (y 2, .inr (1, o1_iiiiiirrrrrrriiiii py2_0 py2_1 py2_2 py2_3 py2_4 py2_5 (y 3) (y 4) (y 5) (y 6) (y 7) (y 8) (y 9) py2_13 py2_14 py2_15 py2_16 py2_17)), (y 30, aT V 4 (va_up (va_up (va_up (va_up (fun _ => none) 0 (some (y 33))) 1 (some (y 35))) 2 (some (y 37))) 3 (some (y 39)))), (y 33, .inr (7, o7_rii (y 34) py33_1 py33_2)), (y 34, aJ V 40 fy34), (y 35, .inr (7, o7_rii (y 36) py35_1 py35_2)), (y 36, aJ V 40 fy36), (y 37, .inr (7, o7_rii (y 38) py37_1 py37_2)), (y 38, aJ V 40 fy38), (y 39, .inr (7, o7_rii (y 40) py39_1 py39_2)), (y 40, aJ V 40 fy40)] H := hP
    have hD := cpD hP hD
    have b_372 : iv 0 2147483647 a2 := iv_e2 (Int32.not_lt.mp c_161) (iv_c (0 : Int32) (a := 0) (b := 0) (by decide)) (iv_top a2) (by decide)
    have b_373 : iv 0 3 a2 := iv_l1 (Int32.not_le.mp c_162) b_372 bpy2_1 (by decide)
    have b_374 : iv 1 4 py2_1 := iv_l2 (Int32.not_le.mp c_162) b_372 bpy2_1 (by decide)
    have b_375 : iv 3 3 a1 := iv_q c_163 (iv_c (3 : Int32) (a := 3) (b := 3) (by decide))
    have b_376 : iv 0 40 py39_1 := iv_e2 c_164 (iv_c (0 : Int32) (a := 0) (b := 0) (by decide)) bpy39_1 (by decide)
    have b_377 : iv 1 40 py39_1 := iv_e2 (Int32.not_lt.mp c_165) (iv_c (1 : Int32) (a := 1) (b := 1) (by decide)) b_376 (by decide)
    have b_378 : iv 1 8 py39_1 := iv_e1 c_166 b_377 (iv_c (8 : Int32) (a := 8) (b := 8) (by decide)) (by decide)
    refine lv_istore_n (lv' := [(3, .int (-3)), (0, .ref (y 0)), (1, .int a1), (2, .int a2)]) hx hb dX9_weathers_7 rfl hl (by decide) rfl (fun ls hl => ?_)
    refine lv_iload_n hx hb dX9_weathers_8 rfl (lv_at hl 0 rfl) ?_
    refine lv_if_eq (tgt := 16) hx hb dX9_weathers_9 (by decide) (fun c_380 => absurd c_380 (by decide)) (fun _ => ?_)
    refine lv_iload_n hx hb dX9_weathers_12 rfl (lv_at hl 0 rfl) ?_
    refine lv_goto (tgt := 27) hx hb dX9_weathers_13 (by decide) ?_
    have hP := subP (ws' := [(y 0, .inr (9, o9_rirrrrrrrrvviii (y 1) py0_1 (y 2) (y 10) (y 19) (y 25) (y 26) (y 30) (y 31) (y 32) o10 o11 py0_12 py0_13 py0_14)), (y 2, .inr (1, o1_iiiiiirrrrrrriiiii py2_0 py2_1 py2_2 py2_3 py2_4 py2_5 (y 3) (y 4) (y 5) (y 6) (y 7) (y 8) (y 9) py2_13 py2_14 py2_15 py2_16 py2_17)), (y 3, aI V 4 fy3), (y 9, aI V 900 fy9), (y 19, .inr (4, o4_rrrrrr (y 2) (y 20) (y 21) (y 22) (y 23) (y 24))), (y 20, aI V 2000 fy20), (y 21, aI V 6 fy21), (y 22, aI V 64 fy22), (y 30, aT V 4 (va_up (va_up (va_up (va_up (fun _ => none) 0 (some (y 33))) 1 (some (y 35))) 2 (some (y 37))) 3 (some (y 39)))), (y 32, aI V 10 fy32), (y 33, .inr (7, o7_rii (y 34) py33_1 py33_2)), (y 34, aJ V 40 fy34), (y 35, .inr (7, o7_rii (y 36) py35_1 py35_2)), (y 36, aJ V 40 fy36), (y 37, .inr (7, o7_rii (y 38) py37_1 py37_2)), (y 38, aJ V 40 fy38), (y 39, .inr (7, o7_rii (y 40) py39_1 py39_2)), (y 40, aJ V 40 fy40)]) hP [7, 8, 0, 1, 2, 3, 4, 5, 9, 6, 10, 11, 12, 13, 14, 15, 16, 17] rfl
    have hD := subD hP hD [7, 8, 0, 1, 2, 3, 4, 5, 9, 6, 10, 11, 12, 13, 14, 15, 16, 17] rfl rfl
    exact fiI hx hb hr hlk hK hP hD hS dX9_weathers_27 (Nat.le_of_ble_eq_true rfl) (Nat.le_of_ble_eq_true rfl) (⟨fy20, fy21, fy22, fy32, tfy20, tfy32, hK9, rfl⟩)
  · have hP : va_P V.1 vwCl [(y 3, aI V 4 fy3), (y 9, aI V 900 fy9), (y 19, .inr (4, o4_rrrrrr (y 2) (y 20) (y 21) (y 22) (y 23) (y 24))), (y 20, aI V 2000 fy20), (y 21, aI V 6 fy21), (y 22, aI V 64 fy22), (y 32, aI V 10 fy32), (y 0, .inr (9, o9_rirrrrrrrrvviii (y 1) py0_1 (y 2) (y 10) (y 19) (y 25) (y 26) (y 30) (y 31) (y 32) o10 o11 py0_12 py0_13 py0_14)), (y 2, .inr (1, o1_iiiiiirrrrrrriiiii py2_0 py2_1 py2_2 py2_3 py2_4 py2_5 (y 3) (y 4) (y 5) (y 6) (y 7) (y 8) (y 9) py2_13 py2_14 py2_15 py2_16 py2_17)), (y 30, aT V 4 (va_up (va_up (va_up (va_up (fun _ => none) 0 (some (y 33))) 1 (some (y 35))) 2 (some (y 37))) 3 (some (y 39)))), (y 33, .inr (7, o7_rii (y 34) py33_1 py33_2)), (y 34, aJ V 40 fy34), (y 35, .inr (7, o7_rii (y 36) py35_1 py35_2)), (y 36, aJ V 40 fy36), (y 37, .inr (7, o7_rii (y 38) py37_1 py37_2)), (y 38, aJ V 40 fy38), (y 39, .inr (7, o7_rii (y 40) py39_1 py39_2)), (y 40, aJ V 40 fy40)] H := hP
    have hD := cpD hP hD
    have b_381 : iv 0 2147483647 a2 := iv_e2 (Int32.not_lt.mp c_170) (iv_c (0 : Int32) (a := 0) (b := 0) (by decide)) (iv_top a2) (by decide)
    have b_382 : iv 0 3 a2 := iv_l1 (Int32.not_le.mp c_171) b_381 bpy2_1 (by decide)
    have b_383 : iv 1 4 py2_1 := iv_l2 (Int32.not_le.mp c_171) b_381 bpy2_1 (by decide)
    have b_384 : iv 3 3 a1 := iv_q c_172 (iv_c (3 : Int32) (a := 3) (b := 3) (by decide))
    have b_385 : iv 0 40 py39_1 := iv_e2 c_173 (iv_c (0 : Int32) (a := 0) (b := 0) (by decide)) bpy39_1 (by decide)
    have b_386 : iv 1 40 py39_1 := iv_e2 (Int32.not_lt.mp c_174) (iv_c (1 : Int32) (a := 1) (b := 1) (by decide)) b_385 (by decide)
    have b_387 : iv 9 40 py39_1 := iv_l2 (Int32.not_le.mp c_175) (iv_c (8 : Int32) (a := 8) (b := 8) (by decide)) b_386 (by decide)
    refine lv_istore_n (lv' := [(3, .int (-4)), (0, .ref (y 0)), (1, .int a1), (2, .int a2)]) hx hb dX9_weathers_7 rfl hl (by decide) rfl (fun ls hl => ?_)
    refine lv_iload_n hx hb dX9_weathers_8 rfl (lv_at hl 0 rfl) ?_
    refine lv_if_eq (tgt := 16) hx hb dX9_weathers_9 (by decide) (fun c_389 => absurd c_389 (by decide)) (fun _ => ?_)
    refine lv_iload_n hx hb dX9_weathers_12 rfl (lv_at hl 0 rfl) ?_
    refine lv_goto (tgt := 27) hx hb dX9_weathers_13 (by decide) ?_
    have hP := subP (ws' := [(y 0, .inr (9, o9_rirrrrrrrrvviii (y 1) py0_1 (y 2) (y 10) (y 19) (y 25) (y 26) (y 30) (y 31) (y 32) o10 o11 py0_12 py0_13 py0_14)), (y 2, .inr (1, o1_iiiiiirrrrrrriiiii py2_0 py2_1 py2_2 py2_3 py2_4 py2_5 (y 3) (y 4) (y 5) (y 6) (y 7) (y 8) (y 9) py2_13 py2_14 py2_15 py2_16 py2_17)), (y 3, aI V 4 fy3), (y 9, aI V 900 fy9), (y 19, .inr (4, o4_rrrrrr (y 2) (y 20) (y 21) (y 22) (y 23) (y 24))), (y 20, aI V 2000 fy20), (y 21, aI V 6 fy21), (y 22, aI V 64 fy22), (y 30, aT V 4 (va_up (va_up (va_up (va_up (fun _ => none) 0 (some (y 33))) 1 (some (y 35))) 2 (some (y 37))) 3 (some (y 39)))), (y 32, aI V 10 fy32), (y 33, .inr (7, o7_rii (y 34) py33_1 py33_2)), (y 34, aJ V 40 fy34), (y 35, .inr (7, o7_rii (y 36) py35_1 py35_2)), (y 36, aJ V 40 fy36), (y 37, .inr (7, o7_rii (y 38) py37_1 py37_2)), (y 38, aJ V 40 fy38), (y 39, .inr (7, o7_rii (y 40) py39_1 py39_2)), (y 40, aJ V 40 fy40)]) hP [7, 8, 0, 1, 2, 3, 4, 5, 9, 6, 10, 11, 12, 13, 14, 15, 16, 17] rfl
    have hD := subD hP hD [7, 8, 0, 1, 2, 3, 4, 5, 9, 6, 10, 11, 12, 13, 14, 15, 16, 17] rfl rfl
    exact fiI hx hb hr hlk hK hP hD hS dX9_weathers_27 (Nat.le_of_ble_eq_true rfl) (Nat.le_of_ble_eq_true rfl) (⟨fy20, fy21, fy22, fy32, tfy20, tfy32, hK9, rfl⟩)
  · have hP : va_P V.1 vwCl [(y 3, aI V 4 fy3), (y 9, aI V 900 fy9), (y 19, .inr (4, o4_rrrrrr (y 2) (y 20) (y 21) (y 22) (y 23) (y 24))), (y 20, aI V 2000 fy20), (y 21, aI V 6 fy21), (y 22, aI V 64 fy22), (y 32, aI V 10 fy32), (y 0, .inr (9, o9_rirrrrrrrrvviii (y 1) py0_1 (y 2) (y 10) (y 19) (y 25) (y 26) (y 30) (y 31) (y 32) o10 o11 py0_12 py0_13 py0_14)), (y 2, .inr (1, o1_iiiiiirrrrrrriiiii py2_0 py2_1 py2_2 py2_3 py2_4 py2_5 (y 3) (y 4) (y 5) (y 6) (y 7) (y 8) (y 9) py2_13 py2_14 py2_15 py2_16 py2_17)), (y 30, aT V 4 (va_up (va_up (va_up (va_up (fun _ => none) 0 (some (y 33))) 1 (some (y 35))) 2 (some (y 37))) 3 (some (y 39)))), (y 33, .inr (7, o7_rii (y 34) py33_1 py33_2)), (y 34, aJ V 40 fy34), (y 35, .inr (7, o7_rii (y 36) py35_1 py35_2)), (y 36, aJ V 40 fy36), (y 37, .inr (7, o7_rii (y 38) py37_1 py37_2)), (y 38, aJ V 40 fy38), (y 39, .inr (7, o7_rii (y 40) py39_1 py39_2)), (y 40, aJ V 40 fy40)] H := hP
    have hD := cpD hP hD
    have b_390 : iv 0 2147483647 a2 := iv_e2 (Int32.not_lt.mp c_179) (iv_c (0 : Int32) (a := 0) (b := 0) (by decide)) (iv_top a2) (by decide)
    have b_391 : iv 0 3 a2 := iv_l1 (Int32.not_le.mp c_180) b_390 bpy2_1 (by decide)
    have b_392 : iv 1 4 py2_1 := iv_l2 (Int32.not_le.mp c_180) b_390 bpy2_1 (by decide)
    have b_393 : iv 3 3 a1 := iv_q c_181 (iv_c (3 : Int32) (a := 3) (b := 3) (by decide))
    have b_394 : iv (-1) (-1) py39_1 := iv_l1 (Int32.not_le.mp c_182) bpy39_1 (iv_c (0 : Int32) (a := 0) (b := 0) (by decide)) (by decide)
    refine lv_istore_n (lv' := [(3, .int (-6)), (0, .ref (y 0)), (1, .int a1), (2, .int a2)]) hx hb dX9_weathers_7 rfl hl (by decide) rfl (fun ls hl => ?_)
    refine lv_iload_n hx hb dX9_weathers_8 rfl (lv_at hl 0 rfl) ?_
    refine lv_if_eq (tgt := 16) hx hb dX9_weathers_9 (by decide) (fun c_396 => absurd c_396 (by decide)) (fun _ => ?_)
    refine lv_iload_n hx hb dX9_weathers_12 rfl (lv_at hl 0 rfl) ?_
    refine lv_goto (tgt := 27) hx hb dX9_weathers_13 (by decide) ?_
    have hP := subP (ws' := [(y 0, .inr (9, o9_rirrrrrrrrvviii (y 1) py0_1 (y 2) (y 10) (y 19) (y 25) (y 26) (y 30) (y 31) (y 32) o10 o11 py0_12 py0_13 py0_14)), (y 2, .inr (1, o1_iiiiiirrrrrrriiiii py2_0 py2_1 py2_2 py2_3 py2_4 py2_5 (y 3) (y 4) (y 5) (y 6) (y 7) (y 8) (y 9) py2_13 py2_14 py2_15 py2_16 py2_17)), (y 3, aI V 4 fy3), (y 9, aI V 900 fy9), (y 19, .inr (4, o4_rrrrrr (y 2) (y 20) (y 21) (y 22) (y 23) (y 24))), (y 20, aI V 2000 fy20), (y 21, aI V 6 fy21), (y 22, aI V 64 fy22), (y 30, aT V 4 (va_up (va_up (va_up (va_up (fun _ => none) 0 (some (y 33))) 1 (some (y 35))) 2 (some (y 37))) 3 (some (y 39)))), (y 32, aI V 10 fy32), (y 33, .inr (7, o7_rii (y 34) py33_1 py33_2)), (y 34, aJ V 40 fy34), (y 35, .inr (7, o7_rii (y 36) py35_1 py35_2)), (y 36, aJ V 40 fy36), (y 37, .inr (7, o7_rii (y 38) py37_1 py37_2)), (y 38, aJ V 40 fy38), (y 39, .inr (7, o7_rii (y 40) py39_1 py39_2)), (y 40, aJ V 40 fy40)]) hP [7, 8, 0, 1, 2, 3, 4, 5, 9, 6, 10, 11, 12, 13, 14, 15, 16, 17] rfl
    have hD := subD hP hD [7, 8, 0, 1, 2, 3, 4, 5, 9, 6, 10, 11, 12, 13, 14, 15, 16, 17] rfl rfl
    exact fiI hx hb hr hlk hK hP hD hS dX9_weathers_27 (Nat.le_of_ble_eq_true rfl) (Nat.le_of_ble_eq_true rfl) (⟨fy20, fy21, fy22, fy32, tfy20, tfy32, hK9, rfl⟩)
theorem dX9_alikeWith_0 : decode cX9_alikeWith 0 = .ok (.aload_n 0, 1) := by decide +kernel
theorem dX9_alikeWith_1 : decode cX9_alikeWith 1 = .ok (.getfield 34, 3) := by decide +kernel
theorem dX9_alikeWith_4 : decode cX9_alikeWith 4 = .ok (.aload_n 0, 1) := by decide +kernel
theorem dX9_alikeWith_5 : decode cX9_alikeWith 5 = .ok (.getfield 64, 3) := by decide +kernel
theorem dX9_alikeWith_8 : decode cX9_alikeWith 8 = .ok (.iload_n 1, 1) := by decide +kernel
theorem dX9_alikeWith_9 : decode cX9_alikeWith 9 = .ok (.iaload, 1) := by decide +kernel
theorem dX9_alikeWith_10 : decode cX9_alikeWith 10 = .ok (.iload_n 1, 1) := by decide +kernel
theorem dX9_alikeWith_11 : decode cX9_alikeWith 11 = .ok (.iload_n 3, 1) := by decide +kernel
theorem dX9_alikeWith_12 : decode cX9_alikeWith 12 = .ok (.invokevirtual 155, 3) := by decide +kernel
theorem q_5_85 : Cond.code yX9_stacksAlone prog_1_method_17_code 3 (some FieldType.int) ∈ gw := gw_5 (i := 85) (rfl) rfl
theorem q_5_84 : Cond.static yX9_stacksAlone ∈ gw := gw_5 (i := 84) (by decide +kernel) rfl
theorem mt_X9_stacksAlone : MtS yX9_stacksAlone cX9_stacksAlone 3 (some .int) 1 := ⟨⟨q_5_85, q_1_1, by decide +kernel, by decide +kernel, by decide +kernel⟩, q_5_84⟩
theorem q_5_83 : Cond.methodLink "BeaconDelay" 344 yX9_stacksAlone ∈ gw := gw_5 (i := 83) (by decide +kernel) rfl
theorem dX9_alikeWith_15 : decode cX9_alikeWith 15 = .ok (.invokestatic 344, 3) := by decide +kernel
theorem dX9_alikeWith_18 : decode cX9_alikeWith 18 = .ok (.istore 4, 2) := by decide +kernel
theorem dX9_alikeWith_20 : decode cX9_alikeWith 20 = .ok (.iconst 0, 1) := by decide +kernel
theorem dX9_alikeWith_21 : decode cX9_alikeWith 21 = .ok (.istore 5, 2) := by decide +kernel
theorem dX9_alikeWith_23 : decode cX9_alikeWith 23 = .ok (.iconst 0, 1) := by decide +kernel
theorem dX9_alikeWith_24 : decode cX9_alikeWith 24 = .ok (.istore 6, 2) := by decide +kernel
theorem dX9_alikeWith_26 : decode cX9_alikeWith 26 = .ok (.iload 6, 2) := by decide +kernel
theorem dX9_alikeWith_28 : decode cX9_alikeWith 28 = .ok (.bipush 10, 2) := by decide +kernel
theorem dX9_alikeWith_30 : decode cX9_alikeWith 30 = .ok (.if_icmp .ge 47, 3) := by decide +kernel
theorem dX9_alikeWith_77 : decode cX9_alikeWith 77 = .ok (.iload 5, 2) := by decide +kernel
theorem dX9_alikeWith_79 : decode cX9_alikeWith 79 = .ok (.ireturn, 1) := by decide +kernel
theorem dX9_alikeWith_33 : decode cX9_alikeWith 33 = .ok (.iload_n 2, 1) := by decide +kernel
theorem dX9_alikeWith_34 : decode cX9_alikeWith 34 = .ok (.iload 6, 2) := by decide +kernel
theorem dX9_alikeWith_36 : decode cX9_alikeWith 36 = .ok (.ishr, 1) := by decide +kernel
theorem dX9_alikeWith_37 : decode cX9_alikeWith 37 = .ok (.iconst 1, 1) := by decide +kernel
theorem dX9_alikeWith_38 : decode cX9_alikeWith 38 = .ok (.iand, 1) := by decide +kernel
theorem dX9_alikeWith_39 : decode cX9_alikeWith 39 = .ok (.iconst 1, 1) := by decide +kernel
theorem dX9_alikeWith_40 : decode cX9_alikeWith 40 = .ok (.if_icmp .ne 31, 3) := by decide +kernel
theorem dX9_alikeWith_71 : decode cX9_alikeWith 71 = .ok (.iinc 6 1, 3) := by decide +kernel
theorem dX9_alikeWith_74 : decode cX9_alikeWith 74 = .ok (.goto (-48), 3) := by decide +kernel
theorem dX9_alikeWith_43 : decode cX9_alikeWith 43 = .ok (.aload_n 0, 1) := by decide +kernel
theorem dX9_alikeWith_44 : decode cX9_alikeWith 44 = .ok (.getfield 34, 3) := by decide +kernel
theorem dX9_alikeWith_47 : decode cX9_alikeWith 47 = .ok (.aload_n 0, 1) := by decide +kernel
theorem dX9_alikeWith_48 : decode cX9_alikeWith 48 = .ok (.getfield 64, 3) := by decide +kernel
theorem dX9_alikeWith_51 : decode cX9_alikeWith 51 = .ok (.iload 6, 2) := by decide +kernel
theorem dX9_alikeWith_53 : decode cX9_alikeWith 53 = .ok (.iaload, 1) := by decide +kernel
theorem dX9_alikeWith_54 : decode cX9_alikeWith 54 = .ok (.iload 6, 2) := by decide +kernel
theorem dX9_alikeWith_56 : decode cX9_alikeWith 56 = .ok (.iload_n 3, 1) := by decide +kernel
theorem dX9_alikeWith_57 : decode cX9_alikeWith 57 = .ok (.invokevirtual 155, 3) := by decide +kernel
theorem dX9_alikeWith_60 : decode cX9_alikeWith 60 = .ok (.invokestatic 344, 3) := by decide +kernel
theorem dX9_alikeWith_63 : decode cX9_alikeWith 63 = .ok (.iload 4, 2) := by decide +kernel
theorem dX9_alikeWith_65 : decode cX9_alikeWith 65 = .ok (.if_icmp .ne 6, 3) := by decide +kernel
theorem dX9_alikeWith_68 : decode cX9_alikeWith 68 = .ok (.iinc 5 1, 3) := by decide +kernel
set_option maxHeartbeats 4000000 in
set_option maxRecDepth 100000 in
theorem k_X9_alikeWith_0 (l : Launch) (V : GV) (y : Nat → Nat) (D9 : Nat → Int32) (a1 : Int32) (a2 : Int32) (a3 : Int32) (fy3 : Nat → Int32) (fy9 : Nat → Int32) (fy20 : Nat → Int32) (fy21 : Nat → Int32) (fy22 : Nat → Int32) (fy32 : Nat → Int32) (py0_1 : Int32) (o10 : Value) (o11 : Value) (py0_12 : Int32) (py0_13 : Int32) (py0_14 : Int32) (py2_0 : Int32) (py2_1 : Int32) (py2_2 : Int32) (py2_3 : Int32) (py2_4 : Int32) (py2_5 : Int32) (py2_13 : Int32) (py2_14 : Int32) (py2_15 : Int32) (py2_16 : Int32) (py2_17 : Int32) (ba1 : iv 0 9 a1) (tfy20 : ∀ j, iv 0 10 (fy20 j)) (tfy32 : ∀ j, iv 0 9999 (fy32 j)) (bpy0_1 : iv 0 900 py0_1) (bpy0_12 : iv 0 9999 py0_12) (bpy0_13 : iv 0 9 py0_13) (bpy2_1 : iv 0 4 py2_1) (bpy2_2 : iv 0 4 py2_2) (bpy2_3 : iv 0 8 py2_3) (bpy2_4 : iv 0 9999 py2_4) (bpy2_5 : iv 0 9 py2_5) (bpy2_13 : iv 0 900 py2_13) (bpy2_14 : iv 0 900 py2_14) (bpy2_15 : iv 0 900 py2_15) (bpy2_16 : iv 0 900 py2_16) (bpy2_17 : iv 0 900 py2_17) (hL9 : LW D9 fy3 fy9 py2_14 py2_15 py2_16 py2_17) (hK9 : KN D9 fy20) : Ct l V yX9_alikeWith (.code yX9_alikeWith cX9_alikeWith 7 (some .int)) 6 [.ref (y 0), .int a1, .int a2, .int a3] [(y 3, aI V 4 fy3), (y 9, aI V 900 fy9), (y 19, .inr (4, o4_rrrrrr (y 2) (y 20) (y 21) (y 22) (y 23) (y 24))), (y 20, aI V 2000 fy20), (y 21, aI V 6 fy21), (y 22, aI V 64 fy22), (y 32, aI V 10 fy32), (y 0, .inr (9, o9_rirrrrrrrrvviii (y 1) py0_1 (y 2) (y 10) (y 19) (y 25) (y 26) (y 30) (y 31) (y 32) o10 o11 py0_12 py0_13 py0_14)), (y 2, .inr (1, o1_iiiiiirrrrrrriiiii py2_0 py2_1 py2_2 py2_3 py2_4 py2_5 (y 3) (y 4) (y 5) (y 6) (y 7) (y 8) (y 9) py2_13 py2_14 py2_15 py2_16 py2_17))] 0 0 (QI V (fun (r : Int32) (w : va_W) => ∃ (g0 : Nat → Int32) (g1 : Nat → Int32) (g2 : Nat → Int32), (∀ j, iv 0 10 (g0 j)) ∧ KN D9 g0 ∧ w = [(y 3, aI V 4 fy3), (y 9, aI V 900 fy9), (y 19, .inr (4, o4_rrrrrr (y 2) (y 20) (y 21) (y 22) (y 23) (y 24))), (y 20, aI V 2000 g0), (y 21, aI V 6 g1), (y 22, aI V 64 g2), (y 32, aI V 10 fy32), (y 0, .inr (9, o9_rirrrrrrrrvviii (y 1) py0_1 (y 2) (y 10) (y 19) (y 25) (y 26) (y 30) (y 31) (y 32) o10 o11 py0_12 py0_13 py0_14)), (y 2, .inr (1, o1_iiiiiirrrrrrriiiii py2_0 py2_1 py2_2 py2_3 py2_4 py2_5 (y 3) (y 4) (y 5) (y 6) (y 7) (y 8) (y 9) py2_13 py2_14 py2_15 py2_16 py2_17))])) := by
  refine Ct.of (by decide) (Nat.le_of_ble_eq_true rfl) (fun p e s m below meth c A ls hx hb hr hml hown hlk hnm hg hP hK hD hE hA hS hl => ?_)
  have hl : lv_has ls 7 [(0, .ref (y 0)), (1, .int a1), (2, .int a2), (3, .int a3)] := hl
  refine lv_aload_n hx hb dX9_alikeWith_0 rfl (lv_at hl 0 rfl) ?_
  refine va_get (ci := 9) (v := .ref (y 19)) (C := RX9) (T := TX9) (N := 15) hx hb hg inX9 hown hK hP 7 rfl rfl 4 (by decide) (hg _ q_2_40) (fun _ h9 => h9) rfl dX9_alikeWith_1 ?_
  refine lv_aload_n hx hb dX9_alikeWith_4 rfl (lv_at hl 0 rfl) ?_
  refine va_get (ci := 9) (v := .ref (y 32)) (C := RX9) (T := TX9) (N := 15) hx hb hg inX9 hown hK hP 7 rfl rfl 9 (by decide) (hg _ q_2_45) (fun _ h9 => h9) rfl dX9_alikeWith_5 ?_
  refine lv_iload_n hx hb dX9_alikeWith_8 rfl (lv_at hl 1 rfl) ?_
  refine va_iald hx hb hK hP 6 0 rfl rfl (iv_in ba1 (by decide)) dX9_alikeWith_9 ?_
  refine lv_topi (fun x_1 ex_1 => ?_)
  have bx_1 : iv 0 9999 x_1 := by rw [ex_1]; exact tfy32 _
  refine lv_iload_n hx hb dX9_alikeWith_10 rfl (lv_at hl 1 rfl) ?_
  refine lv_iload_n hx hb dX9_alikeWith_11 rfl (lv_at hl 3 rfl) ?_
  refine jnI (wr := [(y 32, aI V 10 fy32), (y 0, .inr (9, o9_rirrrrrrrrvviii (y 1) py0_1 (y 2) (y 10) (y 19) (y 25) (y 26) (y 30) (y 31) (y 32) o10 o11 py0_12 py0_13 py0_14))]) (rnV (rest := []) ⟨hx, hb, hml, hown, hg⟩ (k_X4_behind_0 l V y x_1 a1 a3 fy3 fy9 fy20 fy21 fy22 py2_0 py2_1 py2_2 py2_3 py2_4 py2_5 py2_13 py2_14 py2_15 py2_16 py2_17 bx_1 ba1 tfy20 bpy2_1 bpy2_2 bpy2_3 bpy2_4 bpy2_5 bpy2_13 bpy2_14 bpy2_15 bpy2_16 bpy2_17) mt_X4_behind q_3_145 ⟨Nat.le_of_ble_eq_true rfl, Nat.le_of_ble_eq_true rfl⟩ hK hP hD hS hA hE [0, 1, 2, 3, 4, 5, 8] rfl rfl 2 rfl rfl rfl rfl hl.1 rfl (Nat.le_of_ble_eq_true rfl) dX9_alikeWith_12 ⟨Nat.le_of_ble_eq_true rfl, Nat.le_of_ble_eq_true rfl⟩) hP hD hS hA [0, 1, 2, 3, 4, 5, 8] [6, 7] rfl rfl rfl (by decide) (fun r_2 w H locs hw hP hD hS => ?_)
  obtain ⟨f_3, f_4, f_5, tf_3, br_2, g_6, rfl⟩ := hw
  have qkn_7 := g_6 D9 hL9 hK9
  have er_2 : r_2 = bhS D9 x_1 a1 a3 (py2_1 : Int32).toNatClampNeg := qkn_7.1
  have kn_7 := qkn_7.2
  have hP : va_P V.1 vwCl [(y 32, aI V 10 fy32), (y 0, .inr (9, o9_rirrrrrrrrvviii (y 1) py0_1 (y 2) (y 10) (y 19) (y 25) (y 26) (y 30) (y 31) (y 32) o10 o11 py0_12 py0_13 py0_14)), (y 3, aI V 4 fy3), (y 9, aI V 900 fy9), (y 19, .inr (4, o4_rrrrrr (y 2) (y 20) (y 21) (y 22) (y 23) (y 24))), (y 20, aI V 2000 f_3), (y 21, aI V 6 f_4), (y 22, aI V 64 f_5), (y 2, .inr (1, o1_iiiiiirrrrrrriiiii py2_0 py2_1 py2_2 py2_3 py2_4 py2_5 (y 3) (y 4) (y 5) (y 6) (y 7) (y 8) (y 9) py2_13 py2_14 py2_15 py2_16 py2_17))] H := hP
  have hD := cpD hP hD
  refine jnI (wr := [(y 32, aI V 10 fy32), (y 0, .inr (9, o9_rirrrrrrrrvviii (y 1) py0_1 (y 2) (y 10) (y 19) (y 25) (y 26) (y 30) (y 31) (y 32) o10 o11 py0_12 py0_13 py0_14)), (y 3, aI V 4 fy3), (y 9, aI V 900 fy9), (y 19, .inr (4, o4_rrrrrr (y 2) (y 20) (y 21) (y 22) (y 23) (y 24))), (y 20, aI V 2000 f_3), (y 21, aI V 6 f_4), (y 22, aI V 64 f_5), (y 2, .inr (1, o1_iiiiiirrrrrrriiiii py2_0 py2_1 py2_2 py2_3 py2_4 py2_5 (y 3) (y 4) (y 5) (y 6) (y 7) (y 8) (y 9) py2_13 py2_14 py2_15 py2_16 py2_17))]) (rnS (rest := []) ⟨hx, hb, hml, hown, hg⟩ (k_X9_stacksAlone_0 l V r_2 br_2) mt_X9_stacksAlone q_5_83 ⟨Nat.le_of_ble_eq_true rfl, Nat.le_of_ble_eq_true rfl⟩ hK hP hD hS hA hE [] rfl rfl rfl hl.1 rfl (Nat.le_of_ble_eq_true rfl) dX9_alikeWith_15 ⟨Nat.le_of_ble_eq_true rfl, Nat.le_of_ble_eq_true rfl⟩) hP hD hS hA [] [0, 1, 2, 3, 4, 5, 6, 7, 8] rfl rfl rfl (by decide) (fun r_8 w H locs hw hP hD hS => ?_)
  subst hw
  have hP : va_P V.1 vwCl [(y 32, aI V 10 fy32), (y 0, .inr (9, o9_rirrrrrrrrvviii (y 1) py0_1 (y 2) (y 10) (y 19) (y 25) (y 26) (y 30) (y 31) (y 32) o10 o11 py0_12 py0_13 py0_14)), (y 3, aI V 4 fy3), (y 9, aI V 900 fy9), (y 19, .inr (4, o4_rrrrrr (y 2) (y 20) (y 21) (y 22) (y 23) (y 24))), (y 20, aI V 2000 f_3), (y 21, aI V 6 f_4), (y 22, aI V 64 f_5), (y 2, .inr (1, o1_iiiiiirrrrrrriiiii py2_0 py2_1 py2_2 py2_3 py2_4 py2_5 (y 3) (y 4) (y 5) (y 6) (y 7) (y 8) (y 9) py2_13 py2_14 py2_15 py2_16 py2_17))] H := hP
  have hD := cpD hP hD
  refine lv_istore (lv' := [(4, .int r_8), (0, .ref (y 0)), (1, .int a1), (2, .int a2), (3, .int a3)]) hx hb dX9_alikeWith_18 hl (by decide) rfl (fun ls hl => ?_)
  refine lv_iconst (v := 0) hx hb dX9_alikeWith_20 (by decide) ?_
  refine lv_istore (lv' := [(5, .int 0), (4, .int r_8), (0, .ref (y 0)), (1, .int a1), (2, .int a2), (3, .int a3)]) hx hb dX9_alikeWith_21 hl (by decide) rfl (fun ls hl => ?_)
  refine lv_iconst (v := 0) hx hb dX9_alikeWith_23 (by decide) ?_
  refine lv_istore (lv' := [(6, .int 0), (5, .int 0), (4, .int r_8), (0, .ref (y 0)), (1, .int a1), (2, .int a2), (3, .int a3)]) hx hb dX9_alikeWith_24 hl (by decide) rfl (fun ls hl => ?_)
  refine loopF (X := fun (n_14 : Nat) (H : Heap) (locs : List Loc) (ls : Array Slot) => ∃ (u_9 : Int32) (u_10 : Int32) (f_11 : Nat → Int32) (f_12 : Nat → Int32) (f_13 : Nat → Int32), (iv 0 2147483647 u_9) ∧ (∀ j, iv 0 10 (f_11 j)) ∧ KN D9 f_11 ∧ n_14 = (2147483647 - (u_9 : Int32).toInt).toNat ∧ va_P V.1 vwCl [(y 32, aI V 10 fy32), (y 0, .inr (9, o9_rirrrrrrrrvviii (y 1) py0_1 (y 2) (y 10) (y 19) (y 25) (y 26) (y 30) (y 31) (y 32) o10 o11 py0_12 py0_13 py0_14)), (y 3, aI V 4 fy3), (y 9, aI V 900 fy9), (y 19, .inr (4, o4_rrrrrr (y 2) (y 20) (y 21) (y 22) (y 23) (y 24))), (y 20, aI V 2000 f_11), (y 21, aI V 6 f_12), (y 22, aI V 64 f_13), (y 2, .inr (1, o1_iiiiiirrrrrrriiiii py2_0 py2_1 py2_2 py2_3 py2_4 py2_5 (y 3) (y 4) (y 5) (y 6) (y 7) (y 8) (y 9) py2_13 py2_14 py2_15 py2_16 py2_17))] H ∧ va_D A [(y 32, aI V 10 fy32), (y 0, .inr (9, o9_rirrrrrrrrvviii (y 1) py0_1 (y 2) (y 10) (y 19) (y 25) (y 26) (y 30) (y 31) (y 32) o10 o11 py0_12 py0_13 py0_14)), (y 3, aI V 4 fy3), (y 9, aI V 900 fy9), (y 19, .inr (4, o4_rrrrrr (y 2) (y 20) (y 21) (y 22) (y 23) (y 24))), (y 20, aI V 2000 f_11), (y 21, aI V 6 f_12), (y 22, aI V 64 f_13), (y 2, .inr (1, o1_iiiiiirrrrrrriiiii py2_0 py2_1 py2_2 py2_3 py2_4 py2_5 (y 3) (y 4) (y 5) (y 6) (y 7) (y 8) (y 9) py2_13 py2_14 py2_15 py2_16 py2_17))] ∧ va_S A s.heap H locs ∧ lv_has ls 7 [(6, .int u_9), (5, .int u_10), (4, .int r_8), (0, .ref (y 0)), (1, .int a1), (2, .int a2), (3, .int a3)]) (g := fun ls => F0 m 26 ls []) (fun n_14 H locs ls hX ihn_14 => ?_) _ ⟨0, 0, f_3, f_4, f_5, (iv_c (0 : Int32) (by decide)), tf_3, kn_7, rfl, hP, hD, hS, lv_sub hl [0, 1, 2, 3, 4, 5, 6] rfl⟩
  obtain ⟨u_9, u_10, f_11, f_12, f_13, bu_9, tf_11, knn_14, en_14, hP, hD, hS, hl⟩ := hX
  refine lv_iload hx hb dX9_alikeWith_26 (lv_at hl 0 rfl) ?_
  refine lv_bipush (v := 10) hx hb dX9_alikeWith_28 (by decide) ?_
  refine lv_icmp_ge (tgt := 77) hx hb dX9_alikeWith_30 (by decide) (fun c_15 => ?_) (fun c_15 => ?_)
  · have b_16 : iv 10 2147483647 u_9 := iv_e2 c_15 (iv_c (10 : Int32) (a := 10) (b := 10) (by decide)) bu_9 (by decide)
    refine lv_iload hx hb dX9_alikeWith_77 (lv_at hl 1 rfl) ?_
    have hP := subP (ws' := [(y 3, aI V 4 fy3), (y 9, aI V 900 fy9), (y 19, .inr (4, o4_rrrrrr (y 2) (y 20) (y 21) (y 22) (y 23) (y 24))), (y 20, aI V 2000 f_11), (y 21, aI V 6 f_12), (y 22, aI V 64 f_13), (y 32, aI V 10 fy32), (y 0, .inr (9, o9_rirrrrrrrrvviii (y 1) py0_1 (y 2) (y 10) (y 19) (y 25) (y 26) (y 30) (y 31) (y 32) o10 o11 py0_12 py0_13 py0_14)), (y 2, .inr (1, o1_iiiiiirrrrrrriiiii py2_0 py2_1 py2_2 py2_3 py2_4 py2_5 (y 3) (y 4) (y 5) (y 6) (y 7) (y 8) (y 9) py2_13 py2_14 py2_15 py2_16 py2_17))]) hP [2, 3, 4, 5, 6, 7, 0, 1, 8] rfl
    have hD := subD hP hD [2, 3, 4, 5, 6, 7, 0, 1, 8] rfl rfl
    exact fiI hx hb hr hlk hK hP hD hS dX9_alikeWith_79 (Nat.le_of_ble_eq_true rfl) (Nat.le_of_ble_eq_true rfl) (⟨f_11, f_12, f_13, tf_11, knn_14, rfl⟩)
  · have b_17 : iv 0 9 u_9 := iv_l1 (Int32.not_le.mp c_15) bu_9 (iv_c (10 : Int32) (a := 10) (b := 10) (by decide)) (by decide)
    refine lv_iload_n hx hb dX9_alikeWith_33 rfl (lv_at hl 5 rfl) ?_
    refine lv_iload hx hb dX9_alikeWith_34 (lv_at hl 0 rfl) ?_
    refine lv_ishr hx hb dX9_alikeWith_36 ?_
    refine lv_topi (fun x_18 ex_18 => ?_)
    refine lv_iconst (v := 1) hx hb dX9_alikeWith_37 (by decide) ?_
    refine lv_iand hx hb dX9_alikeWith_38 ?_
    refine lv_topi (fun x_19 ex_19 => ?_)
    have bx_19 : iv 0 1 x_19 := by rw [ex_19]; exact iv_and1 _
    refine lv_iconst (v := 1) hx hb dX9_alikeWith_39 (by decide) ?_
    refine lv_icmp_ne (tgt := 71) hx hb dX9_alikeWith_40 (by decide) (fun c_20 => ?_) (fun c_20 => ?_)
    · have b_21 : iv 0 0 x_19 := iv_n1 c_20 bx_19 (iv_c (1 : Int32) (a := 1) (b := 1) (by decide)) (by decide)
      obtain ⟨x_22, ex_22⟩ : ∃ z9 : Int32, z9 = u_9 + 1 := ⟨_, rfl⟩
      have bx_22 : iv 1 10 x_22 := by rw [ex_22]; exact iv_add b_17 (iv_c (1 : Int32) (a := 1) (b := 1) (by decide)) (by decide)
      refine lv_iinc (v := x_22) (lv' := [(6, .int x_22), (5, .int u_10), (4, .int r_8), (0, .ref (y 0)), (1, .int a1), (2, .int a2), (3, .int a3)]) hx hb dX9_alikeWith_71 hl (k := 0) rfl (by rw [ex_22]; rfl) (by decide) rfl (fun ls hl => ?_)
      refine lv_goto (tgt := 26) hx hb dX9_alikeWith_74 (by decide) ?_
      exact ihn_14 _ _ _ _ (by rw [en_14, ex_22]; exact mu_up b_17 (by decide)) ⟨x_22, u_10, f_11, f_12, f_13, (iv_w bx_22 (by decide)), tf_11, knn_14, rfl, hP, hD, hS, lv_sub hl [0, 1, 2, 3, 4, 5, 6] rfl⟩
    · have b_23 : iv 1 1 x_19 := iv_q c_20 (iv_c (1 : Int32) (a := 1) (b := 1) (by decide))
      refine lv_aload_n hx hb dX9_alikeWith_43 rfl (lv_at hl 3 rfl) ?_
      refine va_get (ci := 9) (v := .ref (y 19)) (C := RX9) (T := TX9) (N := 15) hx hb hg inX9 hown hK hP 1 rfl rfl 4 (by decide) (hg _ q_2_40) (fun _ h9 => h9) rfl dX9_alikeWith_44 ?_
      refine lv_aload_n hx hb dX9_alikeWith_47 rfl (lv_at hl 3 rfl) ?_
      refine va_get (ci := 9) (v := .ref (y 32)) (C := RX9) (T := TX9) (N := 15) hx hb hg inX9 hown hK hP 1 rfl rfl 9 (by decide) (hg _ q_2_45) (fun _ h9 => h9) rfl dX9_alikeWith_48 ?_
      refine lv_iload hx hb dX9_alikeWith_51 (lv_at hl 0 rfl) ?_
      refine va_iald hx hb hK hP 0 0 rfl rfl (iv_in b_17 (by decide)) dX9_alikeWith_53 ?_
      refine lv_topi (fun x_24 ex_24 => ?_)
      have bx_24 : iv 0 9999 x_24 := by rw [ex_24]; exact tfy32 _
      refine lv_iload hx hb dX9_alikeWith_54 (lv_at hl 0 rfl) ?_
      refine lv_iload_n hx hb dX9_alikeWith_56 rfl (lv_at hl 6 rfl) ?_
      refine jnI (wr := [(y 32, aI V 10 fy32), (y 0, .inr (9, o9_rirrrrrrrrvviii (y 1) py0_1 (y 2) (y 10) (y 19) (y 25) (y 26) (y 30) (y 31) (y 32) o10 o11 py0_12 py0_13 py0_14))]) (rnV (rest := []) ⟨hx, hb, hml, hown, hg⟩ (k_X4_behind_0 l V y x_24 u_9 a3 fy3 fy9 f_11 f_12 f_13 py2_0 py2_1 py2_2 py2_3 py2_4 py2_5 py2_13 py2_14 py2_15 py2_16 py2_17 bx_24 b_17 tf_11 bpy2_1 bpy2_2 bpy2_3 bpy2_4 bpy2_5 bpy2_13 bpy2_14 bpy2_15 bpy2_16 bpy2_17) mt_X4_behind q_3_145 ⟨Nat.le_of_ble_eq_true rfl, Nat.le_of_ble_eq_true rfl⟩ hK hP hD hS hA hE [2, 3, 4, 5, 6, 7, 8] rfl rfl 4 rfl rfl rfl rfl hl.1 rfl (Nat.le_of_ble_eq_true rfl) dX9_alikeWith_57 ⟨Nat.le_of_ble_eq_true rfl, Nat.le_of_ble_eq_true rfl⟩) hP hD hS hA [2, 3, 4, 5, 6, 7, 8] [0, 1] rfl rfl rfl (by decide) (fun r_25 w H locs hw hP hD hS => ?_)
      obtain ⟨f_26, f_27, f_28, tf_26, br_25, g_29, rfl⟩ := hw
      have qkn_30 := g_29 D9 hL9 knn_14
      have er_25 : r_25 = bhS D9 x_24 u_9 a3 (py2_1 : Int32).toNatClampNeg := qkn_30.1
      have kn_30 := qkn_30.2
      have hP : va_P V.1 vwCl [(y 32, aI V 10 fy32), (y 0, .inr (9, o9_rirrrrrrrrvviii (y 1) py0_1 (y 2) (y 10) (y 19) (y 25) (y 26) (y 30) (y 31) (y 32) o10 o11 py0_12 py0_13 py0_14)), (y 3, aI V 4 fy3), (y 9, aI V 900 fy9), (y 19, .inr (4, o4_rrrrrr (y 2) (y 20) (y 21) (y 22) (y 23) (y 24))), (y 20, aI V 2000 f_26), (y 21, aI V 6 f_27), (y 22, aI V 64 f_28), (y 2, .inr (1, o1_iiiiiirrrrrrriiiii py2_0 py2_1 py2_2 py2_3 py2_4 py2_5 (y 3) (y 4) (y 5) (y 6) (y 7) (y 8) (y 9) py2_13 py2_14 py2_15 py2_16 py2_17))] H := hP
      have hD := cpD hP hD
      refine jnI (wr := [(y 32, aI V 10 fy32), (y 0, .inr (9, o9_rirrrrrrrrvviii (y 1) py0_1 (y 2) (y 10) (y 19) (y 25) (y 26) (y 30) (y 31) (y 32) o10 o11 py0_12 py0_13 py0_14)), (y 3, aI V 4 fy3), (y 9, aI V 900 fy9), (y 19, .inr (4, o4_rrrrrr (y 2) (y 20) (y 21) (y 22) (y 23) (y 24))), (y 20, aI V 2000 f_26), (y 21, aI V 6 f_27), (y 22, aI V 64 f_28), (y 2, .inr (1, o1_iiiiiirrrrrrriiiii py2_0 py2_1 py2_2 py2_3 py2_4 py2_5 (y 3) (y 4) (y 5) (y 6) (y 7) (y 8) (y 9) py2_13 py2_14 py2_15 py2_16 py2_17))]) (rnS (rest := []) ⟨hx, hb, hml, hown, hg⟩ (k_X9_stacksAlone_0 l V r_25 br_25) mt_X9_stacksAlone q_5_83 ⟨Nat.le_of_ble_eq_true rfl, Nat.le_of_ble_eq_true rfl⟩ hK hP hD hS hA hE [] rfl rfl rfl hl.1 rfl (Nat.le_of_ble_eq_true rfl) dX9_alikeWith_60 ⟨Nat.le_of_ble_eq_true rfl, Nat.le_of_ble_eq_true rfl⟩) hP hD hS hA [] [0, 1, 2, 3, 4, 5, 6, 7, 8] rfl rfl rfl (by decide) (fun r_31 w H locs hw hP hD hS => ?_)
      subst hw
      have hP : va_P V.1 vwCl [(y 32, aI V 10 fy32), (y 0, .inr (9, o9_rirrrrrrrrvviii (y 1) py0_1 (y 2) (y 10) (y 19) (y 25) (y 26) (y 30) (y 31) (y 32) o10 o11 py0_12 py0_13 py0_14)), (y 3, aI V 4 fy3), (y 9, aI V 900 fy9), (y 19, .inr (4, o4_rrrrrr (y 2) (y 20) (y 21) (y 22) (y 23) (y 24))), (y 20, aI V 2000 f_26), (y 21, aI V 6 f_27), (y 22, aI V 64 f_28), (y 2, .inr (1, o1_iiiiiirrrrrrriiiii py2_0 py2_1 py2_2 py2_3 py2_4 py2_5 (y 3) (y 4) (y 5) (y 6) (y 7) (y 8) (y 9) py2_13 py2_14 py2_15 py2_16 py2_17))] H := hP
      have hD := cpD hP hD
      refine lv_iload hx hb dX9_alikeWith_63 (lv_at hl 2 rfl) ?_
      refine lv_icmp_ne (tgt := 71) hx hb dX9_alikeWith_65 (by decide) (fun c_32 => ?_) (fun c_32 => ?_)
      · obtain ⟨x_33, ex_33⟩ : ∃ z9 : Int32, z9 = u_9 + 1 := ⟨_, rfl⟩
        have bx_33 : iv 1 10 x_33 := by rw [ex_33]; exact iv_add b_17 (iv_c (1 : Int32) (a := 1) (b := 1) (by decide)) (by decide)
        refine lv_iinc (v := x_33) (lv' := [(6, .int x_33), (5, .int u_10), (4, .int r_8), (0, .ref (y 0)), (1, .int a1), (2, .int a2), (3, .int a3)]) hx hb dX9_alikeWith_71 hl (k := 0) rfl (by rw [ex_33]; rfl) (by decide) rfl (fun ls hl => ?_)
        refine lv_goto (tgt := 26) hx hb dX9_alikeWith_74 (by decide) ?_
        exact ihn_14 _ _ _ _ (by rw [en_14, ex_33]; exact mu_up b_17 (by decide)) ⟨x_33, u_10, f_26, f_27, f_28, (iv_w bx_33 (by decide)), tf_26, kn_30, rfl, hP, hD, hS, lv_sub hl [0, 1, 2, 3, 4, 5, 6] rfl⟩
      · obtain ⟨x_34, ex_34⟩ : ∃ z9 : Int32, z9 = u_10 + 1 := ⟨_, rfl⟩
        refine lv_iinc (v := x_34) (lv' := [(5, .int x_34), (6, .int u_9), (4, .int r_8), (0, .ref (y 0)), (1, .int a1), (2, .int a2), (3, .int a3)]) hx hb dX9_alikeWith_68 hl (k := 1) rfl (by rw [ex_34]; rfl) (by decide) rfl (fun ls hl => ?_)
        obtain ⟨x_35, ex_35⟩ : ∃ z9 : Int32, z9 = u_9 + 1 := ⟨_, rfl⟩
        have bx_35 : iv 1 10 x_35 := by rw [ex_35]; exact iv_add b_17 (iv_c (1 : Int32) (a := 1) (b := 1) (by decide)) (by decide)
        refine lv_iinc (v := x_35) (lv' := [(6, .int x_35), (5, .int x_34), (4, .int r_8), (0, .ref (y 0)), (1, .int a1), (2, .int a2), (3, .int a3)]) hx hb dX9_alikeWith_71 hl (k := 1) rfl (by rw [ex_35]; rfl) (by decide) rfl (fun ls hl => ?_)
        refine lv_goto (tgt := 26) hx hb dX9_alikeWith_74 (by decide) ?_
        exact ihn_14 _ _ _ _ (by rw [en_14, ex_35]; exact mu_up b_17 (by decide)) ⟨x_35, x_34, f_26, f_27, f_28, (iv_w bx_35 (by decide)), tf_26, kn_30, rfl, hP, hD, hS, lv_sub hl [0, 1, 2, 3, 4, 5, 6] rfl⟩
