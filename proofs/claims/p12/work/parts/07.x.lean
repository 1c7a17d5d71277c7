theorem dX9_lies_0 : decode cX9_lies 0 = .ok (.aload_n 0, 1) := by decide +kernel
theorem dX9_lies_1 : decode cX9_lies 1 = .ok (.iload_n 1, 1) := by decide +kernel
theorem dX9_lies_2 : decode cX9_lies 2 = .ok (.invokevirtual 128, 3) := by decide +kernel
theorem dX9_lies_5 : decode cX9_lies 5 = .ok (.ifCond .ne 6, 3) := by decide +kernel
theorem dX9_lies_8 : decode cX9_lies 8 = .ok (.bipush (-2), 2) := by decide +kernel
theorem dX9_lies_10 : decode cX9_lies 10 = .ok (.ireturn, 1) := by decide +kernel
theorem dX9_lies_11 : decode cX9_lies 11 = .ok (.iload_n 2, 1) := by decide +kernel
theorem dX9_lies_12 : decode cX9_lies 12 = .ok (.ifCond .lt 9, 3) := by decide +kernel
theorem dX9_lies_21 : decode cX9_lies 21 = .ok (.bipush (-3), 2) := by decide +kernel
theorem dX9_lies_23 : decode cX9_lies 23 = .ok (.ireturn, 1) := by decide +kernel
theorem dX9_lies_15 : decode cX9_lies 15 = .ok (.iload_n 2, 1) := by decide +kernel
theorem q_4_21 : Cond.constant "BeaconDelay" 226 (99999 : Int32) ∈ gw := gw_4 (i := 21) (by decide +kernel) rfl
theorem dX9_lies_16 : decode cX9_lies 16 = .ok (.ldc 226, 2) := by decide +kernel
theorem dX9_lies_18 : decode cX9_lies 18 = .ok (.if_icmp .le 6, 3) := by decide +kernel
theorem dX9_lies_24 : decode cX9_lies 24 = .ok (.aload_n 0, 1) := by decide +kernel
theorem q_2_41 : Cond.fieldLink "BeaconDelay" 41 "BeaconDelay" "calm" "LBeaconDelay$Calm;" ∈ gw := gw_2 (i := 41) (by decide +kernel) rfl
theorem dX9_lies_25 : decode cX9_lies 25 = .ok (.getfield 41, 3) := by decide +kernel
theorem dX9_lies_28 : decode cX9_lies 28 = .ok (.aload_n 0, 1) := by decide +kernel
theorem dX9_lies_29 : decode cX9_lies 29 = .ok (.getfield 34, 3) := by decide +kernel
theorem dX9_lies_32 : decode cX9_lies 32 = .ok (.aload_n 0, 1) := by decide +kernel
theorem dX9_lies_33 : decode cX9_lies 33 = .ok (.getfield 113, 3) := by decide +kernel
theorem dX9_lies_36 : decode cX9_lies 36 = .ok (.aload_n 0, 1) := by decide +kernel
theorem dX9_lies_37 : decode cX9_lies 37 = .ok (.getfield 116, 3) := by decide +kernel
theorem q_4_25 : Cond.code yX0_follow prog_2_method_2_code 10 none ∈ gw := gw_4 (i := 25) (rfl) rfl
theorem q_1_5 : Cond.initialized "BeaconDelay$Calm" ∈ gw := gw_1 (i := 5) (by decide +kernel) rfl
theorem q_4_23 : Cond.instanceMethod yX0_follow ∈ gw := gw_4 (i := 23) (by decide +kernel) rfl
theorem q_4_24 : Cond.selects "BeaconDelay$Calm" yX0_follow yX0_follow ∈ gw := gw_4 (i := 24) (by decide +kernel) rfl
theorem mt_X0_follow : MtV yX0_follow cX0_follow 10 none 3 := ⟨⟨q_4_25, q_1_5, by decide +kernel, by decide +kernel, by decide +kernel⟩, q_4_23, q_4_24⟩
theorem q_4_22 : Cond.methodLink "BeaconDelay" 227 yX0_follow ∈ gw := gw_4 (i := 22) (by decide +kernel) rfl
theorem dX9_lies_40 : decode cX9_lies 40 = .ok (.invokevirtual 227, 3) := by decide +kernel
theorem dX9_lies_43 : decode cX9_lies 43 = .ok (.iload_n 2, 1) := by decide +kernel
theorem dX9_lies_44 : decode cX9_lies 44 = .ok (.istore_n 3, 1) := by decide +kernel
theorem dX9_lies_45 : decode cX9_lies 45 = .ok (.iload_n 2, 1) := by decide +kernel
theorem dX9_lies_46 : decode cX9_lies 46 = .ok (.aload_n 0, 1) := by decide +kernel
theorem dX9_lies_47 : decode cX9_lies 47 = .ok (.getfield 41, 3) := by decide +kernel
theorem q_1_197 : Cond.fieldLink "BeaconDelay" 231 "BeaconDelay$Calm" "tail" "I" ∈ gw := gw_1 (i := 197) (by decide +kernel) rfl
theorem dX9_lies_50 : decode cX9_lies 50 = .ok (.getfield 231, 3) := by decide +kernel
theorem dX9_lies_53 : decode cX9_lies 53 = .ok (.if_icmp .le 39, 3) := by decide +kernel
theorem dX9_lies_92 : decode cX9_lies 92 = .ok (.aload_n 0, 1) := by decide +kernel
theorem dX9_lies_93 : decode cX9_lies 93 = .ok (.getfield 113, 3) := by decide +kernel
theorem dX9_lies_96 : decode cX9_lies 96 = .ok (.istore 4, 2) := by decide +kernel
theorem dX9_lies_98 : decode cX9_lies 98 = .ok (.iconst 0, 1) := by decide +kernel
theorem dX9_lies_99 : decode cX9_lies 99 = .ok (.istore 5, 2) := by decide +kernel
theorem dX9_lies_101 : decode cX9_lies 101 = .ok (.iload 5, 2) := by decide +kernel
theorem dX9_lies_103 : decode cX9_lies 103 = .ok (.iload_n 3, 1) := by decide +kernel
theorem dX9_lies_104 : decode cX9_lies 104 = .ok (.if_icmp .ge 25, 3) := by decide +kernel
theorem dX9_lies_129 : decode cX9_lies 129 = .ok (.iload 4, 2) := by decide +kernel
theorem dX9_lies_131 : decode cX9_lies 131 = .ok (.iload_n 1, 1) := by decide +kernel
theorem dX9_lies_132 : decode cX9_lies 132 = .ok (.invokestatic 132, 3) := by decide +kernel
theorem dX9_lies_135 : decode cX9_lies 135 = .ok (.ireturn, 1) := by decide +kernel
theorem dX9_lies_107 : decode cX9_lies 107 = .ok (.aload_n 0, 1) := by decide +kernel
theorem dX9_lies_108 : decode cX9_lies 108 = .ok (.getfield 34, 3) := by decide +kernel
theorem dX9_lies_111 : decode cX9_lies 111 = .ok (.iload 4, 2) := by decide +kernel
theorem dX9_lies_113 : decode cX9_lies 113 = .ok (.aload_n 0, 1) := by decide +kernel
theorem dX9_lies_114 : decode cX9_lies 114 = .ok (.getfield 116, 3) := by decide +kernel
theorem dX9_lies_117 : decode cX9_lies 117 = .ok (.iconst 0, 1) := by decide +kernel
theorem dX9_lies_118 : decode cX9_lies 118 = .ok (.invokevirtual 155, 3) := by decide +kernel
theorem dX9_lies_121 : decode cX9_lies 121 = .ok (.istore 4, 2) := by decide +kernel
theorem dX9_lies_123 : decode cX9_lies 123 = .ok (.iinc 5 1, 3) := by decide +kernel
theorem dX9_lies_126 : decode cX9_lies 126 = .ok (.goto (-25), 3) := by decide +kernel
theorem dX9_lies_56 : decode cX9_lies 56 = .ok (.aload_n 0, 1) := by decide +kernel
theorem dX9_lies_57 : decode cX9_lies 57 = .ok (.getfield 41, 3) := by decide +kernel
theorem q_1_199 : Cond.fieldLink "BeaconDelay" 234 "BeaconDelay$Calm" "period" "I" ∈ gw := gw_1 (i := 199) (by decide +kernel) rfl
theorem dX9_lies_60 : decode cX9_lies 60 = .ok (.getfield 234, 3) := by decide +kernel
theorem dX9_lies_63 : decode cX9_lies 63 = .ok (.ifCond .le 29, 3) := by decide +kernel
theorem dX9_lies_66 : decode cX9_lies 66 = .ok (.aload_n 0, 1) := by decide +kernel
theorem dX9_lies_67 : decode cX9_lies 67 = .ok (.getfield 41, 3) := by decide +kernel
theorem dX9_lies_70 : decode cX9_lies 70 = .ok (.getfield 231, 3) := by decide +kernel
theorem dX9_lies_73 : decode cX9_lies 73 = .ok (.iload_n 2, 1) := by decide +kernel
theorem dX9_lies_74 : decode cX9_lies 74 = .ok (.aload_n 0, 1) := by decide +kernel
theorem dX9_lies_75 : decode cX9_lies 75 = .ok (.getfield 41, 3) := by decide +kernel
theorem dX9_lies_78 : decode cX9_lies 78 = .ok (.getfield 231, 3) := by decide +kernel
theorem dX9_lies_81 : decode cX9_lies 81 = .ok (.isub, 1) := by decide +kernel
theorem dX9_lies_82 : decode cX9_lies 82 = .ok (.aload_n 0, 1) := by decide +kernel
theorem dX9_lies_83 : decode cX9_lies 83 = .ok (.getfield 41, 3) := by decide +kernel
theorem dX9_lies_86 : decode cX9_lies 86 = .ok (.getfield 234, 3) := by decide +kernel
theorem dX9_lies_89 : decode cX9_lies 89 = .ok (.irem, 1) := by decide +kernel
theorem dX9_lies_90 : decode cX9_lies 90 = .ok (.iadd, 1) := by decide +kernel
theorem dX9_lies_91 : decode cX9_lies 91 = .ok (.istore_n 3, 1) := by decide +kernel
set_option maxHeartbeats 4000000 in
set_option maxRecDepth 100000 in
theorem k_X9_lies_0 (l : Launch) (V : GV) (y : Nat → Nat) (D9 : Nat → Int32) (a1 : Int32) (a2 : Int32) (py0_1 : Int32) (o10 : Value) (o11 : Value) (py0_12 : Int32) (py0_13 : Int32) (py0_14 : Int32) (py2_0 : Int32) (py2_1 : Int32) (py2_2 : Int32) (py2_3 : Int32) (py2_4 : Int32) (py2_5 : Int32) (py2_13 : Int32) (py2_14 : Int32) (py2_15 : Int32) (py2_16 : Int32) (py2_17 : Int32) (fy3 : Nat → Int32) (fy9 : Nat → Int32) (fy20 : Nat → Int32) (fy21 : Nat → Int32) (fy22 : Nat → Int32) (py25_0 : Int32) (py25_1 : Int32) (bpy0_1 : iv 0 900 py0_1) (bpy0_12 : iv 0 9999 py0_12) (bpy0_13 : iv 0 9 py0_13) (bpy2_1 : iv 0 4 py2_1) (bpy2_2 : iv 0 4 py2_2) (bpy2_3 : iv 0 8 py2_3) (bpy2_4 : iv 0 9999 py2_4) (bpy2_5 : iv 0 9 py2_5) (bpy2_13 : iv 0 900 py2_13) (bpy2_14 : iv 0 900 py2_14) (bpy2_15 : iv 0 900 py2_15) (bpy2_16 : iv 0 900 py2_16) (bpy2_17 : iv 0 900 py2_17) (tfy20 : ∀ j, iv 0 10 (fy20 j)) (hL9 : LW D9 fy3 fy9 py2_14 py2_15 py2_16 py2_17) (hK9 : KN D9 fy20) : Ct l V yX9_lies (.code yX9_lies cX9_lies 6 (some .int)) 7 [.ref (y 0), .int a1, .int a2] [(y 0, .inr (9, [.ref (y 1), .int py0_1, .ref (y 2), .ref (y 10), .ref (y 19), .ref (y 25), .ref (y 26), .ref (y 30), .ref (y 31), .ref (y 32), o10, o11, .int py0_12, .int py0_13, .int py0_14])), (y 2, .inr (1, [.int py2_0, .int py2_1, .int py2_2, .int py2_3, .int py2_4, .int py2_5, .ref (y 3), .ref (y 4), .ref (y 5), .ref (y 6), .ref (y 7), .ref (y 8), .ref (y 9), .int py2_13, .int py2_14, .int py2_15, .int py2_16, .int py2_17])), (y 3, aI V 4 fy3), (y 9, aI V 900 fy9), (y 19, .inr (4, [.ref (y 2), .ref (y 20), .ref (y 21), .ref (y 22), .ref (y 23), .ref (y 24)])), (y 20, aI V 2000 fy20), (y 21, aI V 6 fy21), (y 22, aI V 64 fy22), (y 25, .inr (0, [.int py25_0, .int py25_1]))] 0 0 (QI V (fun (r : Int32) (w : va_W) => ∃ (g0 : Nat → Int32) (g1 : Nat → Int32) (g2 : Nat → Int32) (v3 : Int32) (v4 : Int32), (∀ j, iv 0 10 (g0 j)) ∧ iv (-3) 4 r ∧ KN D9 g0 ∧ w = [(y 0, .inr (9, [.ref (y 1), .int py0_1, .ref (y 2), .ref (y 10), .ref (y 19), .ref (y 25), .ref (y 26), .ref (y 30), .ref (y 31), .ref (y 32), o10, o11, .int py0_12, .int py0_13, .int py0_14])), (y 2, .inr (1, [.int py2_0, .int py2_1, .int py2_2, .int py2_3, .int py2_4, .int py2_5, .ref (y 3), .ref (y 4), .ref (y 5), .ref (y 6), .ref (y 7), .ref (y 8), .ref (y 9), .int py2_13, .int py2_14, .int py2_15, .int py2_16, .int py2_17])), (y 3, aI V 4 fy3), (y 9, aI V 900 fy9), (y 19, .inr (4, [.ref (y 2), .ref (y 20), .ref (y 21), .ref (y 22), .ref (y 23), .ref (y 24)])), (y 20, aI V 2000 g0), (y 21, aI V 6 g1), (y 22, aI V 64 g2), (y 25, .inr (0, [.int v3, .int v4]))])) := by
  refine Ct.of (by decide) (Nat.le_of_ble_eq_true rfl) (fun p e s m below meth c A ls hx hb hr hml hown hlk hnm hg hP hK hD hE hA hS hl => ?_)
  have hl : lv_has ls 6 [(0, .ref (y 0)), (1, .int a1), (2, .int a2)] := hl
  refine lv_aload_n hx hb dX9_lies_0 rfl (lv_at hl 0 rfl) ?_
  refine lv_iload_n hx hb dX9_lies_1 rfl (lv_at hl 1 rfl) ?_
  refine jnI (wr := [(y 3, aI V 4 fy3), (y 9, aI V 900 fy9), (y 19, .inr (4, [.ref (y 2), .ref (y 20), .ref (y 21), .ref (y 22), .ref (y 23), .ref (y 24)])), (y 20, aI V 2000 fy20), (y 21, aI V 6 fy21), (y 22, aI V 64 fy22), (y 25, .inr (0, [.int py25_0, .int py25_1]))]) (rnV (rest := []) ⟨hx, hb, hml, hown, hg⟩ (k_X9_isHill_0 l V y a1 py0_1 o10 o11 py0_12 py0_13 py0_14 py2_0 py2_1 py2_2 py2_3 py2_4 py2_5 py2_13 py2_14 py2_15 py2_16 py2_17 bpy0_1 bpy0_12 bpy0_13 bpy2_1 bpy2_2 bpy2_3 bpy2_4 bpy2_5 bpy2_13 bpy2_14 bpy2_15 bpy2_16 bpy2_17) mt_X9_isHill q_3_122 ⟨Nat.le_of_ble_eq_true rfl, Nat.le_of_ble_eq_true rfl⟩ hK hP hD hS hA hE [0, 1] rfl rfl 0 rfl rfl rfl rfl hl.1 rfl (Nat.le_of_ble_eq_true rfl) dX9_lies_2 ⟨Nat.le_of_ble_eq_true rfl, Nat.le_of_ble_eq_true rfl⟩) hP hD hS hA [0, 1] [2, 3, 4, 5, 6, 7, 8] rfl rfl rfl (by decide) (fun r_1 w H locs hw hP hD hS => ?_)
  rcases hw with ⟨c_2, rfl, et_3, rfl⟩ | ⟨c_4, c_5, rfl, et_6, rfl⟩ | ⟨c_7, c_8, rfl, et_9, rfl⟩
  · have hP : va_P V.1 vwCl [(y 3, aI V 4 fy3), (y 9, aI V 900 fy9), (y 19, .inr (4, [.ref (y 2), .ref (y 20), .ref (y 21), .ref (y 22), .ref (y 23), .ref (y 24)])), (y 20, aI V 2000 fy20), (y 21, aI V 6 fy21), (y 22, aI V 64 fy22), (y 25, .inr (0, [.int py25_0, .int py25_1])), (y 0, .inr (9, [.ref (y 1), .int py0_1, .ref (y 2), .ref (y 10), .ref (y 19), .ref (y 25), .ref (y 26), .ref (y 30), .ref (y 31), .ref (y 32), o10, o11, .int py0_12, .int py0_13, .int py0_14])), (y 2, .inr (1, [.int py2_0, .int py2_1, .int py2_2, .int py2_3, .int py2_4, .int py2_5, .ref (y 3), .ref (y 4), .ref (y 5), .ref (y 6), .ref (y 7), .ref (y 8), .ref (y 9), .int py2_13, .int py2_14, .int py2_15, .int py2_16, .int py2_17]))] H := hP
    have hD : va_D A [(y 3, aI V 4 fy3), (y 9, aI V 900 fy9), (y 19, .inr (4, [.ref (y 2), .ref (y 20), .ref (y 21), .ref (y 22), .ref (y 23), .ref (y 24)])), (y 20, aI V 2000 fy20), (y 21, aI V 6 fy21), (y 22, aI V 64 fy22), (y 25, .inr (0, [.int py25_0, .int py25_1])), (y 0, .inr (9, [.ref (y 1), .int py0_1, .ref (y 2), .ref (y 10), .ref (y 19), .ref (y 25), .ref (y 26), .ref (y 30), .ref (y 31), .ref (y 32), o10, o11, .int py0_12, .int py0_13, .int py0_14])), (y 2, .inr (1, [.int py2_0, .int py2_1, .int py2_2, .int py2_3, .int py2_4, .int py2_5, .ref (y 3), .ref (y 4), .ref (y 5), .ref (y 6), .ref (y 7), .ref (y 8), .ref (y 9), .int py2_13, .int py2_14, .int py2_15, .int py2_16, .int py2_17]))] := hD
    have b_10 : iv (-2147483648) (-1) a1 := iv_l1 c_2 (iv_top a1) (iv_c (0 : Int32) (a := 0) (b := 0) (by decide)) (by decide)
    refine lv_if_ne (tgt := 11) hx hb dX9_lies_5 (by decide) (fun c_12 => absurd c_12 (by decide)) (fun _ => ?_)
    refine lv_bipush (v := (-2)) hx hb dX9_lies_8 (by decide) ?_
    have hP := subP (ws' := [(y 0, .inr (9, [.ref (y 1), .int py0_1, .ref (y 2), .ref (y 10), .ref (y 19), .ref (y 25), .ref (y 26), .ref (y 30), .ref (y 31), .ref (y 32), o10, o11, .int py0_12, .int py0_13, .int py0_14])), (y 2, .inr (1, [.int py2_0, .int py2_1, .int py2_2, .int py2_3, .int py2_4, .int py2_5, .ref (y 3), .ref (y 4), .ref (y 5), .ref (y 6), .ref (y 7), .ref (y 8), .ref (y 9), .int py2_13, .int py2_14, .int py2_15, .int py2_16, .int py2_17])), (y 3, aI V 4 fy3), (y 9, aI V 900 fy9), (y 19, .inr (4, [.ref (y 2), .ref (y 20), .ref (y 21), .ref (y 22), .ref (y 23), .ref (y 24)])), (y 20, aI V 2000 fy20), (y 21, aI V 6 fy21), (y 22, aI V 64 fy22), (y 25, .inr (0, [.int py25_0, .int py25_1]))]) hP [7, 8, 0, 1, 2, 3, 4, 5, 6] rfl
    have hD := hD.sub (ws' := [(y 0, .inr (9, [.ref (y 1), .int py0_1, .ref (y 2), .ref (y 10), .ref (y 19), .ref (y 25), .ref (y 26), .ref (y 30), .ref (y 31), .ref (y 32), o10, o11, .int py0_12, .int py0_13, .int py0_14])), (y 2, .inr (1, [.int py2_0, .int py2_1, .int py2_2, .int py2_3, .int py2_4, .int py2_5, .ref (y 3), .ref (y 4), .ref (y 5), .ref (y 6), .ref (y 7), .ref (y 8), .ref (y 9), .int py2_13, .int py2_14, .int py2_15, .int py2_16, .int py2_17])), (y 3, aI V 4 fy3), (y 9, aI V 900 fy9), (y 19, .inr (4, [.ref (y 2), .ref (y 20), .ref (y 21), .ref (y 22), .ref (y 23), .ref (y 24)])), (y 20, aI V 2000 fy20), (y 21, aI V 6 fy21), (y 22, aI V 64 fy22), (y 25, .inr (0, [.int py25_0, .int py25_1]))]) [7, 8, 0, 1, 2, 3, 4, 5, 6] rfl rfl
    exact fiI hx hb hr hlk hK hP hD hS dX9_lies_10 (Nat.le_of_ble_eq_true rfl) (Nat.le_of_ble_eq_true rfl) (⟨fy20, fy21, fy22, py25_0, py25_1, tfy20, (iv_c ((-2) : Int32) (by decide)), hK9, rfl⟩)
  · have hP : va_P V.1 vwCl [(y 3, aI V 4 fy3), (y 9, aI V 900 fy9), (y 19, .inr (4, [.ref (y 2), .ref (y 20), .ref (y 21), .ref (y 22), .ref (y 23), .ref (y 24)])), (y 20, aI V 2000 fy20), (y 21, aI V 6 fy21), (y 22, aI V 64 fy22), (y 25, .inr (0, [.int py25_0, .int py25_1])), (y 0, .inr (9, [.ref (y 1), .int py0_1, .ref (y 2), .ref (y 10), .ref (y 19), .ref (y 25), .ref (y 26), .ref (y 30), .ref (y 31), .ref (y 32), o10, o11, .int py0_12, .int py0_13, .int py0_14])), (y 2, .inr (1, [.int py2_0, .int py2_1, .int py2_2, .int py2_3, .int py2_4, .int py2_5, .ref (y 3), .ref (y 4), .ref (y 5), .ref (y 6), .ref (y 7), .ref (y 8), .ref (y 9), .int py2_13, .int py2_14, .int py2_15, .int py2_16, .int py2_17]))] H := hP
    have hD : va_D A [(y 3, aI V 4 fy3), (y 9, aI V 900 fy9), (y 19, .inr (4, [.ref (y 2), .ref (y 20), .ref (y 21), .ref (y 22), .ref (y 23), .ref (y 24)])), (y 20, aI V 2000 fy20), (y 21, aI V 6 fy21), (y 22, aI V 64 fy22), (y 25, .inr (0, [.int py25_0, .int py25_1])), (y 0, .inr (9, [.ref (y 1), .int py0_1, .ref (y 2), .ref (y 10), .ref (y 19), .ref (y 25), .ref (y 26), .ref (y 30), .ref (y 31), .ref (y 32), o10, o11, .int py0_12, .int py0_13, .int py0_14])), (y 2, .inr (1, [.int py2_0, .int py2_1, .int py2_2, .int py2_3, .int py2_4, .int py2_5, .ref (y 3), .ref (y 4), .ref (y 5), .ref (y 6), .ref (y 7), .ref (y 8), .ref (y 9), .int py2_13, .int py2_14, .int py2_15, .int py2_16, .int py2_17]))] := hD
    have b_13 : iv 0 2147483647 a1 := iv_e2 (Int32.not_lt.mp c_4) (iv_c (0 : Int32) (a := 0) (b := 0) (by decide)) (iv_top a1) (by decide)
    refine lv_if_ne (tgt := 11) hx hb dX9_lies_5 (by decide) (fun c_15 => absurd c_15 (by decide)) (fun _ => ?_)
    refine lv_bipush (v := (-2)) hx hb dX9_lies_8 (by decide) ?_
    have hP := subP (ws' := [(y 0, .inr (9, [.ref (y 1), .int py0_1, .ref (y 2), .ref (y 10), .ref (y 19), .ref (y 25), .ref (y 26), .ref (y 30), .ref (y 31), .ref (y 32), o10, o11, .int py0_12, .int py0_13, .int py0_14])), (y 2, .inr (1, [.int py2_0, .int py2_1, .int py2_2, .int py2_3, .int py2_4, .int py2_5, .ref (y 3), .ref (y 4), .ref (y 5), .ref (y 6), .ref (y 7), .ref (y 8), .ref (y 9), .int py2_13, .int py2_14, .int py2_15, .int py2_16, .int py2_17])), (y 3, aI V 4 fy3), (y 9, aI V 900 fy9), (y 19, .inr (4, [.ref (y 2), .ref (y 20), .ref (y 21), .ref (y 22), .ref (y 23), .ref (y 24)])), (y 20, aI V 2000 fy20), (y 21, aI V 6 fy21), (y 22, aI V 64 fy22), (y 25, .inr (0, [.int py25_0, .int py25_1]))]) hP [7, 8, 0, 1, 2, 3, 4, 5, 6] rfl
    have hD := hD.sub (ws' := [(y 0, .inr (9, [.ref (y 1), .int py0_1, .ref (y 2), .ref (y 10), .ref (y 19), .ref (y 25), .ref (y 26), .ref (y 30), .ref (y 31), .ref (y 32), o10, o11, .int py0_12, .int py0_13, .int py0_14])), (y 2, .inr (1, [.int py2_0, .int py2_1, .int py2_2, .int py2_3, .int py2_4, .int py2_5, .ref (y 3), .ref (y 4), .ref (y 5), .ref (y 6), .ref (y 7), .ref (y 8), .ref (y 9), .int py2_13, .int py2_14, .int py2_15, .int py2_16, .int py2_17])), (y 3, aI V 4 fy3), (y 9, aI V 900 fy9), (y 19, .inr (4, [.ref (y 2), .ref (y 20), .ref (y 21), .ref (y 22), .ref (y 23), .ref (y 24)])), (y 20, aI V 2000 fy20), (y 21, aI V 6 fy21), (y 22, aI V 64 fy22), (y 25, .inr (0, [.int py25_0, .int py25_1]))]) [7, 8, 0, 1, 2, 3, 4, 5, 6] rfl rfl
    exact fiI hx hb hr hlk hK hP hD hS dX9_lies_10 (Nat.le_of_ble_eq_true rfl) (Nat.le_of_ble_eq_true rfl) (⟨fy20, fy21, fy22, py25_0, py25_1, tfy20, (iv_c ((-2) : Int32) (by decide)), hK9, rfl⟩)
  · have hP : va_P V.1 vwCl [(y 3, aI V 4 fy3), (y 9, aI V 900 fy9), (y 19, .inr (4, [.ref (y 2), .ref (y 20), .ref (y 21), .ref (y 22), .ref (y 23), .ref (y 24)])), (y 20, aI V 2000 fy20), (y 21, aI V 6 fy21), (y 22, aI V 64 fy22), (y 25, .inr (0, [.int py25_0, .int py25_1])), (y 0, .inr (9, [.ref (y 1), .int py0_1, .ref (y 2), .ref (y 10), .ref (y 19), .ref (y 25), .ref (y 26), .ref (y 30), .ref (y 31), .ref (y 32), o10, o11, .int py0_12, .int py0_13, .int py0_14])), (y 2, .inr (1, [.int py2_0, .int py2_1, .int py2_2, .int py2_3, .int py2_4, .int py2_5, .ref (y 3), .ref (y 4), .ref (y 5), .ref (y 6), .ref (y 7), .ref (y 8), .ref (y 9), .int py2_13, .int py2_14, .int py2_15, .int py2_16, .int py2_17]))] H := hP
    have hD : va_D A [(y 3, aI V 4 fy3), (y 9, aI V 900 fy9), (y 19, .inr (4, [.ref (y 2), .ref (y 20), .ref (y 21), .ref (y 22), .ref (y 23), .ref (y 24)])), (y 20, aI V 2000 fy20), (y 21, aI V 6 fy21), (y 22, aI V 64 fy22), (y 25, .inr (0, [.int py25_0, .int py25_1])), (y 0, .inr (9, [.ref (y 1), .int py0_1, .ref (y 2), .ref (y 10), .ref (y 19), .ref (y 25), .ref (y 26), .ref (y 30), .ref (y 31), .ref (y 32), o10, o11, .int py0_12, .int py0_13, .int py0_14])), (y 2, .inr (1, [.int py2_0, .int py2_1, .int py2_2, .int py2_3, .int py2_4, .int py2_5, .ref (y 3), .ref (y 4), .ref (y 5), .ref (y 6), .ref (y 7), .ref (y 8), .ref (y 9), .int py2_13, .int py2_14, .int py2_15, .int py2_16, .int py2_17]))] := hD
    have b_16 : iv 0 2147483647 a1 := iv_e2 (Int32.not_lt.mp c_7) (iv_c (0 : Int32) (a := 0) (b := 0) (by decide)) (iv_top a1) (by decide)
    have b_17 : iv 0 3 a1 := iv_l1 (Int32.not_le.mp c_8) b_16 bpy2_1 (by decide)
    have b_18 : iv 1 4 py2_1 := iv_l2 (Int32.not_le.mp c_8) b_16 bpy2_1 (by decide)
    refine lv_if_ne (tgt := 11) hx hb dX9_lies_5 (by decide) (fun _ => ?_) (fun c_20 => absurd c_20 (by decide))
    refine lv_iload_n hx hb dX9_lies_11 rfl (lv_at hl 2 rfl) ?_
    refine lv_if_lt (tgt := 21) hx hb dX9_lies_12 (by decide) (fun c_21 => ?_) (fun c_21 => ?_)
    · have b_22 : iv (-2147483648) (-1) a2 := iv_l1 c_21 (iv_top a2) (iv_c (0 : Int32) (a := 0) (b := 0) (by decide)) (by decide)
      refine lv_bipush (v := (-3)) hx hb dX9_lies_21 (by decide) ?_
      have hP := subP (ws' := [(y 0, .inr (9, [.ref (y 1), .int py0_1, .ref (y 2), .ref (y 10), .ref (y 19), .ref (y 25), .ref (y 26), .ref (y 30), .ref (y 31), .ref (y 32), o10, o11, .int py0_12, .int py0_13, .int py0_14])), (y 2, .inr (1, [.int py2_0, .int py2_1, .int py2_2, .int py2_3, .int py2_4, .int py2_5, .ref (y 3), .ref (y 4), .ref (y 5), .ref (y 6), .ref (y 7), .ref (y 8), .ref (y 9), .int py2_13, .int py2_14, .int py2_15, .int py2_16, .int py2_17])), (y 3, aI V 4 fy3), (y 9, aI V 900 fy9), (y 19, .inr (4, [.ref (y 2), .ref (y 20), .ref (y 21), .ref (y 22), .ref (y 23), .ref (y 24)])), (y 20, aI V 2000 fy20), (y 21, aI V 6 fy21), (y 22, aI V 64 fy22), (y 25, .inr (0, [.int py25_0, .int py25_1]))]) hP [7, 8, 0, 1, 2, 3, 4, 5, 6] rfl
      have hD := hD.sub (ws' := [(y 0, .inr (9, [.ref (y 1), .int py0_1, .ref (y 2), .ref (y 10), .ref (y 19), .ref (y 25), .ref (y 26), .ref (y 30), .ref (y 31), .ref (y 32), o10, o11, .int py0_12, .int py0_13, .int py0_14])), (y 2, .inr (1, [.int py2_0, .int py2_1, .int py2_2, .int py2_3, .int py2_4, .int py2_5, .ref (y 3), .ref (y 4), .ref (y 5), .ref (y 6), .ref (y 7), .ref (y 8), .ref (y 9), .int py2_13, .int py2_14, .int py2_15, .int py2_16, .int py2_17])), (y 3, aI V 4 fy3), (y 9, aI V 900 fy9), (y 19, .inr (4, [.ref (y 2), .ref (y 20), .ref (y 21), .ref (y 22), .ref (y 23), .ref (y 24)])), (y 20, aI V 2000 fy20), (y 21, aI V 6 fy21), (y 22, aI V 64 fy22), (y 25, .inr (0, [.int py25_0, .int py25_1]))]) [7, 8, 0, 1, 2, 3, 4, 5, 6] rfl rfl
      exact fiI hx hb hr hlk hK hP hD hS dX9_lies_23 (Nat.le_of_ble_eq_true rfl) (Nat.le_of_ble_eq_true rfl) (⟨fy20, fy21, fy22, py25_0, py25_1, tfy20, (iv_c ((-3) : Int32) (by decide)), hK9, rfl⟩)
    · have b_23 : iv 0 2147483647 a2 := iv_e2 (Int32.not_lt.mp c_21) (iv_c (0 : Int32) (a := 0) (b := 0) (by decide)) (iv_top a2) (by decide)
      refine lv_iload_n hx hb dX9_lies_15 rfl (lv_at hl 2 rfl) ?_
      refine lv_ldc (v := 99999) hx hb hown (hg _ q_4_21) dX9_lies_16 ?_
      refine lv_icmp_le (tgt := 24) hx hb dX9_lies_18 (by decide) (fun c_24 => ?_) (fun c_24 => ?_)
      · have b_25 : iv 0 99999 a2 := iv_e1 c_24 b_23 (iv_c (99999 : Int32) (a := 99999) (b := 99999) (by decide)) (by decide)
        refine lv_aload_n hx hb dX9_lies_24 rfl (lv_at hl 0 rfl) ?_
        refine va_get (ci := 9) (v := .ref (y 25)) (C := RX9) (T := TX9) (N := 15) hx hb hg inX9 hown hK hP 7 rfl rfl 5 (by decide) (hg _ q_2_41) (fun _ h9 => h9) rfl dX9_lies_25 ?_
        refine lv_aload_n hx hb dX9_lies_28 rfl (lv_at hl 0 rfl) ?_
        refine va_get (ci := 9) (v := .ref (y 19)) (C := RX9) (T := TX9) (N := 15) hx hb hg inX9 hown hK hP 7 rfl rfl 4 (by decide) (hg _ q_2_40) (fun _ h9 => h9) rfl dX9_lies_29 ?_
        refine lv_aload_n hx hb dX9_lies_32 rfl (lv_at hl 0 rfl) ?_
        refine va_get (ci := 9) (v := .int py0_12) (C := RX9) (T := TX9) (N := 15) hx hb hg inX9 hown hK hP 7 rfl rfl 12 (by decide) (hg _ q_2_48) (fun _ h9 => h9) rfl dX9_lies_33 ?_
        refine lv_aload_n hx hb dX9_lies_36 rfl (lv_at hl 0 rfl) ?_
        refine va_get (ci := 9) (v := .int py0_13) (C := RX9) (T := TX9) (N := 15) hx hb hg inX9 hown hK hP 7 rfl rfl 13 (by decide) (hg _ q_2_49) (fun _ h9 => h9) rfl dX9_lies_37 ?_
        refine jnV (wr := [(y 0, .inr (9, [.ref (y 1), .int py0_1, .ref (y 2), .ref (y 10), .ref (y 19), .ref (y 25), .ref (y 26), .ref (y 30), .ref (y 31), .ref (y 32), o10, o11, .int py0_12, .int py0_13, .int py0_14]))]) (rnV (rest := []) ⟨hx, hb, hml, hown, hg⟩ (k_X0_follow_0 l V y D9 py0_12 py0_13 fy3 fy9 fy20 fy21 fy22 py25_0 py25_1 py2_0 py2_1 py2_2 py2_3 py2_4 py2_5 py2_13 py2_14 py2_15 py2_16 py2_17 bpy0_12 bpy0_13 tfy20 (iv_w b_18 (by decide)) bpy2_2 bpy2_3 bpy2_4 bpy2_5 bpy2_13 bpy2_14 bpy2_15 bpy2_16 bpy2_17 hL9 hK9) mt_X0_follow q_4_22 ⟨Nat.le_of_ble_eq_true rfl, Nat.le_of_ble_eq_true rfl⟩ hK hP hD hS hA hE [0, 1, 2, 3, 4, 5, 6, 8] rfl rfl 6 rfl rfl rfl rfl hl.1 rfl (Nat.le_of_ble_eq_true rfl) dX9_lies_40 ⟨Nat.le_of_ble_eq_true rfl, Nat.le_of_ble_eq_true rfl⟩) hP hD hS hA [0, 1, 2, 3, 4, 5, 6, 8] [7] rfl rfl rfl (by decide) (fun  w H locs hw hP hD hS => ?_)
        obtain ⟨f_26, f_27, f_28, v_29, v_30, tf_26, kn_31, rfl⟩ := hw
        have hP : va_P V.1 vwCl [(y 0, .inr (9, [.ref (y 1), .int py0_1, .ref (y 2), .ref (y 10), .ref (y 19), .ref (y 25), .ref (y 26), .ref (y 30), .ref (y 31), .ref (y 32), o10, o11, .int py0_12, .int py0_13, .int py0_14])), (y 3, aI V 4 fy3), (y 9, aI V 900 fy9), (y 19, .inr (4, [.ref (y 2), .ref (y 20), .ref (y 21), .ref (y 22), .ref (y 23), .ref (y 24)])), (y 20, aI V 2000 f_26), (y 21, aI V 6 f_27), (y 22, aI V 64 f_28), (y 25, .inr (0, [.int v_29, .int v_30])), (y 2, .inr (1, [.int py2_0, .int py2_1, .int py2_2, .int py2_3, .int py2_4, .int py2_5, .ref (y 3), .ref (y 4), .ref (y 5), .ref (y 6), .ref (y 7), .ref (y 8), .ref (y 9), .int py2_13, .int py2_14, .int py2_15, .int py2_16, .int py2_17]))] H := hP
        have hD : va_D A [(y 0, .inr (9, [.ref (y 1), .int py0_1, .ref (y 2), .ref (y 10), .ref (y 19), .ref (y 25), .ref (y 26), .ref (y 30), .ref (y 31), .ref (y 32), o10, o11, .int py0_12, .int py0_13, .int py0_14])), (y 3, aI V 4 fy3), (y 9, aI V 900 fy9), (y 19, .inr (4, [.ref (y 2), .ref (y 20), .ref (y 21), .ref (y 22), .ref (y 23), .ref (y 24)])), (y 20, aI V 2000 f_26), (y 21, aI V 6 f_27), (y 22, aI V 64 f_28), (y 25, .inr (0, [.int v_29, .int v_30])), (y 2, .inr (1, [.int py2_0, .int py2_1, .int py2_2, .int py2_3, .int py2_4, .int py2_5, .ref (y 3), .ref (y 4), .ref (y 5), .ref (y 6), .ref (y 7), .ref (y 8), .ref (y 9), .int py2_13, .int py2_14, .int py2_15, .int py2_16, .int py2_17]))] := hD
        refine lv_iload_n hx hb dX9_lies_43 rfl (lv_at hl 2 rfl) ?_
        refine lv_istore_n (lv' := [(3, .int a2), (0, .ref (y 0)), (1, .int a1), (2, .int a2)]) hx hb dX9_lies_44 rfl hl (by decide) rfl (fun ls hl => ?_)
        refine lv_iload_n hx hb dX9_lies_45 rfl (lv_at hl 3 rfl) ?_
        refine lv_aload_n hx hb dX9_lies_46 rfl (lv_at hl 1 rfl) ?_
        refine va_get (ci := 9) (v := .ref (y 25)) (C := RX9) (T := TX9) (N := 15) hx hb hg inX9 hown hK hP 0 rfl rfl 5 (by decide) (hg _ q_2_41) (fun _ h9 => h9) rfl dX9_lies_47 ?_
        refine va_get (ci := 0) (v := .int v_29) (C := RX0) (T := TX0) (N := 2) hx hb hg inX0 hown hK hP 7 rfl rfl 0 (by decide) (hg _ q_1_197) (fun _ h9 => h9) rfl dX9_lies_50 ?_
        refine lv_icmp_le (tgt := 92) hx hb dX9_lies_53 (by decide) (fun c_32 => ?_) (fun c_32 => ?_)
        · have b_33 : iv 0 2147483647 v_29 := iv_e2 c_32 b_25 (iv_top v_29) (by decide)
          refine lv_aload_n hx hb dX9_lies_92 rfl (lv_at hl 1 rfl) ?_
          refine va_get (ci := 9) (v := .int py0_12) (C := RX9) (T := TX9) (N := 15) hx hb hg inX9 hown hK hP 0 rfl rfl 12 (by decide) (hg _ q_2_48) (fun _ h9 => h9) rfl dX9_lies_93 ?_
          refine lv_istore (lv' := [(4, .int py0_12), (3, .int a2), (0, .ref (y 0)), (1, .int a1), (2, .int a2)]) hx hb dX9_lies_96 hl (by decide) rfl (fun ls hl => ?_)
          refine lv_iconst (v := 0) hx hb dX9_lies_98 (by decide) ?_
          refine lv_istore (lv' := [(5, .int 0), (4, .int py0_12), (3, .int a2), (0, .ref (y 0)), (1, .int a1), (2, .int a2)]) hx hb dX9_lies_99 hl (by decide) rfl (fun ls hl => ?_)
          refine loopF (X := fun (n_39 : Nat) (H : Heap) (locs : List Loc) (ls : Array Slot) => ∃ (u_34 : Int32) (u_35 : Int32) (f_36 : Nat → Int32) (f_37 : Nat → Int32) (f_38 : Nat → Int32), (iv 0 2147483647 u_34) ∧ (iv 0 9999 u_35) ∧ (∀ j, iv 0 10 (f_36 j)) ∧ KN D9 f_36 ∧ n_39 = (2147483647 - (u_34 : Int32).toInt).toNat ∧ va_P V.1 vwCl [(y 0, .inr (9, [.ref (y 1), .int py0_1, .ref (y 2), .ref (y 10), .ref (y 19), .ref (y 25), .ref (y 26), .ref (y 30), .ref (y 31), .ref (y 32), o10, o11, .int py0_12, .int py0_13, .int py0_14])), (y 3, aI V 4 fy3), (y 9, aI V 900 fy9), (y 19, .inr (4, [.ref (y 2), .ref (y 20), .ref (y 21), .ref (y 22), .ref (y 23), .ref (y 24)])), (y 20, aI V 2000 f_36), (y 21, aI V 6 f_37), (y 22, aI V 64 f_38), (y 25, .inr (0, [.int v_29, .int v_30])), (y 2, .inr (1, [.int py2_0, .int py2_1, .int py2_2, .int py2_3, .int py2_4, .int py2_5, .ref (y 3), .ref (y 4), .ref (y 5), .ref (y 6), .ref (y 7), .ref (y 8), .ref (y 9), .int py2_13, .int py2_14, .int py2_15, .int py2_16, .int py2_17]))] H ∧ va_D A [(y 0, .inr (9, [.ref (y 1), .int py0_1, .ref (y 2), .ref (y 10), .ref (y 19), .ref (y 25), .ref (y 26), .ref (y 30), .ref (y 31), .ref (y 32), o10, o11, .int py0_12, .int py0_13, .int py0_14])), (y 3, aI V 4 fy3), (y 9, aI V 900 fy9), (y 19, .inr (4, [.ref (y 2), .ref (y 20), .ref (y 21), .ref (y 22), .ref (y 23), .ref (y 24)])), (y 20, aI V 2000 f_36), (y 21, aI V 6 f_37), (y 22, aI V 64 f_38), (y 25, .inr (0, [.int v_29, .int v_30])), (y 2, .inr (1, [.int py2_0, .int py2_1, .int py2_2, .int py2_3, .int py2_4, .int py2_5, .ref (y 3), .ref (y 4), .ref (y 5), .ref (y 6), .ref (y 7), .ref (y 8), .ref (y 9), .int py2_13, .int py2_14, .int py2_15, .int py2_16, .int py2_17]))] ∧ va_S A s.heap H locs ∧ lv_has ls 6 [(5, .int u_34), (4, .int u_35), (3, .int a2), (0, .ref (y 0)), (1, .int a1), (2, .int a2)]) (g := fun ls => F0 m 101 ls []) (fun n_39 H locs ls hX ihn_39 => ?_) _ ⟨0, py0_12, f_26, f_27, f_28, (iv_c (0 : Int32) (by decide)), bpy0_12, tf_26, kn_31, rfl, hP, hD, hS, lv_sub hl [0, 1, 2, 3, 4, 5] rfl⟩
          obtain ⟨u_34, u_35, f_36, f_37, f_38, bu_34, bu_35, tf_36, knn_39, en_39, hP, hD, hS, hl⟩ := hX
          refine lv_iload hx hb dX9_lies_101 (lv_at hl 0 rfl) ?_
          refine lv_iload_n hx hb dX9_lies_103 rfl (lv_at hl 2 rfl) ?_
          refine lv_icmp_ge (tgt := 129) hx hb dX9_lies_104 (by decide) (fun c_40 => ?_) (fun c_40 => ?_)
          · refine lv_iload hx hb dX9_lies_129 (lv_at hl 1 rfl) ?_
            refine lv_iload_n hx hb dX9_lies_131 rfl (lv_at hl 4 rfl) ?_
            refine jnI (wr := [(y 0, .inr (9, [.ref (y 1), .int py0_1, .ref (y 2), .ref (y 10), .ref (y 19), .ref (y 25), .ref (y 26), .ref (y 30), .ref (y 31), .ref (y 32), o10, o11, .int py0_12, .int py0_13, .int py0_14])), (y 3, aI V 4 fy3), (y 9, aI V 900 fy9), (y 19, .inr (4, [.ref (y 2), .ref (y 20), .ref (y 21), .ref (y 22), .ref (y 23), .ref (y 24)])), (y 20, aI V 2000 f_36), (y 21, aI V 6 f_37), (y 22, aI V 64 f_38), (y 25, .inr (0, [.int v_29, .int v_30])), (y 2, .inr (1, [.int py2_0, .int py2_1, .int py2_2, .int py2_3, .int py2_4, .int py2_5, .ref (y 3), .ref (y 4), .ref (y 5), .ref (y 6), .ref (y 7), .ref (y 8), .ref (y 9), .int py2_13, .int py2_14, .int py2_15, .int py2_16, .int py2_17]))]) (rnS (rest := []) ⟨hx, hb, hml, hown, hg⟩ (k_X9_stackIn_0 l V u_35 a1 bu_35 (iv_w b_17 (by decide))) mt_X9_stackIn q_3_126 ⟨Nat.le_of_ble_eq_true rfl, Nat.le_of_ble_eq_true rfl⟩ hK hP hD hS hA hE [] rfl rfl rfl hl.1 rfl (Nat.le_of_ble_eq_true rfl) dX9_lies_132 ⟨Nat.le_of_ble_eq_true rfl, Nat.le_of_ble_eq_true rfl⟩) hP hD hS hA [] [0, 1, 2, 3, 4, 5, 6, 7, 8] rfl rfl rfl (by decide) (fun r_41 w H locs hw hP hD hS => ?_)
            obtain ⟨br_41, er_41, et_42, rfl⟩ := hw
            have hP : va_P V.1 vwCl [(y 0, .inr (9, [.ref (y 1), .int py0_1, .ref (y 2), .ref (y 10), .ref (y 19), .ref (y 25), .ref (y 26), .ref (y 30), .ref (y 31), .ref (y 32), o10, o11, .int py0_12, .int py0_13, .int py0_14])), (y 3, aI V 4 fy3), (y 9, aI V 900 fy9), (y 19, .inr (4, [.ref (y 2), .ref (y 20), .ref (y 21), .ref (y 22), .ref (y 23), .ref (y 24)])), (y 20, aI V 2000 f_36), (y 21, aI V 6 f_37), (y 22, aI V 64 f_38), (y 25, .inr (0, [.int v_29, .int v_30])), (y 2, .inr (1, [.int py2_0, .int py2_1, .int py2_2, .int py2_3, .int py2_4, .int py2_5, .ref (y 3), .ref (y 4), .ref (y 5), .ref (y 6), .ref (y 7), .ref (y 8), .ref (y 9), .int py2_13, .int py2_14, .int py2_15, .int py2_16, .int py2_17]))] H := hP
            have hD : va_D A [(y 0, .inr (9, [.ref (y 1), .int py0_1, .ref (y 2), .ref (y 10), .ref (y 19), .ref (y 25), .ref (y 26), .ref (y 30), .ref (y 31), .ref (y 32), o10, o11, .int py0_12, .int py0_13, .int py0_14])), (y 3, aI V 4 fy3), (y 9, aI V 900 fy9), (y 19, .inr (4, [.ref (y 2), .ref (y 20), .ref (y 21), .ref (y 22), .ref (y 23), .ref (y 24)])), (y 20, aI V 2000 f_36), (y 21, aI V 6 f_37), (y 22, aI V 64 f_38), (y 25, .inr (0, [.int v_29, .int v_30])), (y 2, .inr (1, [.int py2_0, .int py2_1, .int py2_2, .int py2_3, .int py2_4, .int py2_5, .ref (y 3), .ref (y 4), .ref (y 5), .ref (y 6), .ref (y 7), .ref (y 8), .ref (y 9), .int py2_13, .int py2_14, .int py2_15, .int py2_16, .int py2_17]))] := hD
            have hP := subP (ws' := [(y 0, .inr (9, [.ref (y 1), .int py0_1, .ref (y 2), .ref (y 10), .ref (y 19), .ref (y 25), .ref (y 26), .ref (y 30), .ref (y 31), .ref (y 32), o10, o11, .int py0_12, .int py0_13, .int py0_14])), (y 2, .inr (1, [.int py2_0, .int py2_1, .int py2_2, .int py2_3, .int py2_4, .int py2_5, .ref (y 3), .ref (y 4), .ref (y 5), .ref (y 6), .ref (y 7), .ref (y 8), .ref (y 9), .int py2_13, .int py2_14, .int py2_15, .int py2_16, .int py2_17])), (y 3, aI V 4 fy3), (y 9, aI V 900 fy9), (y 19, .inr (4, [.ref (y 2), .ref (y 20), .ref (y 21), .ref (y 22), .ref (y 23), .ref (y 24)])), (y 20, aI V 2000 f_36), (y 21, aI V 6 f_37), (y 22, aI V 64 f_38), (y 25, .inr (0, [.int v_29, .int v_30]))]) hP [0, 8, 1, 2, 3, 4, 5, 6, 7] rfl
            have hD := hD.sub (ws' := [(y 0, .inr (9, [.ref (y 1), .int py0_1, .ref (y 2), .ref (y 10), .ref (y 19), .ref (y 25), .ref (y 26), .ref (y 30), .ref (y 31), .ref (y 32), o10, o11, .int py0_12, .int py0_13, .int py0_14])), (y 2, .inr (1, [.int py2_0, .int py2_1, .int py2_2, .int py2_3, .int py2_4, .int py2_5, .ref (y 3), .ref (y 4), .ref (y 5), .ref (y 6), .ref (y 7), .ref (y 8), .ref (y 9), .int py2_13, .int py2_14, .int py2_15, .int py2_16, .int py2_17])), (y 3, aI V 4 fy3), (y 9, aI V 900 fy9), (y 19, .inr (4, [.ref (y 2), .ref (y 20), .ref (y 21), .ref (y 22), .ref (y 23), .ref (y 24)])), (y 20, aI V 2000 f_36), (y 21, aI V 6 f_37), (y 22, aI V 64 f_38), (y 25, .inr (0, [.int v_29, .int v_30]))]) [0, 8, 1, 2, 3, 4, 5, 6, 7] rfl rfl
            exact fiI hx hb hr hlk hK hP hD hS dX9_lies_135 (Nat.le_of_ble_eq_true rfl) (Nat.le_of_ble_eq_true rfl) (⟨f_36, f_37, f_38, v_29, v_30, tf_36, (iv_w br_41 (by decide)), knn_39, rfl⟩)
          · have b_43 : iv 0 99998 u_34 := iv_l1 (Int32.not_le.mp c_40) bu_34 b_25 (by decide)
            have b_44 : iv 1 99999 a2 := iv_l2 (Int32.not_le.mp c_40) bu_34 b_25 (by decide)
            refine lv_aload_n hx hb dX9_lies_107 rfl (lv_at hl 3 rfl) ?_
            refine va_get (ci := 9) (v := .ref (y 19)) (C := RX9) (T := TX9) (N := 15) hx hb hg inX9 hown hK hP 0 rfl rfl 4 (by decide) (hg _ q_2_40) (fun _ h9 => h9) rfl dX9_lies_108 ?_
            refine lv_iload hx hb dX9_lies_111 (lv_at hl 1 rfl) ?_
            refine lv_aload_n hx hb dX9_lies_113 rfl (lv_at hl 3 rfl) ?_
            refine va_get (ci := 9) (v := .int py0_13) (C := RX9) (T := TX9) (N := 15) hx hb hg inX9 hown hK hP 0 rfl rfl 13 (by decide) (hg _ q_2_49) (fun _ h9 => h9) rfl dX9_lies_114 ?_
            refine lv_iconst (v := 0) hx hb dX9_lies_117 (by decide) ?_
            refine jnI (wr := [(y 0, .inr (9, [.ref (y 1), .int py0_1, .ref (y 2), .ref (y 10), .ref (y 19), .ref (y 25), .ref (y 26), .ref (y 30), .ref (y 31), .ref (y 32), o10, o11, .int py0_12, .int py0_13, .int py0_14])), (y 25, .inr (0, [.int v_29, .int v_30]))]) (rnV (rest := []) ⟨hx, hb, hml, hown, hg⟩ (k_X4_behind_0 l V y u_35 py0_13 0 fy3 fy9 f_36 f_37 f_38 py2_0 py2_1 py2_2 py2_3 py2_4 py2_5 py2_13 py2_14 py2_15 py2_16 py2_17 bu_35 bpy0_13 tf_36 (iv_w b_18 (by decide)) bpy2_2 bpy2_3 bpy2_4 bpy2_5 bpy2_13 bpy2_14 bpy2_15 bpy2_16 bpy2_17) mt_X4_behind q_3_145 ⟨Nat.le_of_ble_eq_true rfl, Nat.le_of_ble_eq_true rfl⟩ hK hP hD hS hA hE [1, 2, 3, 4, 5, 6, 8] rfl rfl 3 rfl rfl rfl rfl hl.1 rfl (Nat.le_of_ble_eq_true rfl) dX9_lies_118 ⟨Nat.le_of_ble_eq_true rfl, Nat.le_of_ble_eq_true rfl⟩) hP hD hS hA [1, 2, 3, 4, 5, 6, 8] [0, 7] rfl rfl rfl (by decide) (fun r_45 w H locs hw hP hD hS => ?_)
            obtain ⟨f_46, f_47, f_48, tf_46, br_45, g_49, rfl⟩ := hw
            have qkn_50 := g_49 D9 hL9 knn_39
            have er_45 : r_45 = bhS D9 u_35 py0_13 (0 : Int32) (py2_1 : Int32).toNatClampNeg := qkn_50.1
            have kn_50 := qkn_50.2
            have hP : va_P V.1 vwCl [(y 0, .inr (9, [.ref (y 1), .int py0_1, .ref (y 2), .ref (y 10), .ref (y 19), .ref (y 25), .ref (y 26), .ref (y 30), .ref (y 31), .ref (y 32), o10, o11, .int py0_12, .int py0_13, .int py0_14])), (y 25, .inr (0, [.int v_29, .int v_30])), (y 3, aI V 4 fy3), (y 9, aI V 900 fy9), (y 19, .inr (4, [.ref (y 2), .ref (y 20), .ref (y 21), .ref (y 22), .ref (y 23), .ref (y 24)])), (y 20, aI V 2000 f_46), (y 21, aI V 6 f_47), (y 22, aI V 64 f_48), (y 2, .inr (1, [.int py2_0, .int py2_1, .int py2_2, .int py2_3, .int py2_4, .int py2_5, .ref (y 3), .ref (y 4), .ref (y 5), .ref (y 6), .ref (y 7), .ref (y 8), .ref (y 9), .int py2_13, .int py2_14, .int py2_15, .int py2_16, .int py2_17]))] H := hP
            have hD : va_D A [(y 0, .inr (9, [.ref (y 1), .int py0_1, .ref (y 2), .ref (y 10), .ref (y 19), .ref (y 25), .ref (y 26), .ref (y 30), .ref (y 31), .ref (y 32), o10, o11, .int py0_12, .int py0_13, .int py0_14])), (y 25, .inr (0, [.int v_29, .int v_30])), (y 3, aI V 4 fy3), (y 9, aI V 900 fy9), (y 19, .inr (4, [.ref (y 2), .ref (y 20), .ref (y 21), .ref (y 22), .ref (y 23), .ref (y 24)])), (y 20, aI V 2000 f_46), (y 21, aI V 6 f_47), (y 22, aI V 64 f_48), (y 2, .inr (1, [.int py2_0, .int py2_1, .int py2_2, .int py2_3, .int py2_4, .int py2_5, .ref (y 3), .ref (y 4), .ref (y 5), .ref (y 6), .ref (y 7), .ref (y 8), .ref (y 9), .int py2_13, .int py2_14, .int py2_15, .int py2_16, .int py2_17]))] := hD
            refine lv_istore (lv' := [(4, .int r_45), (5, .int u_34), (3, .int a2), (0, .ref (y 0)), (1, .int a1), (2, .int a2)]) hx hb dX9_lies_121 hl (by decide) rfl (fun ls hl => ?_)
            obtain ⟨x_51, ex_51⟩ : ∃ z9 : Int32, z9 = u_34 + 1 := ⟨_, rfl⟩
            have bx_51 : iv 1 99999 x_51 := by rw [ex_51]; exact iv_add b_43 (iv_c (1 : Int32) (a := 1) (b := 1) (by decide)) (by decide)
            refine lv_iinc (v := x_51) (lv' := [(5, .int x_51), (4, .int r_45), (3, .int a2), (0, .ref (y 0)), (1, .int a1), (2, .int a2)]) hx hb dX9_lies_123 hl (k := 1) rfl (by rw [ex_51]; rfl) (by decide) rfl (fun ls hl => ?_)
            refine lv_goto (tgt := 101) hx hb dX9_lies_126 (by decide) ?_
            have hP := subP (ws' := [(y 0, .inr (9, [.ref (y 1), .int py0_1, .ref (y 2), .ref (y 10), .ref (y 19), .ref (y 25), .ref (y 26), .ref (y 30), .ref (y 31), .ref (y 32), o10, o11, .int py0_12, .int py0_13, .int py0_14])), (y 3, aI V 4 fy3), (y 9, aI V 900 fy9), (y 19, .inr (4, [.ref (y 2), .ref (y 20), .ref (y 21), .ref (y 22), .ref (y 23), .ref (y 24)])), (y 20, aI V 2000 f_46), (y 21, aI V 6 f_47), (y 22, aI V 64 f_48), (y 25, .inr (0, [.int v_29, .int v_30])), (y 2, .inr (1, [.int py2_0, .int py2_1, .int py2_2, .int py2_3, .int py2_4, .int py2_5, .ref (y 3), .ref (y 4), .ref (y 5), .ref (y 6), .ref (y 7), .ref (y 8), .ref (y 9), .int py2_13, .int py2_14, .int py2_15, .int py2_16, .int py2_17]))]) hP [0, 2, 3, 4, 5, 6, 7, 1, 8] rfl
            have hD := hD.sub (ws' := [(y 0, .inr (9, [.ref (y 1), .int py0_1, .ref (y 2), .ref (y 10), .ref (y 19), .ref (y 25), .ref (y 26), .ref (y 30), .ref (y 31), .ref (y 32), o10, o11, .int py0_12, .int py0_13, .int py0_14])), (y 3, aI V 4 fy3), (y 9, aI V 900 fy9), (y 19, .inr (4, [.ref (y 2), .ref (y 20), .ref (y 21), .ref (y 22), .ref (y 23), .ref (y 24)])), (y 20, aI V 2000 f_46), (y 21, aI V 6 f_47), (y 22, aI V 64 f_48), (y 25, .inr (0, [.int v_29, .int v_30])), (y 2, .inr (1, [.int py2_0, .int py2_1, .int py2_2, .int py2_3, .int py2_4, .int py2_5, .ref (y 3), .ref (y 4), .ref (y 5), .ref (y 6), .ref (y 7), .ref (y 8), .ref (y 9), .int py2_13, .int py2_14, .int py2_15, .int py2_16, .int py2_17]))]) [0, 2, 3, 4, 5, 6, 7, 1, 8] rfl rfl
            exact ihn_39 _ _ _ _ (by rw [en_39, ex_51]; exact mu_up b_43 (by decide)) ⟨x_51, r_45, f_46, f_47, f_48, (iv_w bx_51 (by decide)), br_45, tf_46, kn_50, rfl, hP, hD, hS, lv_sub hl [0, 1, 2, 3, 4, 5] rfl⟩
        · have b_52 : iv (-2147483648) 99998 v_29 := iv_l1 (Int32.not_le.mp c_32) (iv_top v_29) b_25 (by decide)
          refine lv_aload_n hx hb dX9_lies_56 rfl (lv_at hl 1 rfl) ?_
          refine va_get (ci := 9) (v := .ref (y 25)) (C := RX9) (T := TX9) (N := 15) hx hb hg inX9 hown hK hP 0 rfl rfl 5 (by decide) (hg _ q_2_41) (fun _ h9 => h9) rfl dX9_lies_57 ?_
          refine va_get (ci := 0) (v := .int v_30) (C := RX0) (T := TX0) (N := 2) hx hb hg inX0 hown hK hP 7 rfl rfl 1 (by decide) (hg _ q_1_199) (fun _ h9 => h9) rfl dX9_lies_60 ?_
          refine lv_if_le (tgt := 92) hx hb dX9_lies_63 (by decide) (fun c_53 => ?_) (fun c_53 => ?_)
          · have b_54 : iv (-2147483648) 0 v_30 := iv_e1 c_53 (iv_top v_30) (iv_c (0 : Int32) (a := 0) (b := 0) (by decide)) (by decide)
            refine lv_aload_n hx hb dX9_lies_92 rfl (lv_at hl 1 rfl) ?_
            refine va_get (ci := 9) (v := .int py0_12) (C := RX9) (T := TX9) (N := 15) hx hb hg inX9 hown hK hP 0 rfl rfl 12 (by decide) (hg _ q_2_48) (fun _ h9 => h9) rfl dX9_lies_93 ?_
            refine lv_istore (lv' := [(4, .int py0_12), (3, .int a2), (0, .ref (y 0)), (1, .int a1), (2, .int a2)]) hx hb dX9_lies_96 hl (by decide) rfl (fun ls hl => ?_)
            refine lv_iconst (v := 0) hx hb dX9_lies_98 (by decide) ?_
            refine lv_istore (lv' := [(5, .int 0), (4, .int py0_12), (3, .int a2), (0, .ref (y 0)), (1, .int a1), (2, .int a2)]) hx hb dX9_lies_99 hl (by decide) rfl (fun ls hl => ?_)
            refine loopF (X := fun (n_60 : Nat) (H : Heap) (locs : List Loc) (ls : Array Slot) => ∃ (u_55 : Int32) (u_56 : Int32) (f_57 : Nat → Int32) (f_58 : Nat → Int32) (f_59 : Nat → Int32), (iv 0 2147483647 u_55) ∧ (iv 0 9999 u_56) ∧ (∀ j, iv 0 10 (f_57 j)) ∧ KN D9 f_57 ∧ n_60 = (2147483647 - (u_55 : Int32).toInt).toNat ∧ va_P V.1 vwCl [(y 0, .inr (9, [.ref (y 1), .int py0_1, .ref (y 2), .ref (y 10), .ref (y 19), .ref (y 25), .ref (y 26), .ref (y 30), .ref (y 31), .ref (y 32), o10, o11, .int py0_12, .int py0_13, .int py0_14])), (y 3, aI V 4 fy3), (y 9, aI V 900 fy9), (y 19, .inr (4, [.ref (y 2), .ref (y 20), .ref (y 21), .ref (y 22), .ref (y 23), .ref (y 24)])), (y 20, aI V 2000 f_57), (y 21, aI V 6 f_58), (y 22, aI V 64 f_59), (y 25, .inr (0, [.int v_29, .int v_30])), (y 2, .inr (1, [.int py2_0, .int py2_1, .int py2_2, .int py2_3, .int py2_4, .int py2_5, .ref (y 3), .ref (y 4), .ref (y 5), .ref (y 6), .ref (y 7), .ref (y 8), .ref (y 9), .int py2_13, .int py2_14, .int py2_15, .int py2_16, .int py2_17]))] H ∧ va_D A [(y 0, .inr (9, [.ref (y 1), .int py0_1, .ref (y 2), .ref (y 10), .ref (y 19), .ref (y 25), .ref (y 26), .ref (y 30), .ref (y 31), .ref (y 32), o10, o11, .int py0_12, .int py0_13, .int py0_14])), (y 3, aI V 4 fy3), (y 9, aI V 900 fy9), (y 19, .inr (4, [.ref (y 2), .ref (y 20), .ref (y 21), .ref (y 22), .ref (y 23), .ref (y 24)])), (y 20, aI V 2000 f_57), (y 21, aI V 6 f_58), (y 22, aI V 64 f_59), (y 25, .inr (0, [.int v_29, .int v_30])), (y 2, .inr (1, [.int py2_0, .int py2_1, .int py2_2, .int py2_3, .int py2_4, .int py2_5, .ref (y 3), .ref (y 4), .ref (y 5), .ref (y 6), .ref (y 7), .ref (y 8), .ref (y 9), .int py2_13, .int py2_14, .int py2_15, .int py2_16, .int py2_17]))] ∧ va_S A s.heap H locs ∧ lv_has ls 6 [(5, .int u_55), (4, .int u_56), (3, .int a2), (0, .ref (y 0)), (1, .int a1), (2, .int a2)]) (g := fun ls => F0 m 101 ls []) (fun n_60 H locs ls hX ihn_60 => ?_) _ ⟨0, py0_12, f_26, f_27, f_28, (iv_c (0 : Int32) (by decide)), bpy0_12, tf_26, kn_31, rfl, hP, hD, hS, lv_sub hl [0, 1, 2, 3, 4, 5] rfl⟩
            obtain ⟨u_55, u_56, f_57, f_58, f_59, bu_55, bu_56, tf_57, knn_60, en_60, hP, hD, hS, hl⟩ := hX
            refine lv_iload hx hb dX9_lies_101 (lv_at hl 0 rfl) ?_
            refine lv_iload_n hx hb dX9_lies_103 rfl (lv_at hl 2 rfl) ?_
            refine lv_icmp_ge (tgt := 129) hx hb dX9_lies_104 (by decide) (fun c_61 => ?_) (fun c_61 => ?_)
            · refine lv_iload hx hb dX9_lies_129 (lv_at hl 1 rfl) ?_
              refine lv_iload_n hx hb dX9_lies_131 rfl (lv_at hl 4 rfl) ?_
              refine jnI (wr := [(y 0, .inr (9, [.ref (y 1), .int py0_1, .ref (y 2), .ref (y 10), .ref (y 19), .ref (y 25), .ref (y 26), .ref (y 30), .ref (y 31), .ref (y 32), o10, o11, .int py0_12, .int py0_13, .int py0_14])), (y 3, aI V 4 fy3), (y 9, aI V 900 fy9), (y 19, .inr (4, [.ref (y 2), .ref (y 20), .ref (y 21), .ref (y 22), .ref (y 23), .ref (y 24)])), (y 20, aI V 2000 f_57), (y 21, aI V 6 f_58), (y 22, aI V 64 f_59), (y 25, .inr (0, [.int v_29, .int v_30])), (y 2, .inr (1, [.int py2_0, .int py2_1, .int py2_2, .int py2_3, .int py2_4, .int py2_5, .ref (y 3), .ref (y 4), .ref (y 5), .ref (y 6), .ref (y 7), .ref (y 8), .ref (y 9), .int py2_13, .int py2_14, .int py2_15, .int py2_16, .int py2_17]))]) (rnS (rest := []) ⟨hx, hb, hml, hown, hg⟩ (k_X9_stackIn_0 l V u_56 a1 bu_56 (iv_w b_17 (by decide))) mt_X9_stackIn q_3_126 ⟨Nat.le_of_ble_eq_true rfl, Nat.le_of_ble_eq_true rfl⟩ hK hP hD hS hA hE [] rfl rfl rfl hl.1 rfl (Nat.le_of_ble_eq_true rfl) dX9_lies_132 ⟨Nat.le_of_ble_eq_true rfl, Nat.le_of_ble_eq_true rfl⟩) hP hD hS hA [] [0, 1, 2, 3, 4, 5, 6, 7, 8] rfl rfl rfl (by decide) (fun r_62 w H locs hw hP hD hS => ?_)
              obtain ⟨br_62, er_62, et_63, rfl⟩ := hw
              have hP : va_P V.1 vwCl [(y 0, .inr (9, [.ref (y 1), .int py0_1, .ref (y 2), .ref (y 10), .ref (y 19), .ref (y 25), .ref (y 26), .ref (y 30), .ref (y 31), .ref (y 32), o10, o11, .int py0_12, .int py0_13, .int py0_14])), (y 3, aI V 4 fy3), (y 9, aI V 900 fy9), (y 19, .inr (4, [.ref (y 2), .ref (y 20), .ref (y 21), .ref (y 22), .ref (y 23), .ref (y 24)])), (y 20, aI V 2000 f_57), (y 21, aI V 6 f_58), (y 22, aI V 64 f_59), (y 25, .inr (0, [.int v_29, .int v_30])), (y 2, .inr (1, [.int py2_0, .int py2_1, .int py2_2, .int py2_3, .int py2_4, .int py2_5, .ref (y 3), .ref (y 4), .ref (y 5), .ref (y 6), .ref (y 7), .ref (y 8), .ref (y 9), .int py2_13, .int py2_14, .int py2_15, .int py2_16, .int py2_17]))] H := hP
              have hD : va_D A [(y 0, .inr (9, [.ref (y 1), .int py0_1, .ref (y 2), .ref (y 10), .ref (y 19), .ref (y 25), .ref (y 26), .ref (y 30), .ref (y 31), .ref (y 32), o10, o11, .int py0_12, .int py0_13, .int py0_14])), (y 3, aI V 4 fy3), (y 9, aI V 900 fy9), (y 19, .inr (4, [.ref (y 2), .ref (y 20), .ref (y 21), .ref (y 22), .ref (y 23), .ref (y 24)])), (y 20, aI V 2000 f_57), (y 21, aI V 6 f_58), (y 22, aI V 64 f_59), (y 25, .inr (0, [.int v_29, .int v_30])), (y 2, .inr (1, [.int py2_0, .int py2_1, .int py2_2, .int py2_3, .int py2_4, .int py2_5, .ref (y 3), .ref (y 4), .ref (y 5), .ref (y 6), .ref (y 7), .ref (y 8), .ref (y 9), .int py2_13, .int py2_14, .int py2_15, .int py2_16, .int py2_17]))] := hD
              have hP := subP (ws' := [(y 0, .inr (9, [.ref (y 1), .int py0_1, .ref (y 2), .ref (y 10), .ref (y 19), .ref (y 25), .ref (y 26), .ref (y 30), .ref (y 31), .ref (y 32), o10, o11, .int py0_12, .int py0_13, .int py0_14])), (y 2, .inr (1, [.int py2_0, .int py2_1, .int py2_2, .int py2_3, .int py2_4, .int py2_5, .ref (y 3), .ref (y 4), .ref (y 5), .ref (y 6), .ref (y 7), .ref (y 8), .ref (y 9), .int py2_13, .int py2_14, .int py2_15, .int py2_16, .int py2_17])), (y 3, aI V 4 fy3), (y 9, aI V 900 fy9), (y 19, .inr (4, [.ref (y 2), .ref (y 20), .ref (y 21), .ref (y 22), .ref (y 23), .ref (y 24)])), (y 20, aI V 2000 f_57), (y 21, aI V 6 f_58), (y 22, aI V 64 f_59), (y 25, .inr (0, [.int v_29, .int v_30]))]) hP [0, 8, 1, 2, 3, 4, 5, 6, 7] rfl
              have hD := hD.sub (ws' := [(y 0, .inr (9, [.ref (y 1), .int py0_1, .ref (y 2), .ref (y 10), .ref (y 19), .ref (y 25), .ref (y 26), .ref (y 30), .ref (y 31), .ref (y 32), o10, o11, .int py0_12, .int py0_13, .int py0_14])), (y 2, .inr (1, [.int py2_0, .int py2_1, .int py2_2, .int py2_3, .int py2_4, .int py2_5, .ref (y 3), .ref (y 4), .ref (y 5), .ref (y 6), .ref (y 7), .ref (y 8), .ref (y 9), .int py2_13, .int py2_14, .int py2_15, .int py2_16, .int py2_17])), (y 3, aI V 4 fy3), (y 9, aI V 900 fy9), (y 19, .inr (4, [.ref (y 2), .ref (y 20), .ref (y 21), .ref (y 22), .ref (y 23), .ref (y 24)])), (y 20, aI V 2000 f_57), (y 21, aI V 6 f_58), (y 22, aI V 64 f_59), (y 25, .inr (0, [.int v_29, .int v_30]))]) [0, 8, 1, 2, 3, 4, 5, 6, 7] rfl rfl
              exact fiI hx hb hr hlk hK hP hD hS dX9_lies_135 (Nat.le_of_ble_eq_true rfl) (Nat.le_of_ble_eq_true rfl) (⟨f_57, f_58, f_59, v_29, v_30, tf_57, (iv_w br_62 (by decide)), knn_60, rfl⟩)
            · have b_64 : iv 0 99998 u_55 := iv_l1 (Int32.not_le.mp c_61) bu_55 b_25 (by decide)
              have b_65 : iv 1 99999 a2 := iv_l2 (Int32.not_le.mp c_61) bu_55 b_25 (by decide)
              refine lv_aload_n hx hb dX9_lies_107 rfl (lv_at hl 3 rfl) ?_
              refine va_get (ci := 9) (v := .ref (y 19)) (C := RX9) (T := TX9) (N := 15) hx hb hg inX9 hown hK hP 0 rfl rfl 4 (by decide) (hg _ q_2_40) (fun _ h9 => h9) rfl dX9_lies_108 ?_
              refine lv_iload hx hb dX9_lies_111 (lv_at hl 1 rfl) ?_
              refine lv_aload_n hx hb dX9_lies_113 rfl (lv_at hl 3 rfl) ?_
              refine va_get (ci := 9) (v := .int py0_13) (C := RX9) (T := TX9) (N := 15) hx hb hg inX9 hown hK hP 0 rfl rfl 13 (by decide) (hg _ q_2_49) (fun _ h9 => h9) rfl dX9_lies_114 ?_
              refine lv_iconst (v := 0) hx hb dX9_lies_117 (by decide) ?_
              refine jnI (wr := [(y 0, .inr (9, [.ref (y 1), .int py0_1, .ref (y 2), .ref (y 10), .ref (y 19), .ref (y 25), .ref (y 26), .ref (y 30), .ref (y 31), .ref (y 32), o10, o11, .int py0_12, .int py0_13, .int py0_14])), (y 25, .inr (0, [.int v_29, .int v_30]))]) (rnV (rest := []) ⟨hx, hb, hml, hown, hg⟩ (k_X4_behind_0 l V y u_56 py0_13 0 fy3 fy9 f_57 f_58 f_59 py2_0 py2_1 py2_2 py2_3 py2_4 py2_5 py2_13 py2_14 py2_15 py2_16 py2_17 bu_56 bpy0_13 tf_57 (iv_w b_18 (by decide)) bpy2_2 bpy2_3 bpy2_4 bpy2_5 bpy2_13 bpy2_14 bpy2_15 bpy2_16 bpy2_17) mt_X4_behind q_3_145 ⟨Nat.le_of_ble_eq_true rfl, Nat.le_of_ble_eq_true rfl⟩ hK hP hD hS hA hE [1, 2, 3, 4, 5, 6, 8] rfl rfl 3 rfl rfl rfl rfl hl.1 rfl (Nat.le_of_ble_eq_true rfl) dX9_lies_118 ⟨Nat.le_of_ble_eq_true rfl, Nat.le_of_ble_eq_true rfl⟩) hP hD hS hA [1, 2, 3, 4, 5, 6, 8] [0, 7] rfl rfl rfl (by decide) (fun r_66 w H locs hw hP hD hS => ?_)
              obtain ⟨f_67, f_68, f_69, tf_67, br_66, g_70, rfl⟩ := hw
              have qkn_71 := g_70 D9 hL9 knn_60
              have er_66 : r_66 = bhS D9 u_56 py0_13 (0 : Int32) (py2_1 : Int32).toNatClampNeg := qkn_71.1
              have kn_71 := qkn_71.2
              have hP : va_P V.1 vwCl [(y 0, .inr (9, [.ref (y 1), .int py0_1, .ref (y 2), .ref (y 10), .ref (y 19), .ref (y 25), .ref (y 26), .ref (y 30), .ref (y 31), .ref (y 32), o10, o11, .int py0_12, .int py0_13, .int py0_14])), (y 25, .inr (0, [.int v_29, .int v_30])), (y 3, aI V 4 fy3), (y 9, aI V 900 fy9), (y 19, .inr (4, [.ref (y 2), .ref (y 20), .ref (y 21), .ref (y 22), .ref (y 23), .ref (y 24)])), (y 20, aI V 2000 f_67), (y 21, aI V 6 f_68), (y 22, aI V 64 f_69), (y 2, .inr (1, [.int py2_0, .int py2_1, .int py2_2, .int py2_3, .int py2_4, .int py2_5, .ref (y 3), .ref (y 4), .ref (y 5), .ref (y 6), .ref (y 7), .ref (y 8), .ref (y 9), .int py2_13, .int py2_14, .int py2_15, .int py2_16, .int py2_17]))] H := hP
              have hD : va_D A [(y 0, .inr (9, [.ref (y 1), .int py0_1, .ref (y 2), .ref (y 10), .ref (y 19), .ref (y 25), .ref (y 26), .ref (y 30), .ref (y 31), .ref (y 32), o10, o11, .int py0_12, .int py0_13, .int py0_14])), (y 25, .inr (0, [.int v_29, .int v_30])), (y 3, aI V 4 fy3), (y 9, aI V 900 fy9), (y 19, .inr (4, [.ref (y 2), .ref (y 20), .ref (y 21), .ref (y 22), .ref (y 23), .ref (y 24)])), (y 20, aI V 2000 f_67), (y 21, aI V 6 f_68), (y 22, aI V 64 f_69), (y 2, .inr (1, [.int py2_0, .int py2_1, .int py2_2, .int py2_3, .int py2_4, .int py2_5, .ref (y 3), .ref (y 4), .ref (y 5), .ref (y 6), .ref (y 7), .ref (y 8), .ref (y 9), .int py2_13, .int py2_14, .int py2_15, .int py2_16, .int py2_17]))] := hD
              refine lv_istore (lv' := [(4, .int r_66), (5, .int u_55), (3, .int a2), (0, .ref (y 0)), (1, .int a1), (2, .int a2)]) hx hb dX9_lies_121 hl (by decide) rfl (fun ls hl => ?_)
              obtain ⟨x_72, ex_72⟩ : ∃ z9 : Int32, z9 = u_55 + 1 := ⟨_, rfl⟩
              have bx_72 : iv 1 99999 x_72 := by rw [ex_72]; exact iv_add b_64 (iv_c (1 : Int32) (a := 1) (b := 1) (by decide)) (by decide)
              refine lv_iinc (v := x_72) (lv' := [(5, .int x_72), (4, .int r_66), (3, .int a2), (0, .ref (y 0)), (1, .int a1), (2, .int a2)]) hx hb dX9_lies_123 hl (k := 1) rfl (by rw [ex_72]; rfl) (by decide) rfl (fun ls hl => ?_)
              refine lv_goto (tgt := 101) hx hb dX9_lies_126 (by decide) ?_
              have hP := subP (ws' := [(y 0, .inr (9, [.ref (y 1), .int py0_1, .ref (y 2), .ref (y 10), .ref (y 19), .ref (y 25), .ref (y 26), .ref (y 30), .ref (y 31), .ref (y 32), o10, o11, .int py0_12, .int py0_13, .int py0_14])), (y 3, aI V 4 fy3), (y 9, aI V 900 fy9), (y 19, .inr (4, [.ref (y 2), .ref (y 20), .ref (y 21), .ref (y 22), .ref (y 23), .ref (y 24)])), (y 20, aI V 2000 f_67), (y 21, aI V 6 f_68), (y 22, aI V 64 f_69), (y 25, .inr (0, [.int v_29, .int v_30])), (y 2, .inr (1, [.int py2_0, .int py2_1, .int py2_2, .int py2_3, .int py2_4, .int py2_5, .ref (y 3), .ref (y 4), .ref (y 5), .ref (y 6), .ref (y 7), .ref (y 8), .ref (y 9), .int py2_13, .int py2_14, .int py2_15, .int py2_16, .int py2_17]))]) hP [0, 2, 3, 4, 5, 6, 7, 1, 8] rfl
              have hD := hD.sub (ws' := [(y 0, .inr (9, [.ref (y 1), .int py0_1, .ref (y 2), .ref (y 10), .ref (y 19), .ref (y 25), .ref (y 26), .ref (y 30), .ref (y 31), .ref (y 32), o10, o11, .int py0_12, .int py0_13, .int py0_14])), (y 3, aI V 4 fy3), (y 9, aI V 900 fy9), (y 19, .inr (4, [.ref (y 2), .ref (y 20), .ref (y 21), .ref (y 22), .ref (y 23), .ref (y 24)])), (y 20, aI V 2000 f_67), (y 21, aI V 6 f_68), (y 22, aI V 64 f_69), (y 25, .inr (0, [.int v_29, .int v_30])), (y 2, .inr (1, [.int py2_0, .int py2_1, .int py2_2, .int py2_3, .int py2_4, .int py2_5, .ref (y 3), .ref (y 4), .ref (y 5), .ref (y 6), .ref (y 7), .ref (y 8), .ref (y 9), .int py2_13, .int py2_14, .int py2_15, .int py2_16, .int py2_17]))]) [0, 2, 3, 4, 5, 6, 7, 1, 8] rfl rfl
              exact ihn_60 _ _ _ _ (by rw [en_60, ex_72]; exact mu_up b_64 (by decide)) ⟨x_72, r_66, f_67, f_68, f_69, (iv_w bx_72 (by decide)), br_66, tf_67, kn_71, rfl, hP, hD, hS, lv_sub hl [0, 1, 2, 3, 4, 5] rfl⟩
          · have b_73 : iv 1 2147483647 v_30 := iv_l2 (Int32.not_le.mp c_53) (iv_c (0 : Int32) (a := 0) (b := 0) (by decide)) (iv_top v_30) (by decide)
            refine lv_aload_n hx hb dX9_lies_66 rfl (lv_at hl 1 rfl) ?_
            refine va_get (ci := 9) (v := .ref (y 25)) (C := RX9) (T := TX9) (N := 15) hx hb hg inX9 hown hK hP 0 rfl rfl 5 (by decide) (hg _ q_2_41) (fun _ h9 => h9) rfl dX9_lies_67 ?_
            refine va_get (ci := 0) (v := .int v_29) (C := RX0) (T := TX0) (N := 2) hx hb hg inX0 hown hK hP 7 rfl rfl 0 (by decide) (hg _ q_1_197) (fun _ h9 => h9) rfl dX9_lies_70 ?_
            refine lv_iload_n hx hb dX9_lies_73 rfl (lv_at hl 3 rfl) ?_
            refine lv_aload_n hx hb dX9_lies_74 rfl (lv_at hl 1 rfl) ?_
            refine va_get (ci := 9) (v := .ref (y 25)) (C := RX9) (T := TX9) (N := 15) hx hb hg inX9 hown hK hP 0 rfl rfl 5 (by decide) (hg _ q_2_41) (fun _ h9 => h9) rfl dX9_lies_75 ?_
            refine va_get (ci := 0) (v := .int v_29) (C := RX0) (T := TX0) (N := 2) hx hb hg inX0 hown hK hP 7 rfl rfl 0 (by decide) (hg _ q_1_197) (fun _ h9 => h9) rfl dX9_lies_78 ?_
            refine lv_isub hx hb dX9_lies_81 ?_
            refine lv_topi (fun x_74 ex_74 => ?_)
            refine lv_aload_n hx hb dX9_lies_82 rfl (lv_at hl 1 rfl) ?_
            refine va_get (ci := 9) (v := .ref (y 25)) (C := RX9) (T := TX9) (N := 15) hx hb hg inX9 hown hK hP 0 rfl rfl 5 (by decide) (hg _ q_2_41) (fun _ h9 => h9) rfl dX9_lies_83 ?_
            refine va_get (ci := 0) (v := .int v_30) (C := RX0) (T := TX0) (N := 2) hx hb hg inX0 hown hK hP 7 rfl rfl 1 (by decide) (hg _ q_1_199) (fun _ h9 => h9) rfl dX9_lies_86 ?_
            refine lv_irem hx hb dX9_lies_89 (iv_nz b_73 (by decide)) ?_
            refine lv_topi (fun x_75 ex_75 => ?_)
            refine lv_iadd hx hb dX9_lies_90 ?_
            refine lv_topi (fun x_76 ex_76 => ?_)
            refine lv_istore_n (lv' := [(3, .int x_76), (0, .ref (y 0)), (1, .int a1), (2, .int a2)]) hx hb dX9_lies_91 rfl hl (by decide) rfl (fun ls hl => ?_)
            refine lv_aload_n hx hb dX9_lies_92 rfl (lv_at hl 1 rfl) ?_
            refine va_get (ci := 9) (v := .int py0_12) (C := RX9) (T := TX9) (N := 15) hx hb hg inX9 hown hK hP 0 rfl rfl 12 (by decide) (hg _ q_2_48) (fun _ h9 => h9) rfl dX9_lies_93 ?_
            refine lv_istore (lv' := [(4, .int py0_12), (3, .int x_76), (0, .ref (y 0)), (1, .int a1), (2, .int a2)]) hx hb dX9_lies_96 hl (by decide) rfl (fun ls hl => ?_)
            refine lv_iconst (v := 0) hx hb dX9_lies_98 (by decide) ?_
            refine lv_istore (lv' := [(5, .int 0), (4, .int py0_12), (3, .int x_76), (0, .ref (y 0)), (1, .int a1), (2, .int a2)]) hx hb dX9_lies_99 hl (by decide) rfl (fun ls hl => ?_)
            refine loopF (X := fun (n_82 : Nat) (H : Heap) (locs : List Loc) (ls : Array Slot) => ∃ (u_77 : Int32) (u_78 : Int32) (f_79 : Nat → Int32) (f_80 : Nat → Int32) (f_81 : Nat → Int32), (iv 0 2147483647 u_77) ∧ (iv 0 9999 u_78) ∧ (∀ j, iv 0 10 (f_79 j)) ∧ KN D9 f_79 ∧ n_82 = (2147483647 - (u_77 : Int32).toInt).toNat ∧ va_P V.1 vwCl [(y 0, .inr (9, [.ref (y 1), .int py0_1, .ref (y 2), .ref (y 10), .ref (y 19), .ref (y 25), .ref (y 26), .ref (y 30), .ref (y 31), .ref (y 32), o10, o11, .int py0_12, .int py0_13, .int py0_14])), (y 3, aI V 4 fy3), (y 9, aI V 900 fy9), (y 19, .inr (4, [.ref (y 2), .ref (y 20), .ref (y 21), .ref (y 22), .ref (y 23), .ref (y 24)])), (y 20, aI V 2000 f_79), (y 21, aI V 6 f_80), (y 22, aI V 64 f_81), (y 25, .inr (0, [.int v_29, .int v_30])), (y 2, .inr (1, [.int py2_0, .int py2_1, .int py2_2, .int py2_3, .int py2_4, .int py2_5, .ref (y 3), .ref (y 4), .ref (y 5), .ref (y 6), .ref (y 7), .ref (y 8), .ref (y 9), .int py2_13, .int py2_14, .int py2_15, .int py2_16, .int py2_17]))] H ∧ va_D A [(y 0, .inr (9, [.ref (y 1), .int py0_1, .ref (y 2), .ref (y 10), .ref (y 19), .ref (y 25), .ref (y 26), .ref (y 30), .ref (y 31), .ref (y 32), o10, o11, .int py0_12, .int py0_13, .int py0_14])), (y 3, aI V 4 fy3), (y 9, aI V 900 fy9), (y 19, .inr (4, [.ref (y 2), .ref (y 20), .ref (y 21), .ref (y 22), .ref (y 23), .ref (y 24)])), (y 20, aI V 2000 f_79), (y 21, aI V 6 f_80), (y 22, aI V 64 f_81), (y 25, .inr (0, [.int v_29, .int v_30])), (y 2, .inr (1, [.int py2_0, .int py2_1, .int py2_2, .int py2_3, .int py2_4, .int py2_5, .ref (y 3), .ref (y 4), .ref (y 5), .ref (y 6), .ref (y 7), .ref (y 8), .ref (y 9), .int py2_13, .int py2_14, .int py2_15, .int py2_16, .int py2_17]))] ∧ va_S A s.heap H locs ∧ lv_has ls 6 [(5, .int u_77), (4, .int u_78), (3, .int x_76), (0, .ref (y 0)), (1, .int a1), (2, .int a2)]) (g := fun ls => F0 m 101 ls []) (fun n_82 H locs ls hX ihn_82 => ?_) _ ⟨0, py0_12, f_26, f_27, f_28, (iv_c (0 : Int32) (by decide)), bpy0_12, tf_26, kn_31, rfl, hP, hD, hS, lv_sub hl [0, 1, 2, 3, 4, 5] rfl⟩
            obtain ⟨u_77, u_78, f_79, f_80, f_81, bu_77, bu_78, tf_79, knn_82, en_82, hP, hD, hS, hl⟩ := hX
            refine lv_iload hx hb dX9_lies_101 (lv_at hl 0 rfl) ?_
            refine lv_iload_n hx hb dX9_lies_103 rfl (lv_at hl 2 rfl) ?_
            refine lv_icmp_ge (tgt := 129) hx hb dX9_lies_104 (by decide) (fun c_83 => ?_) (fun c_83 => ?_)
            · refine lv_iload hx hb dX9_lies_129 (lv_at hl 1 rfl) ?_
              refine lv_iload_n hx hb dX9_lies_131 rfl (lv_at hl 4 rfl) ?_
              refine jnI (wr := [(y 0, .inr (9, [.ref (y 1), .int py0_1, .ref (y 2), .ref (y 10), .ref (y 19), .ref (y 25), .ref (y 26), .ref (y 30), .ref (y 31), .ref (y 32), o10, o11, .int py0_12, .int py0_13, .int py0_14])), (y 3, aI V 4 fy3), (y 9, aI V 900 fy9), (y 19, .inr (4, [.ref (y 2), .ref (y 20), .ref (y 21), .ref (y 22), .ref (y 23), .ref (y 24)])), (y 20, aI V 2000 f_79), (y 21, aI V 6 f_80), (y 22, aI V 64 f_81), (y 25, .inr (0, [.int v_29, .int v_30])), (y 2, .inr (1, [.int py2_0, .int py2_1, .int py2_2, .int py2_3, .int py2_4, .int py2_5, .ref (y 3), .ref (y 4), .ref (y 5), .ref (y 6), .ref (y 7), .ref (y 8), .ref (y 9), .int py2_13, .int py2_14, .int py2_15, .int py2_16, .int py2_17]))]) (rnS (rest := []) ⟨hx, hb, hml, hown, hg⟩ (k_X9_stackIn_0 l V u_78 a1 bu_78 (iv_w b_17 (by decide))) mt_X9_stackIn q_3_126 ⟨Nat.le_of_ble_eq_true rfl, Nat.le_of_ble_eq_true rfl⟩ hK hP hD hS hA hE [] rfl rfl rfl hl.1 rfl (Nat.le_of_ble_eq_true rfl) dX9_lies_132 ⟨Nat.le_of_ble_eq_true rfl, Nat.le_of_ble_eq_true rfl⟩) hP hD hS hA [] [0, 1, 2, 3, 4, 5, 6, 7, 8] rfl rfl rfl (by decide) (fun r_84 w H locs hw hP hD hS => ?_)
              obtain ⟨br_84, er_84, et_85, rfl⟩ := hw
              have hP : va_P V.1 vwCl [(y 0, .inr (9, [.ref (y 1), .int py0_1, .ref (y 2), .ref (y 10), .ref (y 19), .ref (y 25), .ref (y 26), .ref (y 30), .ref (y 31), .ref (y 32), o10, o11, .int py0_12, .int py0_13, .int py0_14])), (y 3, aI V 4 fy3), (y 9, aI V 900 fy9), (y 19, .inr (4, [.ref (y 2), .ref (y 20), .ref (y 21), .ref (y 22), .ref (y 23), .ref (y 24)])), (y 20, aI V 2000 f_79), (y 21, aI V 6 f_80), (y 22, aI V 64 f_81), (y 25, .inr (0, [.int v_29, .int v_30])), (y 2, .inr (1, [.int py2_0, .int py2_1, .int py2_2, .int py2_3, .int py2_4, .int py2_5, .ref (y 3), .ref (y 4), .ref (y 5), .ref (y 6), .ref (y 7), .ref (y 8), .ref (y 9), .int py2_13, .int py2_14, .int py2_15, .int py2_16, .int py2_17]))] H := hP
              have hD : va_D A [(y 0, .inr (9, [.ref (y 1), .int py0_1, .ref (y 2), .ref (y 10), .ref (y 19), .ref (y 25), .ref (y 26), .ref (y 30), .ref (y 31), .ref (y 32), o10, o11, .int py0_12, .int py0_13, .int py0_14])), (y 3, aI V 4 fy3), (y 9, aI V 900 fy9), (y 19, .inr (4, [.ref (y 2), .ref (y 20), .ref (y 21), .ref (y 22), .ref (y 23), .ref (y 24)])), (y 20, aI V 2000 f_79), (y 21, aI V 6 f_80), (y 22, aI V 64 f_81), (y 25, .inr (0, [.int v_29, .int v_30])), (y 2, .inr (1, [.int py2_0, .int py2_1, .int py2_2, .int py2_3, .int py2_4, .int py2_5, .ref (y 3), .ref (y 4), .ref (y 5), .ref (y 6), .ref (y 7), .ref (y 8), .ref (y 9), .int py2_13, .int py2_14, .int py2_15, .int py2_16, .int py2_17]))] := hD
              have hP := subP (ws' := [(y 0, .inr (9, [.ref (y 1), .int py0_1, .ref (y 2), .ref (y 10), .ref (y 19), .ref (y 25), .ref (y 26), .ref (y 30), .ref (y 31), .ref (y 32), o10, o11, .int py0_12, .int py0_13, .int py0_14])), (y 2, .inr (1, [.int py2_0, .int py2_1, .int py2_2, .int py2_3, .int py2_4, .int py2_5, .ref (y 3), .ref (y 4), .ref (y 5), .ref (y 6), .ref (y 7), .ref (y 8), .ref (y 9), .int py2_13, .int py2_14, .int py2_15, .int py2_16, .int py2_17])), (y 3, aI V 4 fy3), (y 9, aI V 900 fy9), (y 19, .inr (4, [.ref (y 2), .ref (y 20), .ref (y 21), .ref (y 22), .ref (y 23), .ref (y 24)])), (y 20, aI V 2000 f_79), (y 21, aI V 6 f_80), (y 22, aI V 64 f_81), (y 25, .inr (0, [.int v_29, .int v_30]))]) hP [0, 8, 1, 2, 3, 4, 5, 6, 7] rfl
              have hD := hD.sub (ws' := [(y 0, .inr (9, [.ref (y 1), .int py0_1, .ref (y 2), .ref (y 10), .ref (y 19), .ref (y 25), .ref (y 26), .ref (y 30), .ref (y 31), .ref (y 32), o10, o11, .int py0_12, .int py0_13, .int py0_14])), (y 2, .inr (1, [.int py2_0, .int py2_1, .int py2_2, .int py2_3, .int py2_4, .int py2_5, .ref (y 3), .ref (y 4), .ref (y 5), .ref (y 6), .ref (y 7), .ref (y 8), .ref (y 9), .int py2_13, .int py2_14, .int py2_15, .int py2_16, .int py2_17])), (y 3, aI V 4 fy3), (y 9, aI V 900 fy9), (y 19, .inr (4, [.ref (y 2), .ref (y 20), .ref (y 21), .ref (y 22), .ref (y 23), .ref (y 24)])), (y 20, aI V 2000 f_79), (y 21, aI V 6 f_80), (y 22, aI V 64 f_81), (y 25, .inr (0, [.int v_29, .int v_30]))]) [0, 8, 1, 2, 3, 4, 5, 6, 7] rfl rfl
              exact fiI hx hb hr hlk hK hP hD hS dX9_lies_135 (Nat.le_of_ble_eq_true rfl) (Nat.le_of_ble_eq_true rfl) (⟨f_79, f_80, f_81, v_29, v_30, tf_79, (iv_w br_84 (by decide)), knn_82, rfl⟩)
            · have b_86 : iv 0 2147483646 u_77 := iv_l1 (Int32.not_le.mp c_83) bu_77 (iv_top x_76) (by decide)
              have b_87 : iv 1 2147483647 x_76 := iv_l2 (Int32.not_le.mp c_83) bu_77 (iv_top x_76) (by decide)
              refine lv_aload_n hx hb dX9_lies_107 rfl (lv_at hl 3 rfl) ?_
              refine va_get (ci := 9) (v := .ref (y 19)) (C := RX9) (T := TX9) (N := 15) hx hb hg inX9 hown hK hP 0 rfl rfl 4 (by decide) (hg _ q_2_40) (fun _ h9 => h9) rfl dX9_lies_108 ?_
              refine lv_iload hx hb dX9_lies_111 (lv_at hl 1 rfl) ?_
              refine lv_aload_n hx hb dX9_lies_113 rfl (lv_at hl 3 rfl) ?_
              refine va_get (ci := 9) (v := .int py0_13) (C := RX9) (T := TX9) (N := 15) hx hb hg inX9 hown hK hP 0 rfl rfl 13 (by decide) (hg _ q_2_49) (fun _ h9 => h9) rfl dX9_lies_114 ?_
              refine lv_iconst (v := 0) hx hb dX9_lies_117 (by decide) ?_
              refine jnI (wr := [(y 0, .inr (9, [.ref (y 1), .int py0_1, .ref (y 2), .ref (y 10), .ref (y 19), .ref (y 25), .ref (y 26), .ref (y 30), .ref (y 31), .ref (y 32), o10, o11, .int py0_12, .int py0_13, .int py0_14])), (y 25, .inr (0, [.int v_29, .int v_30]))]) (rnV (rest := []) ⟨hx, hb, hml, hown, hg⟩ (k_X4_behind_0 l V y u_78 py0_13 0 fy3 fy9 f_79 f_80 f_81 py2_0 py2_1 py2_2 py2_3 py2_4 py2_5 py2_13 py2_14 py2_15 py2_16 py2_17 bu_78 bpy0_13 tf_79 (iv_w b_18 (by decide)) bpy2_2 bpy2_3 bpy2_4 bpy2_5 bpy2_13 bpy2_14 bpy2_15 bpy2_16 bpy2_17) mt_X4_behind q_3_145 ⟨Nat.le_of_ble_eq_true rfl, Nat.le_of_ble_eq_true rfl⟩ hK hP hD hS hA hE [1, 2, 3, 4, 5, 6, 8] rfl rfl 3 rfl rfl rfl rfl hl.1 rfl (Nat.le_of_ble_eq_true rfl) dX9_lies_118 ⟨Nat.le_of_ble_eq_true rfl, Nat.le_of_ble_eq_true rfl⟩) hP hD hS hA [1, 2, 3, 4, 5, 6, 8] [0, 7] rfl rfl rfl (by decide) (fun r_88 w H locs hw hP hD hS => ?_)
              obtain ⟨f_89, f_90, f_91, tf_89, br_88, g_92, rfl⟩ := hw
              have qkn_93 := g_92 D9 hL9 knn_82
              have er_88 : r_88 = bhS D9 u_78 py0_13 (0 : Int32) (py2_1 : Int32).toNatClampNeg := qkn_93.1
              have kn_93 := qkn_93.2
              have hP : va_P V.1 vwCl [(y 0, .inr (9, [.ref (y 1), .int py0_1, .ref (y 2), .ref (y 10), .ref (y 19), .ref (y 25), .ref (y 26), .ref (y 30), .ref (y 31), .ref (y 32), o10, o11, .int py0_12, .int py0_13, .int py0_14])), (y 25, .inr (0, [.int v_29, .int v_30])), (y 3, aI V 4 fy3), (y 9, aI V 900 fy9), (y 19, .inr (4, [.ref (y 2), .ref (y 20), .ref (y 21), .ref (y 22), .ref (y 23), .ref (y 24)])), (y 20, aI V 2000 f_89), (y 21, aI V 6 f_90), (y 22, aI V 64 f_91), (y 2, .inr (1, [.int py2_0, .int py2_1, .int py2_2, .int py2_3, .int py2_4, .int py2_5, .ref (y 3), .ref (y 4), .ref (y 5), .ref (y 6), .ref (y 7), .ref (y 8), .ref (y 9), .int py2_13, .int py2_14, .int py2_15, .int py2_16, .int py2_17]))] H := hP
              have hD : va_D A [(y 0, .inr (9, [.ref (y 1), .int py0_1, .ref (y 2), .ref (y 10), .ref (y 19), .ref (y 25), .ref (y 26), .ref (y 30), .ref (y 31), .ref (y 32), o10, o11, .int py0_12, .int py0_13, .int py0_14])), (y 25, .inr (0, [.int v_29, .int v_30])), (y 3, aI V 4 fy3), (y 9, aI V 900 fy9), (y 19, .inr (4, [.ref (y 2), .ref (y 20), .ref (y 21), .ref (y 22), .ref (y 23), .ref (y 24)])), (y 20, aI V 2000 f_89), (y 21, aI V 6 f_90), (y 22, aI V 64 f_91), (y 2, .inr (1, [.int py2_0, .int py2_1, .int py2_2, .int py2_3, .int py2_4, .int py2_5, .ref (y 3), .ref (y 4), .ref (y 5), .ref (y 6), .ref (y 7), .ref (y 8), .ref (y 9), .int py2_13, .int py2_14, .int py2_15, .int py2_16, .int py2_17]))] := hD
              refine lv_istore (lv' := [(4, .int r_88), (5, .int u_77), (3, .int x_76), (0, .ref (y 0)), (1, .int a1), (2, .int a2)]) hx hb dX9_lies_121 hl (by decide) rfl (fun ls hl => ?_)
              obtain ⟨x_94, ex_94⟩ : ∃ z9 : Int32, z9 = u_77 + 1 := ⟨_, rfl⟩
              have bx_94 : iv 1 2147483647 x_94 := by rw [ex_94]; exact iv_add b_86 (iv_c (1 : Int32) (a := 1) (b := 1) (by decide)) (by decide)
              refine lv_iinc (v := x_94) (lv' := [(5, .int x_94), (4, .int r_88), (3, .int x_76), (0, .ref (y 0)), (1, .int a1), (2, .int a2)]) hx hb dX9_lies_123 hl (k := 1) rfl (by rw [ex_94]; rfl) (by decide) rfl (fun ls hl => ?_)
              refine lv_goto (tgt := 101) hx hb dX9_lies_126 (by decide) ?_
              have hP := subP (ws' := [(y 0, .inr (9, [.ref (y 1), .int py0_1, .ref (y 2), .ref (y 10), .ref (y 19), .ref (y 25), .ref (y 26), .ref (y 30), .ref (y 31), .ref (y 32), o10, o11, .int py0_12, .int py0_13, .int py0_14])), (y 3, aI V 4 fy3), (y 9, aI V 900 fy9), (y 19, .inr (4, [.ref (y 2), .ref (y 20), .ref (y 21), .ref (y 22), .ref (y 23), .ref (y 24)])), (y 20, aI V 2000 f_89), (y 21, aI V 6 f_90), (y 22, aI V 64 f_91), (y 25, .inr (0, [.int v_29, .int v_30])), (y 2, .inr (1, [.int py2_0, .int py2_1, .int py2_2, .int py2_3, .int py2_4, .int py2_5, .ref (y 3), .ref (y 4), .ref (y 5), .ref (y 6), .ref (y 7), .ref (y 8), .ref (y 9), .int py2_13, .int py2_14, .int py2_15, .int py2_16, .int py2_17]))]) hP [0, 2, 3, 4, 5, 6, 7, 1, 8] rfl
              have hD := hD.sub (ws' := [(y 0, .inr (9, [.ref (y 1), .int py0_1, .ref (y 2), .ref (y 10), .ref (y 19), .ref (y 25), .ref (y 26), .ref (y 30), .ref (y 31), .ref (y 32), o10, o11, .int py0_12, .int py0_13, .int py0_14])), (y 3, aI V 4 fy3), (y 9, aI V 900 fy9), (y 19, .inr (4, [.ref (y 2), .ref (y 20), .ref (y 21), .ref (y 22), .ref (y 23), .ref (y 24)])), (y 20, aI V 2000 f_89), (y 21, aI V 6 f_90), (y 22, aI V 64 f_91), (y 25, .inr (0, [.int v_29, .int v_30])), (y 2, .inr (1, [.int py2_0, .int py2_1, .int py2_2, .int py2_3, .int py2_4, .int py2_5, .ref (y 3), .ref (y 4), .ref (y 5), .ref (y 6), .ref (y 7), .ref (y 8), .ref (y 9), .int py2_13, .int py2_14, .int py2_15, .int py2_16, .int py2_17]))]) [0, 2, 3, 4, 5, 6, 7, 1, 8] rfl rfl
              exact ihn_82 _ _ _ _ (by rw [en_82, ex_94]; exact mu_up b_86 (by decide)) ⟨x_94, r_88, f_89, f_90, f_91, (iv_w bx_94 (by decide)), br_88, tf_89, kn_93, rfl, hP, hD, hS, lv_sub hl [0, 1, 2, 3, 4, 5] rfl⟩
      · have b_95 : iv 100000 2147483647 a2 := iv_l2 (Int32.not_le.mp c_24) (iv_c (99999 : Int32) (a := 99999) (b := 99999) (by decide)) b_23 (by decide)
        refine lv_bipush (v := (-3)) hx hb dX9_lies_21 (by decide) ?_
        have hP := subP (ws' := [(y 0, .inr (9, [.ref (y 1), .int py0_1, .ref (y 2), .ref (y 10), .ref (y 19), .ref (y 25), .ref (y 26), .ref (y 30), .ref (y 31), .ref (y 32), o10, o11, .int py0_12, .int py0_13, .int py0_14])), (y 2, .inr (1, [.int py2_0, .int py2_1, .int py2_2, .int py2_3, .int py2_4, .int py2_5, .ref (y 3), .ref (y 4), .ref (y 5), .ref (y 6), .ref (y 7), .ref (y 8), .ref (y 9), .int py2_13, .int py2_14, .int py2_15, .int py2_16, .int py2_17])), (y 3, aI V 4 fy3), (y 9, aI V 900 fy9), (y 19, .inr (4, [.ref (y 2), .ref (y 20), .ref (y 21), .ref (y 22), .ref (y 23), .ref (y 24)])), (y 20, aI V 2000 fy20), (y 21, aI V 6 fy21), (y 22, aI V 64 fy22), (y 25, .inr (0, [.int py25_0, .int py25_1]))]) hP [7, 8, 0, 1, 2, 3, 4, 5, 6] rfl
        have hD := hD.sub (ws' := [(y 0, .inr (9, [.ref (y 1), .int py0_1, .ref (y 2), .ref (y 10), .ref (y 19), .ref (y 25), .ref (y 26), .ref (y 30), .ref (y 31), .ref (y 32), o10, o11, .int py0_12, .int py0_13, .int py0_14])), (y 2, .inr (1, [.int py2_0, .int py2_1, .int py2_2, .int py2_3, .int py2_4, .int py2_5, .ref (y 3), .ref (y 4), .ref (y 5), .ref (y 6), .ref (y 7), .ref (y 8), .ref (y 9), .int py2_13, .int py2_14, .int py2_15, .int py2_16, .int py2_17])), (y 3, aI V 4 fy3), (y 9, aI V 900 fy9), (y 19, .inr (4, [.ref (y 2), .ref (y 20), .ref (y 21), .ref (y 22), .ref (y 23), .ref (y 24)])), (y 20, aI V 2000 fy20), (y 21, aI V 6 fy21), (y 22, aI V 64 fy22), (y 25, .inr (0, [.int py25_0, .int py25_1]))]) [7, 8, 0, 1, 2, 3, 4, 5, 6] rfl rfl
        exact fiI hx hb hr hlk hK hP hD hS dX9_lies_23 (Nat.le_of_ble_eq_true rfl) (Nat.le_of_ble_eq_true rfl) (⟨fy20, fy21, fy22, py25_0, py25_1, tfy20, (iv_c ((-3) : Int32) (by decide)), hK9, rfl⟩)
theorem dX9_round_0 : decode cX9_round 0 = .ok (.iload_n 1, 1) := by decide +kernel
theorem dX9_round_1 : decode cX9_round 1 = .ok (.ifCond .eq 11, 3) := by decide +kernel
theorem dX9_round_12 : decode cX9_round 12 = .ok (.aload_n 0, 1) := by decide +kernel
theorem dX9_round_13 : decode cX9_round 13 = .ok (.getfield 41, 3) := by decide +kernel
theorem dX9_round_16 : decode cX9_round 16 = .ok (.aload_n 0, 1) := by decide +kernel
theorem dX9_round_17 : decode cX9_round 17 = .ok (.getfield 34, 3) := by decide +kernel
theorem dX9_round_20 : decode cX9_round 20 = .ok (.aload_n 0, 1) := by decide +kernel
theorem dX9_round_21 : decode cX9_round 21 = .ok (.getfield 113, 3) := by decide +kernel
theorem dX9_round_24 : decode cX9_round 24 = .ok (.aload_n 0, 1) := by decide +kernel
theorem dX9_round_25 : decode cX9_round 25 = .ok (.getfield 116, 3) := by decide +kernel
theorem dX9_round_28 : decode cX9_round 28 = .ok (.invokevirtual 227, 3) := by decide +kernel
theorem dX9_round_31 : decode cX9_round 31 = .ok (.iload_n 1, 1) := by decide +kernel
theorem dX9_round_32 : decode cX9_round 32 = .ok (.ifCond .ne 13, 3) := by decide +kernel
theorem dX9_round_35 : decode cX9_round 35 = .ok (.aload_n 0, 1) := by decide +kernel
theorem dX9_round_36 : decode cX9_round 36 = .ok (.getfield 41, 3) := by decide +kernel
theorem dX9_round_39 : decode cX9_round 39 = .ok (.getfield 231, 3) := by decide +kernel
theorem dX9_round_42 : decode cX9_round 42 = .ok (.goto 10, 3) := by decide +kernel
theorem dX9_round_52 : decode cX9_round 52 = .ok (.ireturn, 1) := by decide +kernel
theorem dX9_round_4 : decode cX9_round 4 = .ok (.iload_n 1, 1) := by decide +kernel
theorem dX9_round_5 : decode cX9_round 5 = .ok (.iconst 1, 1) := by decide +kernel
theorem dX9_round_6 : decode cX9_round 6 = .ok (.if_icmp .eq 6, 3) := by decide +kernel
theorem dX9_round_45 : decode cX9_round 45 = .ok (.aload_n 0, 1) := by decide +kernel
theorem dX9_round_46 : decode cX9_round 46 = .ok (.getfield 41, 3) := by decide +kernel
theorem dX9_round_49 : decode cX9_round 49 = .ok (.getfield 234, 3) := by decide +kernel
theorem dX9_round_9 : decode cX9_round 9 = .ok (.bipush (-2), 2) := by decide +kernel
theorem dX9_round_11 : decode cX9_round 11 = .ok (.ireturn, 1) := by decide +kernel
set_option maxHeartbeats 4000000 in
set_option maxRecDepth 100000 in
theorem k_X9_round_0 (l : Launch) (V : GV) (y : Nat → Nat) (D9 : Nat → Int32) (a1 : Int32) (py0_1 : Int32) (o10 : Value) (o11 : Value) (py0_12 : Int32) (py0_13 : Int32) (py0_14 : Int32) (py2_0 : Int32) (py2_1 : Int32) (py2_2 : Int32) (py2_3 : Int32) (py2_4 : Int32) (py2_5 : Int32) (py2_13 : Int32) (py2_14 : Int32) (py2_15 : Int32) (py2_16 : Int32) (py2_17 : Int32) (fy3 : Nat → Int32) (fy9 : Nat → Int32) (fy20 : Nat → Int32) (fy21 : Nat → Int32) (fy22 : Nat → Int32) (py25_0 : Int32) (py25_1 : Int32) (bpy0_1 : iv 0 900 py0_1) (bpy0_12 : iv 0 9999 py0_12) (bpy0_13 : iv 0 9 py0_13) (bpy2_1 : iv 0 4 py2_1) (bpy2_2 : iv 0 4 py2_2) (bpy2_3 : iv 0 8 py2_3) (bpy2_4 : iv 0 9999 py2_4) (bpy2_5 : iv 0 9 py2_5) (bpy2_13 : iv 0 900 py2_13) (bpy2_14 : iv 0 900 py2_14) (bpy2_15 : iv 0 900 py2_15) (bpy2_16 : iv 0 900 py2_16) (bpy2_17 : iv 0 900 py2_17) (tfy20 : ∀ j, iv 0 10 (fy20 j)) (hL9 : LW D9 fy3 fy9 py2_14 py2_15 py2_16 py2_17) (hK9 : KN D9 fy20) : Ct l V yX9_round (.code yX9_round cX9_round 2 (some .int)) 7 [.ref (y 0), .int a1] [(y 0, .inr (9, [.ref (y 1), .int py0_1, .ref (y 2), .ref (y 10), .ref (y 19), .ref (y 25), .ref (y 26), .ref (y 30), .ref (y 31), .ref (y 32), o10, o11, .int py0_12, .int py0_13, .int py0_14])), (y 2, .inr (1, [.int py2_0, .int py2_1, .int py2_2, .int py2_3, .int py2_4, .int py2_5, .ref (y 3), .ref (y 4), .ref (y 5), .ref (y 6), .ref (y 7), .ref (y 8), .ref (y 9), .int py2_13, .int py2_14, .int py2_15, .int py2_16, .int py2_17])), (y 3, aI V 4 fy3), (y 9, aI V 900 fy9), (y 19, .inr (4, [.ref (y 2), .ref (y 20), .ref (y 21), .ref (y 22), .ref (y 23), .ref (y 24)])), (y 20, aI V 2000 fy20), (y 21, aI V 6 fy21), (y 22, aI V 64 fy22), (y 25, .inr (0, [.int py25_0, .int py25_1]))] 0 0 (QI V (fun (r : Int32) (w : va_W) => ∃ (g0 : Nat → Int32) (g1 : Nat → Int32) (g2 : Nat → Int32) (v3 : Int32) (v4 : Int32), (∀ j, iv 0 10 (g0 j)) ∧ KN D9 g0 ∧ w = [(y 0, .inr (9, [.ref (y 1), .int py0_1, .ref (y 2), .ref (y 10), .ref (y 19), .ref (y 25), .ref (y 26), .ref (y 30), .ref (y 31), .ref (y 32), o10, o11, .int py0_12, .int py0_13, .int py0_14])), (y 2, .inr (1, [.int py2_0, .int py2_1, .int py2_2, .int py2_3, .int py2_4, .int py2_5, .ref (y 3), .ref (y 4), .ref (y 5), .ref (y 6), .ref (y 7), .ref (y 8), .ref (y 9), .int py2_13, .int py2_14, .int py2_15, .int py2_16, .int py2_17])), (y 3, aI V 4 fy3), (y 9, aI V 900 fy9), (y 19, .inr (4, [.ref (y 2), .ref (y 20), .ref (y 21), .ref (y 22), .ref (y 23), .ref (y 24)])), (y 20, aI V 2000 g0), (y 21, aI V 6 g1), (y 22, aI V 64 g2), (y 25, .inr (0, [.int v3, .int v4]))])) := by
  refine Ct.of (by decide) (Nat.le_of_ble_eq_true rfl) (fun p e s m below meth c A ls hx hb hr hml hown hlk hnm hg hP hK hD hE hA hS hl => ?_)
  have hl : lv_has ls 2 [(0, .ref (y 0)), (1, .int a1)] := hl
  refine lv_iload_n hx hb dX9_round_0 rfl (lv_at hl 1 rfl) ?_
  refine lv_if_eq (tgt := 12) hx hb dX9_round_1 (by decide) (fun c_1 => ?_) (fun c_1 => ?_)
  · have b_2 : iv 0 0 a1 := iv_q c_1 (iv_c (0 : Int32) (a := 0) (b := 0) (by decide))
    refine lv_aload_n hx hb dX9_round_12 rfl (lv_at hl 0 rfl) ?_
    refine va_get (ci := 9) (v := .ref (y 25)) (C := RX9) (T := TX9) (N := 15) hx hb hg inX9 hown hK hP 0 rfl rfl 5 (by decide) (hg _ q_2_41) (fun _ h9 => h9) rfl dX9_round_13 ?_
    refine lv_aload_n hx hb dX9_round_16 rfl (lv_at hl 0 rfl) ?_
    refine va_get (ci := 9) (v := .ref (y 19)) (C := RX9) (T := TX9) (N := 15) hx hb hg inX9 hown hK hP 0 rfl rfl 4 (by decide) (hg _ q_2_40) (fun _ h9 => h9) rfl dX9_round_17 ?_
    refine lv_aload_n hx hb dX9_round_20 rfl (lv_at hl 0 rfl) ?_
    refine va_get (ci := 9) (v := .int py0_12) (C := RX9) (T := TX9) (N := 15) hx hb hg inX9 hown hK hP 0 rfl rfl 12 (by decide) (hg _ q_2_48) (fun _ h9 => h9) rfl dX9_round_21 ?_
    refine lv_aload_n hx hb dX9_round_24 rfl (lv_at hl 0 rfl) ?_
    refine va_get (ci := 9) (v := .int py0_13) (C := RX9) (T := TX9) (N := 15) hx hb hg inX9 hown hK hP 0 rfl rfl 13 (by decide) (hg _ q_2_49) (fun _ h9 => h9) rfl dX9_round_25 ?_
    refine jnV (wr := [(y 0, .inr (9, [.ref (y 1), .int py0_1, .ref (y 2), .ref (y 10), .ref (y 19), .ref (y 25), .ref (y 26), .ref (y 30), .ref (y 31), .ref (y 32), o10, o11, .int py0_12, .int py0_13, .int py0_14]))]) (rnV (rest := []) ⟨hx, hb, hml, hown, hg⟩ (k_X0_follow_0 l V y D9 py0_12 py0_13 fy3 fy9 fy20 fy21 fy22 py25_0 py25_1 py2_0 py2_1 py2_2 py2_3 py2_4 py2_5 py2_13 py2_14 py2_15 py2_16 py2_17 bpy0_12 bpy0_13 tfy20 bpy2_1 bpy2_2 bpy2_3 bpy2_4 bpy2_5 bpy2_13 bpy2_14 bpy2_15 bpy2_16 bpy2_17 hL9 hK9) mt_X0_follow q_4_22 ⟨Nat.le_of_ble_eq_true rfl, Nat.le_of_ble_eq_true rfl⟩ hK hP hD hS hA hE [2, 3, 4, 5, 6, 7, 8, 1] rfl rfl 8 rfl rfl rfl rfl hl.1 rfl (Nat.le_of_ble_eq_true rfl) dX9_round_28 ⟨Nat.le_of_ble_eq_true rfl, Nat.le_of_ble_eq_true rfl⟩) hP hD hS hA [2, 3, 4, 5, 6, 7, 8, 1] [0] rfl rfl rfl (by decide) (fun  w H locs hw hP hD hS => ?_)
    obtain ⟨f_3, f_4, f_5, v_6, v_7, tf_3, kn_8, rfl⟩ := hw
    have hP : va_P V.1 vwCl [(y 0, .inr (9, [.ref (y 1), .int py0_1, .ref (y 2), .ref (y 10), .ref (y 19), .ref (y 25), .ref (y 26), .ref (y 30), .ref (y 31), .ref (y 32), o10, o11, .int py0_12, .int py0_13, .int py0_14])), (y 3, aI V 4 fy3), (y 9, aI V 900 fy9), (y 19, .inr (4, [.ref (y 2), .ref (y 20), .ref (y 21), .ref (y 22), .ref (y 23), .ref (y 24)])), (y 20, aI V 2000 f_3), (y 21, aI V 6 f_4), (y 22, aI V 64 f_5), (y 25, .inr (0, [.int v_6, .int v_7])), (y 2, .inr (1, [.int py2_0, .int py2_1, .int py2_2, .int py2_3, .int py2_4, .int py2_5, .ref (y 3), .ref (y 4), .ref (y 5), .ref (y 6), .ref (y 7), .ref (y 8), .ref (y 9), .int py2_13, .int py2_14, .int py2_15, .int py2_16, .int py2_17]))] H := hP
    have hD : va_D A [(y 0, .inr (9, [.ref (y 1), .int py0_1, .ref (y 2), .ref (y 10), .ref (y 19), .ref (y 25), .ref (y 26), .ref (y 30), .ref (y 31), .ref (y 32), o10, o11, .int py0_12, .int py0_13, .int py0_14])), (y 3, aI V 4 fy3), (y 9, aI V 900 fy9), (y 19, .inr (4, [.ref (y 2), .ref (y 20), .ref (y 21), .ref (y 22), .ref (y 23), .ref (y 24)])), (y 20, aI V 2000 f_3), (y 21, aI V 6 f_4), (y 22, aI V 64 f_5), (y 25, .inr (0, [.int v_6, .int v_7])), (y 2, .inr (1, [.int py2_0, .int py2_1, .int py2_2, .int py2_3, .int py2_4, .int py2_5, .ref (y 3), .ref (y 4), .ref (y 5), .ref (y 6), .ref (y 7), .ref (y 8), .ref (y 9), .int py2_13, .int py2_14, .int py2_15, .int py2_16, .int py2_17]))] := hD
    refine lv_iload_n hx hb dX9_round_31 rfl (lv_at hl 1 rfl) ?_
    refine lv_if_ne (tgt := 45) hx hb dX9_round_32 (by decide) (fun c_9 => absurd (iv_eqp b_2 (iv_c (0 : Int32) (a := 0) (b := 0) (by decide))) c_9) (fun _ => ?_)
    refine lv_aload_n hx hb dX9_round_35 rfl (lv_at hl 0 rfl) ?_
    refine va_get (ci := 9) (v := .ref (y 25)) (C := RX9) (T := TX9) (N := 15) hx hb hg inX9 hown hK hP 0 rfl rfl 5 (by decide) (hg _ q_2_41) (fun _ h9 => h9) rfl dX9_round_36 ?_
    refine va_get (ci := 0) (v := .int v_6) (C := RX0) (T := TX0) (N := 2) hx hb hg inX0 hown hK hP 7 rfl rfl 0 (by decide) (hg _ q_1_197) (fun _ h9 => h9) rfl dX9_round_39 ?_
    refine lv_goto (tgt := 52) hx hb dX9_round_42 (by decide) ?_
    have hP := subP (ws' := [(y 0, .inr (9, [.ref (y 1), .int py0_1, .ref (y 2), .ref (y 10), .ref (y 19), .ref (y 25), .ref (y 26), .ref (y 30), .ref (y 31), .ref (y 32), o10, o11, .int py0_12, .int py0_13, .int py0_14])), (y 2, .inr (1, [.int py2_0, .int py2_1, .int py2_2, .int py2_3, .int py2_4, .int py2_5, .ref (y 3), .ref (y 4), .ref (y 5), .ref (y 6), .ref (y 7), .ref (y 8), .ref (y 9), .int py2_13, .int py2_14, .int py2_15, .int py2_16, .int py2_17])), (y 3, aI V 4 fy3), (y 9, aI V 900 fy9), (y 19, .inr (4, [.ref (y 2), .ref (y 20), .ref (y 21), .ref (y 22), .ref (y 23), .ref (y 24)])), (y 20, aI V 2000 f_3), (y 21, aI V 6 f_4), (y 22, aI V 64 f_5), (y 25, .inr (0, [.int v_6, .int v_7]))]) hP [0, 8, 1, 2, 3, 4, 5, 6, 7] rfl
    have hD := hD.sub (ws' := [(y 0, .inr (9, [.ref (y 1), .int py0_1, .ref (y 2), .ref (y 10), .ref (y 19), .ref (y 25), .ref (y 26), .ref (y 30), .ref (y 31), .ref (y 32), o10, o11, .int py0_12, .int py0_13, .int py0_14])), (y 2, .inr (1, [.int py2_0, .int py2_1, .int py2_2, .int py2_3, .int py2_4, .int py2_5, .ref (y 3), .ref (y 4), .ref (y 5), .ref (y 6), .ref (y 7), .ref (y 8), .ref (y 9), .int py2_13, .int py2_14, .int py2_15, .int py2_16, .int py2_17])), (y 3, aI V 4 fy3), (y 9, aI V 900 fy9), (y 19, .inr (4, [.ref (y 2), .ref (y 20), .ref (y 21), .ref (y 22), .ref (y 23), .ref (y 24)])), (y 20, aI V 2000 f_3), (y 21, aI V 6 f_4), (y 22, aI V 64 f_5), (y 25, .inr (0, [.int v_6, .int v_7]))]) [0, 8, 1, 2, 3, 4, 5, 6, 7] rfl rfl
    exact fiI hx hb hr hlk hK hP hD hS dX9_round_52 (Nat.le_of_ble_eq_true rfl) (Nat.le_of_ble_eq_true rfl) (⟨f_3, f_4, f_5, v_6, v_7, tf_3, kn_8, rfl⟩)
  · refine lv_iload_n hx hb dX9_round_4 rfl (lv_at hl 1 rfl) ?_
    refine lv_iconst (v := 1) hx hb dX9_round_5 (by decide) ?_
    refine lv_icmp_eq (tgt := 12) hx hb dX9_round_6 (by decide) (fun c_10 => ?_) (fun c_10 => ?_)
    · have b_11 : iv 1 1 a1 := iv_q c_10 (iv_c (1 : Int32) (a := 1) (b := 1) (by decide))
      refine lv_aload_n hx hb dX9_round_12 rfl (lv_at hl 0 rfl) ?_
      refine va_get (ci := 9) (v := .ref (y 25)) (C := RX9) (T := TX9) (N := 15) hx hb hg inX9 hown hK hP 0 rfl rfl 5 (by decide) (hg _ q_2_41) (fun _ h9 => h9) rfl dX9_round_13 ?_
      refine lv_aload_n hx hb dX9_round_16 rfl (lv_at hl 0 rfl) ?_
      refine va_get (ci := 9) (v := .ref (y 19)) (C := RX9) (T := TX9) (N := 15) hx hb hg inX9 hown hK hP 0 rfl rfl 4 (by decide) (hg _ q_2_40) (fun _ h9 => h9) rfl dX9_round_17 ?_
      refine lv_aload_n hx hb dX9_round_20 rfl (lv_at hl 0 rfl) ?_
      refine va_get (ci := 9) (v := .int py0_12) (C := RX9) (T := TX9) (N := 15) hx hb hg inX9 hown hK hP 0 rfl rfl 12 (by decide) (hg _ q_2_48) (fun _ h9 => h9) rfl dX9_round_21 ?_
      refine lv_aload_n hx hb dX9_round_24 rfl (lv_at hl 0 rfl) ?_
      refine va_get (ci := 9) (v := .int py0_13) (C := RX9) (T := TX9) (N := 15) hx hb hg inX9 hown hK hP 0 rfl rfl 13 (by decide) (hg _ q_2_49) (fun _ h9 => h9) rfl dX9_round_25 ?_
      refine jnV (wr := [(y 0, .inr (9, [.ref (y 1), .int py0_1, .ref (y 2), .ref (y 10), .ref (y 19), .ref (y 25), .ref (y 26), .ref (y 30), .ref (y 31), .ref (y 32), o10, o11, .int py0_12, .int py0_13, .int py0_14]))]) (rnV (rest := []) ⟨hx, hb, hml, hown, hg⟩ (k_X0_follow_0 l V y D9 py0_12 py0_13 fy3 fy9 fy20 fy21 fy22 py25_0 py25_1 py2_0 py2_1 py2_2 py2_3 py2_4 py2_5 py2_13 py2_14 py2_15 py2_16 py2_17 bpy0_12 bpy0_13 tfy20 bpy2_1 bpy2_2 bpy2_3 bpy2_4 bpy2_5 bpy2_13 bpy2_14 bpy2_15 bpy2_16 bpy2_17 hL9 hK9) mt_X0_follow q_4_22 ⟨Nat.le_of_ble_eq_true rfl, Nat.le_of_ble_eq_true rfl⟩ hK hP hD hS hA hE [2, 3, 4, 5, 6, 7, 8, 1] rfl rfl 8 rfl rfl rfl rfl hl.1 rfl (Nat.le_of_ble_eq_true rfl) dX9_round_28 ⟨Nat.le_of_ble_eq_true rfl, Nat.le_of_ble_eq_true rfl⟩) hP hD hS hA [2, 3, 4, 5, 6, 7, 8, 1] [0] rfl rfl rfl (by decide) (fun  w H locs hw hP hD hS => ?_)
      obtain ⟨f_12, f_13, f_14, v_15, v_16, tf_12, kn_17, rfl⟩ := hw
      have hP : va_P V.1 vwCl [(y 0, .inr (9, [.ref (y 1), .int py0_1, .ref (y 2), .ref (y 10), .ref (y 19), .ref (y 25), .ref (y 26), .ref (y 30), .ref (y 31), .ref (y 32), o10, o11, .int py0_12, .int py0_13, .int py0_14])), (y 3, aI V 4 fy3), (y 9, aI V 900 fy9), (y 19, .inr (4, [.ref (y 2), .ref (y 20), .ref (y 21), .ref (y 22), .ref (y 23), .ref (y 24)])), (y 20, aI V 2000 f_12), (y 21, aI V 6 f_13), (y 22, aI V 64 f_14), (y 25, .inr (0, [.int v_15, .int v_16])), (y 2, .inr (1, [.int py2_0, .int py2_1, .int py2_2, .int py2_3, .int py2_4, .int py2_5, .ref (y 3), .ref (y 4), .ref (y 5), .ref (y 6), .ref (y 7), .ref (y 8), .ref (y 9), .int py2_13, .int py2_14, .int py2_15, .int py2_16, .int py2_17]))] H := hP
      have hD : va_D A [(y 0, .inr (9, [.ref (y 1), .int py0_1, .ref (y 2), .ref (y 10), .ref (y 19), .ref (y 25), .ref (y 26), .ref (y 30), .ref (y 31), .ref (y 32), o10, o11, .int py0_12, .int py0_13, .int py0_14])), (y 3, aI V 4 fy3), (y 9, aI V 900 fy9), (y 19, .inr (4, [.ref (y 2), .ref (y 20), .ref (y 21), .ref (y 22), .ref (y 23), .ref (y 24)])), (y 20, aI V 2000 f_12), (y 21, aI V 6 f_13), (y 22, aI V 64 f_14), (y 25, .inr (0, [.int v_15, .int v_16])), (y 2, .inr (1, [.int py2_0, .int py2_1, .int py2_2, .int py2_3, .int py2_4, .int py2_5, .ref (y 3), .ref (y 4), .ref (y 5), .ref (y 6), .ref (y 7), .ref (y 8), .ref (y 9), .int py2_13, .int py2_14, .int py2_15, .int py2_16, .int py2_17]))] := hD
      refine lv_iload_n hx hb dX9_round_31 rfl (lv_at hl 1 rfl) ?_
      refine lv_if_ne (tgt := 45) hx hb dX9_round_32 (by decide) (fun _ => ?_) (fun c_18 => absurd c_18 (iv_ne b_11 (iv_c (0 : Int32) (a := 0) (b := 0) (by decide)) (by decide)))
      refine lv_aload_n hx hb dX9_round_45 rfl (lv_at hl 0 rfl) ?_
      refine va_get (ci := 9) (v := .ref (y 25)) (C := RX9) (T := TX9) (N := 15) hx hb hg inX9 hown hK hP 0 rfl rfl 5 (by decide) (hg _ q_2_41) (fun _ h9 => h9) rfl dX9_round_46 ?_
      refine va_get (ci := 0) (v := .int v_16) (C := RX0) (T := TX0) (N := 2) hx hb hg inX0 hown hK hP 7 rfl rfl 1 (by decide) (hg _ q_1_199) (fun _ h9 => h9) rfl dX9_round_49 ?_
      have hP := subP (ws' := [(y 0, .inr (9, [.ref (y 1), .int py0_1, .ref (y 2), .ref (y 10), .ref (y 19), .ref (y 25), .ref (y 26), .ref (y 30), .ref (y 31), .ref (y 32), o10, o11, .int py0_12, .int py0_13, .int py0_14])), (y 2, .inr (1, [.int py2_0, .int py2_1, .int py2_2, .int py2_3, .int py2_4, .int py2_5, .ref (y 3), .ref (y 4), .ref (y 5), .ref (y 6), .ref (y 7), .ref (y 8), .ref (y 9), .int py2_13, .int py2_14, .int py2_15, .int py2_16, .int py2_17])), (y 3, aI V 4 fy3), (y 9, aI V 900 fy9), (y 19, .inr (4, [.ref (y 2), .ref (y 20), .ref (y 21), .ref (y 22), .ref (y 23), .ref (y 24)])), (y 20, aI V 2000 f_12), (y 21, aI V 6 f_13), (y 22, aI V 64 f_14), (y 25, .inr (0, [.int v_15, .int v_16]))]) hP [0, 8, 1, 2, 3, 4, 5, 6, 7] rfl
      have hD := hD.sub (ws' := [(y 0, .inr (9, [.ref (y 1), .int py0_1, .ref (y 2), .ref (y 10), .ref (y 19), .ref (y 25), .ref (y 26), .ref (y 30), .ref (y 31), .ref (y 32), o10, o11, .int py0_12, .int py0_13, .int py0_14])), (y 2, .inr (1, [.int py2_0, .int py2_1, .int py2_2, .int py2_3, .int py2_4, .int py2_5, .ref (y 3), .ref (y 4), .ref (y 5), .ref (y 6), .ref (y 7), .ref (y 8), .ref (y 9), .int py2_13, .int py2_14, .int py2_15, .int py2_16, .int py2_17])), (y 3, aI V 4 fy3), (y 9, aI V 900 fy9), (y 19, .inr (4, [.ref (y 2), .ref (y 20), .ref (y 21), .ref (y 22), .ref (y 23), .ref (y 24)])), (y 20, aI V 2000 f_12), (y 21, aI V 6 f_13), (y 22, aI V 64 f_14), (y 25, .inr (0, [.int v_15, .int v_16]))]) [0, 8, 1, 2, 3, 4, 5, 6, 7] rfl rfl
      exact fiI hx hb hr hlk hK hP hD hS dX9_round_52 (Nat.le_of_ble_eq_true rfl) (Nat.le_of_ble_eq_true rfl) (⟨f_12, f_13, f_14, v_15, v_16, tf_12, kn_17, rfl⟩)
    · refine lv_bipush (v := (-2)) hx hb dX9_round_9 (by decide) ?_
      exact fiI hx hb hr hlk hK hP hD hS dX9_round_11 (Nat.le_of_ble_eq_true rfl) (Nat.le_of_ble_eq_true rfl) (⟨fy20, fy21, fy22, py25_0, py25_1, tfy20, hK9, rfl⟩)
theorem dX9_bare_0 : decode cX9_bare 0 = .ok (.aload_n 0, 1) := by decide +kernel
theorem dX9_bare_1 : decode cX9_bare 1 = .ok (.getfield 41, 3) := by decide +kernel
theorem dX9_bare_4 : decode cX9_bare 4 = .ok (.aload_n 0, 1) := by decide +kernel
theorem dX9_bare_5 : decode cX9_bare 5 = .ok (.getfield 34, 3) := by decide +kernel
theorem dX9_bare_8 : decode cX9_bare 8 = .ok (.aload_n 0, 1) := by decide +kernel
theorem dX9_bare_9 : decode cX9_bare 9 = .ok (.getfield 113, 3) := by decide +kernel
theorem dX9_bare_12 : decode cX9_bare 12 = .ok (.aload_n 0, 1) := by decide +kernel
theorem dX9_bare_13 : decode cX9_bare 13 = .ok (.getfield 116, 3) := by decide +kernel
theorem dX9_bare_16 : decode cX9_bare 16 = .ok (.invokevirtual 227, 3) := by decide +kernel
theorem dX9_bare_19 : decode cX9_bare 19 = .ok (.aload_n 0, 1) := by decide +kernel
theorem dX9_bare_20 : decode cX9_bare 20 = .ok (.getfield 113, 3) := by decide +kernel
theorem dX9_bare_23 : decode cX9_bare 23 = .ok (.istore_n 1, 1) := by decide +kernel
theorem dX9_bare_24 : decode cX9_bare 24 = .ok (.iconst 0, 1) := by decide +kernel
theorem dX9_bare_25 : decode cX9_bare 25 = .ok (.istore_n 2, 1) := by decide +kernel
theorem dX9_bare_26 : decode cX9_bare 26 = .ok (.iload_n 2, 1) := by decide +kernel
theorem dX9_bare_27 : decode cX9_bare 27 = .ok (.aload_n 0, 1) := by decide +kernel
theorem dX9_bare_28 : decode cX9_bare 28 = .ok (.getfield 41, 3) := by decide +kernel
theorem dX9_bare_31 : decode cX9_bare 31 = .ok (.getfield 231, 3) := by decide +kernel
theorem dX9_bare_34 : decode cX9_bare 34 = .ok (.aload_n 0, 1) := by decide +kernel
theorem dX9_bare_35 : decode cX9_bare 35 = .ok (.getfield 41, 3) := by decide +kernel
theorem dX9_bare_38 : decode cX9_bare 38 = .ok (.getfield 234, 3) := by decide +kernel
theorem dX9_bare_41 : decode cX9_bare 41 = .ok (.iadd, 1) := by decide +kernel
theorem dX9_bare_42 : decode cX9_bare 42 = .ok (.if_icmp .ge 32, 3) := by decide +kernel
theorem dX9_bare_74 : decode cX9_bare 74 = .ok (.iconst (-1), 1) := by decide +kernel
theorem dX9_bare_75 : decode cX9_bare 75 = .ok (.ireturn, 1) := by decide +kernel
theorem dX9_bare_45 : decode cX9_bare 45 = .ok (.iload_n 1, 1) := by decide +kernel
theorem dX9_bare_46 : decode cX9_bare 46 = .ok (.invokestatic 216, 3) := by decide +kernel
theorem dX9_bare_49 : decode cX9_bare 49 = .ok (.ifCond .ne 5, 3) := by decide +kernel
theorem dX9_bare_54 : decode cX9_bare 54 = .ok (.aload_n 0, 1) := by decide +kernel
theorem dX9_bare_55 : decode cX9_bare 55 = .ok (.getfield 34, 3) := by decide +kernel
theorem dX9_bare_58 : decode cX9_bare 58 = .ok (.iload_n 1, 1) := by decide +kernel
theorem dX9_bare_59 : decode cX9_bare 59 = .ok (.aload_n 0, 1) := by decide +kernel
theorem dX9_bare_60 : decode cX9_bare 60 = .ok (.getfield 116, 3) := by decide +kernel
theorem dX9_bare_63 : decode cX9_bare 63 = .ok (.iconst 0, 1) := by decide +kernel
theorem dX9_bare_64 : decode cX9_bare 64 = .ok (.invokevirtual 155, 3) := by decide +kernel
theorem dX9_bare_67 : decode cX9_bare 67 = .ok (.istore_n 1, 1) := by decide +kernel
theorem dX9_bare_68 : decode cX9_bare 68 = .ok (.iinc 2 1, 3) := by decide +kernel
theorem dX9_bare_71 : decode cX9_bare 71 = .ok (.goto (-45), 3) := by decide +kernel
theorem dX9_bare_52 : decode cX9_bare 52 = .ok (.iload_n 2, 1) := by decide +kernel
theorem dX9_bare_53 : decode cX9_bare 53 = .ok (.ireturn, 1) := by decide +kernel
set_option maxHeartbeats 4000000 in
set_option maxRecDepth 100000 in
theorem k_X9_bare_0 (l : Launch) (V : GV) (y : Nat → Nat) (D9 : Nat → Int32) (py0_1 : Int32) (o10 : Value) (o11 : Value) (py0_12 : Int32) (py0_13 : Int32) (py0_14 : Int32) (py2_0 : Int32) (py2_1 : Int32) (py2_2 : Int32) (py2_3 : Int32) (py2_4 : Int32) (py2_5 : Int32) (py2_13 : Int32) (py2_14 : Int32) (py2_15 : Int32) (py2_16 : Int32) (py2_17 : Int32) (fy3 : Nat → Int32) (fy9 : Nat → Int32) (fy20 : Nat → Int32) (fy21 : Nat → Int32) (fy22 : Nat → Int32) (py25_0 : Int32) (py25_1 : Int32) (bpy0_1 : iv 0 900 py0_1) (bpy0_12 : iv 0 9999 py0_12) (bpy0_13 : iv 0 9 py0_13) (bpy2_1 : iv 0 4 py2_1) (bpy2_2 : iv 0 4 py2_2) (bpy2_3 : iv 0 8 py2_3) (bpy2_4 : iv 0 9999 py2_4) (bpy2_5 : iv 0 9 py2_5) (bpy2_13 : iv 0 900 py2_13) (bpy2_14 : iv 0 900 py2_14) (bpy2_15 : iv 0 900 py2_15) (bpy2_16 : iv 0 900 py2_16) (bpy2_17 : iv 0 900 py2_17) (tfy20 : ∀ j, iv 0 10 (fy20 j)) (hL9 : LW D9 fy3 fy9 py2_14 py2_15 py2_16 py2_17) (hK9 : KN D9 fy20) : Ct l V yX9_bare (.code yX9_bare cX9_bare 3 (some .int)) 7 [.ref (y 0)] [(y 0, .inr (9, [.ref (y 1), .int py0_1, .ref (y 2), .ref (y 10), .ref (y 19), .ref (y 25), .ref (y 26), .ref (y 30), .ref (y 31), .ref (y 32), o10, o11, .int py0_12, .int py0_13, .int py0_14])), (y 2, .inr (1, [.int py2_0, .int py2_1, .int py2_2, .int py2_3, .int py2_4, .int py2_5, .ref (y 3), .ref (y 4), .ref (y 5), .ref (y 6), .ref (y 7), .ref (y 8), .ref (y 9), .int py2_13, .int py2_14, .int py2_15, .int py2_16, .int py2_17])), (y 3, aI V 4 fy3), (y 9, aI V 900 fy9), (y 19, .inr (4, [.ref (y 2), .ref (y 20), .ref (y 21), .ref (y 22), .ref (y 23), .ref (y 24)])), (y 20, aI V 2000 fy20), (y 21, aI V 6 fy21), (y 22, aI V 64 fy22), (y 25, .inr (0, [.int py25_0, .int py25_1]))] 0 0 (QI V (fun (r : Int32) (w : va_W) => ∃ (g0 : Nat → Int32) (g1 : Nat → Int32) (g2 : Nat → Int32) (v3 : Int32) (v4 : Int32), (∀ j, iv 0 10 (g0 j)) ∧ iv (-1) 2147483646 r ∧ KN D9 g0 ∧ w = [(y 0, .inr (9, [.ref (y 1), .int py0_1, .ref (y 2), .ref (y 10), .ref (y 19), .ref (y 25), .ref (y 26), .ref (y 30), .ref (y 31), .ref (y 32), o10, o11, .int py0_12, .int py0_13, .int py0_14])), (y 2, .inr (1, [.int py2_0, .int py2_1, .int py2_2, .int py2_3, .int py2_4, .int py2_5, .ref (y 3), .ref (y 4), .ref (y 5), .ref (y 6), .ref (y 7), .ref (y 8), .ref (y 9), .int py2_13, .int py2_14, .int py2_15, .int py2_16, .int py2_17])), (y 3, aI V 4 fy3), (y 9, aI V 900 fy9), (y 19, .inr (4, [.ref (y 2), .ref (y 20), .ref (y 21), .ref (y 22), .ref (y 23), .ref (y 24)])), (y 20, aI V 2000 g0), (y 21, aI V 6 g1), (y 22, aI V 64 g2), (y 25, .inr (0, [.int v3, .int v4]))])) := by
  refine Ct.of (by decide) (Nat.le_of_ble_eq_true rfl) (fun p e s m below meth c A ls hx hb hr hml hown hlk hnm hg hP hK hD hE hA hS hl => ?_)
  have hl : lv_has ls 3 [(0, .ref (y 0))] := hl
  refine lv_aload_n hx hb dX9_bare_0 rfl (lv_at hl 0 rfl) ?_
  refine va_get (ci := 9) (v := .ref (y 25)) (C := RX9) (T := TX9) (N := 15) hx hb hg inX9 hown hK hP 0 rfl rfl 5 (by decide) (hg _ q_2_41) (fun _ h9 => h9) rfl dX9_bare_1 ?_
  refine lv_aload_n hx hb dX9_bare_4 rfl (lv_at hl 0 rfl) ?_
  refine va_get (ci := 9) (v := .ref (y 19)) (C := RX9) (T := TX9) (N := 15) hx hb hg inX9 hown hK hP 0 rfl rfl 4 (by decide) (hg _ q_2_40) (fun _ h9 => h9) rfl dX9_bare_5 ?_
  refine lv_aload_n hx hb dX9_bare_8 rfl (lv_at hl 0 rfl) ?_
  refine va_get (ci := 9) (v := .int py0_12) (C := RX9) (T := TX9) (N := 15) hx hb hg inX9 hown hK hP 0 rfl rfl 12 (by decide) (hg _ q_2_48) (fun _ h9 => h9) rfl dX9_bare_9 ?_
  refine lv_aload_n hx hb dX9_bare_12 rfl (lv_at hl 0 rfl) ?_
  refine va_get (ci := 9) (v := .int py0_13) (C := RX9) (T := TX9) (N := 15) hx hb hg inX9 hown hK hP 0 rfl rfl 13 (by decide) (hg _ q_2_49) (fun _ h9 => h9) rfl dX9_bare_13 ?_
  refine jnV (wr := [(y 0, .inr (9, [.ref (y 1), .int py0_1, .ref (y 2), .ref (y 10), .ref (y 19), .ref (y 25), .ref (y 26), .ref (y 30), .ref (y 31), .ref (y 32), o10, o11, .int py0_12, .int py0_13, .int py0_14]))]) (rnV (rest := []) ⟨hx, hb, hml, hown, hg⟩ (k_X0_follow_0 l V y D9 py0_12 py0_13 fy3 fy9 fy20 fy21 fy22 py25_0 py25_1 py2_0 py2_1 py2_2 py2_3 py2_4 py2_5 py2_13 py2_14 py2_15 py2_16 py2_17 bpy0_12 bpy0_13 tfy20 bpy2_1 bpy2_2 bpy2_3 bpy2_4 bpy2_5 bpy2_13 bpy2_14 bpy2_15 bpy2_16 bpy2_17 hL9 hK9) mt_X0_follow q_4_22 ⟨Nat.le_of_ble_eq_true rfl, Nat.le_of_ble_eq_true rfl⟩ hK hP hD hS hA hE [2, 3, 4, 5, 6, 7, 8, 1] rfl rfl 8 rfl rfl rfl rfl hl.1 rfl (Nat.le_of_ble_eq_true rfl) dX9_bare_16 ⟨Nat.le_of_ble_eq_true rfl, Nat.le_of_ble_eq_true rfl⟩) hP hD hS hA [2, 3, 4, 5, 6, 7, 8, 1] [0] rfl rfl rfl (by decide) (fun  w H locs hw hP hD hS => ?_)
  obtain ⟨f_1, f_2, f_3, v_4, v_5, tf_1, kn_6, rfl⟩ := hw
  have hP : va_P V.1 vwCl [(y 0, .inr (9, [.ref (y 1), .int py0_1, .ref (y 2), .ref (y 10), .ref (y 19), .ref (y 25), .ref (y 26), .ref (y 30), .ref (y 31), .ref (y 32), o10, o11, .int py0_12, .int py0_13, .int py0_14])), (y 3, aI V 4 fy3), (y 9, aI V 900 fy9), (y 19, .inr (4, [.ref (y 2), .ref (y 20), .ref (y 21), .ref (y 22), .ref (y 23), .ref (y 24)])), (y 20, aI V 2000 f_1), (y 21, aI V 6 f_2), (y 22, aI V 64 f_3), (y 25, .inr (0, [.int v_4, .int v_5])), (y 2, .inr (1, [.int py2_0, .int py2_1, .int py2_2, .int py2_3, .int py2_4, .int py2_5, .ref (y 3), .ref (y 4), .ref (y 5), .ref (y 6), .ref (y 7), .ref (y 8), .ref (y 9), .int py2_13, .int py2_14, .int py2_15, .int py2_16, .int py2_17]))] H := hP
  have hD : va_D A [(y 0, .inr (9, [.ref (y 1), .int py0_1, .ref (y 2), .ref (y 10), .ref (y 19), .ref (y 25), .ref (y 26), .ref (y 30), .ref (y 31), .ref (y 32), o10, o11, .int py0_12, .int py0_13, .int py0_14])), (y 3, aI V 4 fy3), (y 9, aI V 900 fy9), (y 19, .inr (4, [.ref (y 2), .ref (y 20), .ref (y 21), .ref (y 22), .ref (y 23), .ref (y 24)])), (y 20, aI V 2000 f_1), (y 21, aI V 6 f_2), (y 22, aI V 64 f_3), (y 25, .inr (0, [.int v_4, .int v_5])), (y 2, .inr (1, [.int py2_0, .int py2_1, .int py2_2, .int py2_3, .int py2_4, .int py2_5, .ref (y 3), .ref (y 4), .ref (y 5), .ref (y 6), .ref (y 7), .ref (y 8), .ref (y 9), .int py2_13, .int py2_14, .int py2_15, .int py2_16, .int py2_17]))] := hD
  refine lv_aload_n hx hb dX9_bare_19 rfl (lv_at hl 0 rfl) ?_
  refine va_get (ci := 9) (v := .int py0_12) (C := RX9) (T := TX9) (N := 15) hx hb hg inX9 hown hK hP 0 rfl rfl 12 (by decide) (hg _ q_2_48) (fun _ h9 => h9) rfl dX9_bare_20 ?_
  refine lv_istore_n (lv' := [(1, .int py0_12), (0, .ref (y 0))]) hx hb dX9_bare_23 rfl hl (by decide) rfl (fun ls hl => ?_)
  refine lv_iconst (v := 0) hx hb dX9_bare_24 (by decide) ?_
  refine lv_istore_n (lv' := [(2, .int 0), (1, .int py0_12), (0, .ref (y 0))]) hx hb dX9_bare_25 rfl hl (by decide) rfl (fun ls hl => ?_)
  refine loopF (X := fun (n_12 : Nat) (H : Heap) (locs : List Loc) (ls : Array Slot) => ∃ (u_7 : Int32) (u_8 : Int32) (f_9 : Nat → Int32) (f_10 : Nat → Int32) (f_11 : Nat → Int32), (iv 0 2147483647 u_7) ∧ (iv 0 9999 u_8) ∧ (∀ j, iv 0 10 (f_9 j)) ∧ KN D9 f_9 ∧ n_12 = (2147483647 - (u_7 : Int32).toInt).toNat ∧ va_P V.1 vwCl [(y 0, .inr (9, [.ref (y 1), .int py0_1, .ref (y 2), .ref (y 10), .ref (y 19), .ref (y 25), .ref (y 26), .ref (y 30), .ref (y 31), .ref (y 32), o10, o11, .int py0_12, .int py0_13, .int py0_14])), (y 3, aI V 4 fy3), (y 9, aI V 900 fy9), (y 19, .inr (4, [.ref (y 2), .ref (y 20), .ref (y 21), .ref (y 22), .ref (y 23), .ref (y 24)])), (y 20, aI V 2000 f_9), (y 21, aI V 6 f_10), (y 22, aI V 64 f_11), (y 25, .inr (0, [.int v_4, .int v_5])), (y 2, .inr (1, [.int py2_0, .int py2_1, .int py2_2, .int py2_3, .int py2_4, .int py2_5, .ref (y 3), .ref (y 4), .ref (y 5), .ref (y 6), .ref (y 7), .ref (y 8), .ref (y 9), .int py2_13, .int py2_14, .int py2_15, .int py2_16, .int py2_17]))] H ∧ va_D A [(y 0, .inr (9, [.ref (y 1), .int py0_1, .ref (y 2), .ref (y 10), .ref (y 19), .ref (y 25), .ref (y 26), .ref (y 30), .ref (y 31), .ref (y 32), o10, o11, .int py0_12, .int py0_13, .int py0_14])), (y 3, aI V 4 fy3), (y 9, aI V 900 fy9), (y 19, .inr (4, [.ref (y 2), .ref (y 20), .ref (y 21), .ref (y 22), .ref (y 23), .ref (y 24)])), (y 20, aI V 2000 f_9), (y 21, aI V 6 f_10), (y 22, aI V 64 f_11), (y 25, .inr (0, [.int v_4, .int v_5])), (y 2, .inr (1, [.int py2_0, .int py2_1, .int py2_2, .int py2_3, .int py2_4, .int py2_5, .ref (y 3), .ref (y 4), .ref (y 5), .ref (y 6), .ref (y 7), .ref (y 8), .ref (y 9), .int py2_13, .int py2_14, .int py2_15, .int py2_16, .int py2_17]))] ∧ va_S A s.heap H locs ∧ lv_has ls 3 [(2, .int u_7), (1, .int u_8), (0, .ref (y 0))]) (g := fun ls => F0 m 26 ls []) (fun n_12 H locs ls hX ihn_12 => ?_) _ ⟨0, py0_12, f_1, f_2, f_3, (iv_c (0 : Int32) (by decide)), bpy0_12, tf_1, kn_6, rfl, hP, hD, hS, lv_sub hl [0, 1, 2] rfl⟩
  obtain ⟨u_7, u_8, f_9, f_10, f_11, bu_7, bu_8, tf_9, knn_12, en_12, hP, hD, hS, hl⟩ := hX
  refine lv_iload_n hx hb dX9_bare_26 rfl (lv_at hl 0 rfl) ?_
  refine lv_aload_n hx hb dX9_bare_27 rfl (lv_at hl 2 rfl) ?_
  refine va_get (ci := 9) (v := .ref (y 25)) (C := RX9) (T := TX9) (N := 15) hx hb hg inX9 hown hK hP 0 rfl rfl 5 (by decide) (hg _ q_2_41) (fun _ h9 => h9) rfl dX9_bare_28 ?_
  refine va_get (ci := 0) (v := .int v_4) (C := RX0) (T := TX0) (N := 2) hx hb hg inX0 hown hK hP 7 rfl rfl 0 (by decide) (hg _ q_1_197) (fun _ h9 => h9) rfl dX9_bare_31 ?_
  refine lv_aload_n hx hb dX9_bare_34 rfl (lv_at hl 2 rfl) ?_
  refine va_get (ci := 9) (v := .ref (y 25)) (C := RX9) (T := TX9) (N := 15) hx hb hg inX9 hown hK hP 0 rfl rfl 5 (by decide) (hg _ q_2_41) (fun _ h9 => h9) rfl dX9_bare_35 ?_
  refine va_get (ci := 0) (v := .int v_5) (C := RX0) (T := TX0) (N := 2) hx hb hg inX0 hown hK hP 7 rfl rfl 1 (by decide) (hg _ q_1_199) (fun _ h9 => h9) rfl dX9_bare_38 ?_
  refine lv_iadd hx hb dX9_bare_41 ?_
  refine lv_topi (fun x_13 ex_13 => ?_)
  refine lv_icmp_ge (tgt := 74) hx hb dX9_bare_42 (by decide) (fun c_14 => ?_) (fun c_14 => ?_)
  · refine lv_iconst (v := (-1)) hx hb dX9_bare_74 (by decide) ?_
    have hP := subP (ws' := [(y 0, .inr (9, [.ref (y 1), .int py0_1, .ref (y 2), .ref (y 10), .ref (y 19), .ref (y 25), .ref (y 26), .ref (y 30), .ref (y 31), .ref (y 32), o10, o11, .int py0_12, .int py0_13, .int py0_14])), (y 2, .inr (1, [.int py2_0, .int py2_1, .int py2_2, .int py2_3, .int py2_4, .int py2_5, .ref (y 3), .ref (y 4), .ref (y 5), .ref (y 6), .ref (y 7), .ref (y 8), .ref (y 9), .int py2_13, .int py2_14, .int py2_15, .int py2_16, .int py2_17])), (y 3, aI V 4 fy3), (y 9, aI V 900 fy9), (y 19, .inr (4, [.ref (y 2), .ref (y 20), .ref (y 21), .ref (y 22), .ref (y 23), .ref (y 24)])), (y 20, aI V 2000 f_9), (y 21, aI V 6 f_10), (y 22, aI V 64 f_11), (y 25, .inr (0, [.int v_4, .int v_5]))]) hP [0, 8, 1, 2, 3, 4, 5, 6, 7] rfl
    have hD := hD.sub (ws' := [(y 0, .inr (9, [.ref (y 1), .int py0_1, .ref (y 2), .ref (y 10), .ref (y 19), .ref (y 25), .ref (y 26), .ref (y 30), .ref (y 31), .ref (y 32), o10, o11, .int py0_12, .int py0_13, .int py0_14])), (y 2, .inr (1, [.int py2_0, .int py2_1, .int py2_2, .int py2_3, .int py2_4, .int py2_5, .ref (y 3), .ref (y 4), .ref (y 5), .ref (y 6), .ref (y 7), .ref (y 8), .ref (y 9), .int py2_13, .int py2_14, .int py2_15, .int py2_16, .int py2_17])), (y 3, aI V 4 fy3), (y 9, aI V 900 fy9), (y 19, .inr (4, [.ref (y 2), .ref (y 20), .ref (y 21), .ref (y 22), .ref (y 23), .ref (y 24)])), (y 20, aI V 2000 f_9), (y 21, aI V 6 f_10), (y 22, aI V 64 f_11), (y 25, .inr (0, [.int v_4, .int v_5]))]) [0, 8, 1, 2, 3, 4, 5, 6, 7] rfl rfl
    exact fiI hx hb hr hlk hK hP hD hS dX9_bare_75 (Nat.le_of_ble_eq_true rfl) (Nat.le_of_ble_eq_true rfl) (⟨f_9, f_10, f_11, v_4, v_5, tf_9, (iv_c ((-1) : Int32) (by decide)), knn_12, rfl⟩)
  · have b_15 : iv 0 2147483646 u_7 := iv_l1 (Int32.not_le.mp c_14) bu_7 (iv_top x_13) (by decide)
    have b_16 : iv 1 2147483647 x_13 := iv_l2 (Int32.not_le.mp c_14) bu_7 (iv_top x_13) (by decide)
    refine lv_iload_n hx hb dX9_bare_45 rfl (lv_at hl 1 rfl) ?_
    refine jnI (wr := [(y 0, .inr (9, [.ref (y 1), .int py0_1, .ref (y 2), .ref (y 10), .ref (y 19), .ref (y 25), .ref (y 26), .ref (y 30), .ref (y 31), .ref (y 32), o10, o11, .int py0_12, .int py0_13, .int py0_14])), (y 3, aI V 4 fy3), (y 9, aI V 900 fy9), (y 19, .inr (4, [.ref (y 2), .ref (y 20), .ref (y 21), .ref (y 22), .ref (y 23), .ref (y 24)])), (y 20, aI V 2000 f_9), (y 21, aI V 6 f_10), (y 22, aI V 64 f_11), (y 25, .inr (0, [.int v_4, .int v_5])), (y 2, .inr (1, [.int py2_0, .int py2_1, .int py2_2, .int py2_3, .int py2_4, .int py2_5, .ref (y 3), .ref (y 4), .ref (y 5), .ref (y 6), .ref (y 7), .ref (y 8), .ref (y 9), .int py2_13, .int py2_14, .int py2_15, .int py2_16, .int py2_17]))]) (rnS (rest := []) ⟨hx, hb, hml, hown, hg⟩ (k_X9_stacksTogether_0 l V u_8 bu_8) mt_X9_stacksTogether q_3_239 ⟨Nat.le_of_ble_eq_true rfl, Nat.le_of_ble_eq_true rfl⟩ hK hP hD hS hA hE [] rfl rfl rfl hl.1 rfl (Nat.le_of_ble_eq_true rfl) dX9_bare_46 ⟨Nat.le_of_ble_eq_true rfl, Nat.le_of_ble_eq_true rfl⟩) hP hD hS hA [] [0, 1, 2, 3, 4, 5, 6, 7, 8] rfl rfl rfl (by decide) (fun r_17 w H locs hw hP hD hS => ?_)
    obtain ⟨er_17, et_18, rfl⟩ := hw
    have hP : va_P V.1 vwCl [(y 0, .inr (9, [.ref (y 1), .int py0_1, .ref (y 2), .ref (y 10), .ref (y 19), .ref (y 25), .ref (y 26), .ref (y 30), .ref (y 31), .ref (y 32), o10, o11, .int py0_12, .int py0_13, .int py0_14])), (y 3, aI V 4 fy3), (y 9, aI V 900 fy9), (y 19, .inr (4, [.ref (y 2), .ref (y 20), .ref (y 21), .ref (y 22), .ref (y 23), .ref (y 24)])), (y 20, aI V 2000 f_9), (y 21, aI V 6 f_10), (y 22, aI V 64 f_11), (y 25, .inr (0, [.int v_4, .int v_5])), (y 2, .inr (1, [.int py2_0, .int py2_1, .int py2_2, .int py2_3, .int py2_4, .int py2_5, .ref (y 3), .ref (y 4), .ref (y 5), .ref (y 6), .ref (y 7), .ref (y 8), .ref (y 9), .int py2_13, .int py2_14, .int py2_15, .int py2_16, .int py2_17]))] H := hP
    have hD : va_D A [(y 0, .inr (9, [.ref (y 1), .int py0_1, .ref (y 2), .ref (y 10), .ref (y 19), .ref (y 25), .ref (y 26), .ref (y 30), .ref (y 31), .ref (y 32), o10, o11, .int py0_12, .int py0_13, .int py0_14])), (y 3, aI V 4 fy3), (y 9, aI V 900 fy9), (y 19, .inr (4, [.ref (y 2), .ref (y 20), .ref (y 21), .ref (y 22), .ref (y 23), .ref (y 24)])), (y 20, aI V 2000 f_9), (y 21, aI V 6 f_10), (y 22, aI V 64 f_11), (y 25, .inr (0, [.int v_4, .int v_5])), (y 2, .inr (1, [.int py2_0, .int py2_1, .int py2_2, .int py2_3, .int py2_4, .int py2_5, .ref (y 3), .ref (y 4), .ref (y 5), .ref (y 6), .ref (y 7), .ref (y 8), .ref (y 9), .int py2_13, .int py2_14, .int py2_15, .int py2_16, .int py2_17]))] := hD
    refine lv_if_ne (tgt := 54) hx hb dX9_bare_49 (by decide) (fun c_19 => ?_) (fun c_19 => ?_)
    · refine lv_aload_n hx hb dX9_bare_54 rfl (lv_at hl 2 rfl) ?_
      refine va_get (ci := 9) (v := .ref (y 19)) (C := RX9) (T := TX9) (N := 15) hx hb hg inX9 hown hK hP 0 rfl rfl 4 (by decide) (hg _ q_2_40) (fun _ h9 => h9) rfl dX9_bare_55 ?_
      refine lv_iload_n hx hb dX9_bare_58 rfl (lv_at hl 1 rfl) ?_
      refine lv_aload_n hx hb dX9_bare_59 rfl (lv_at hl 2 rfl) ?_
      refine va_get (ci := 9) (v := .int py0_13) (C := RX9) (T := TX9) (N := 15) hx hb hg inX9 hown hK hP 0 rfl rfl 13 (by decide) (hg _ q_2_49) (fun _ h9 => h9) rfl dX9_bare_60 ?_
      refine lv_iconst (v := 0) hx hb dX9_bare_63 (by decide) ?_
      refine jnI (wr := [(y 0, .inr (9, [.ref (y 1), .int py0_1, .ref (y 2), .ref (y 10), .ref (y 19), .ref (y 25), .ref (y 26), .ref (y 30), .ref (y 31), .ref (y 32), o10, o11, .int py0_12, .int py0_13, .int py0_14])), (y 25, .inr (0, [.int v_4, .int v_5]))]) (rnV (rest := []) ⟨hx, hb, hml, hown, hg⟩ (k_X4_behind_0 l V y u_8 py0_13 0 fy3 fy9 f_9 f_10 f_11 py2_0 py2_1 py2_2 py2_3 py2_4 py2_5 py2_13 py2_14 py2_15 py2_16 py2_17 bu_8 bpy0_13 tf_9 bpy2_1 bpy2_2 bpy2_3 bpy2_4 bpy2_5 bpy2_13 bpy2_14 bpy2_15 bpy2_16 bpy2_17) mt_X4_behind q_3_145 ⟨Nat.le_of_ble_eq_true rfl, Nat.le_of_ble_eq_true rfl⟩ hK hP hD hS hA hE [1, 2, 3, 4, 5, 6, 8] rfl rfl 3 rfl rfl rfl rfl hl.1 rfl (Nat.le_of_ble_eq_true rfl) dX9_bare_64 ⟨Nat.le_of_ble_eq_true rfl, Nat.le_of_ble_eq_true rfl⟩) hP hD hS hA [1, 2, 3, 4, 5, 6, 8] [0, 7] rfl rfl rfl (by decide) (fun r_20 w H locs hw hP hD hS => ?_)
      obtain ⟨f_21, f_22, f_23, tf_21, br_20, g_24, rfl⟩ := hw
      have qkn_25 := g_24 D9 hL9 knn_12
      have er_20 : r_20 = bhS D9 u_8 py0_13 (0 : Int32) (py2_1 : Int32).toNatClampNeg := qkn_25.1
      have kn_25 := qkn_25.2
      have hP : va_P V.1 vwCl [(y 0, .inr (9, [.ref (y 1), .int py0_1, .ref (y 2), .ref (y 10), .ref (y 19), .ref (y 25), .ref (y 26), .ref (y 30), .ref (y 31), .ref (y 32), o10, o11, .int py0_12, .int py0_13, .int py0_14])), (y 25, .inr (0, [.int v_4, .int v_5])), (y 3, aI V 4 fy3), (y 9, aI V 900 fy9), (y 19, .inr (4, [.ref (y 2), .ref (y 20), .ref (y 21), .ref (y 22), .ref (y 23), .ref (y 24)])), (y 20, aI V 2000 f_21), (y 21, aI V 6 f_22), (y 22, aI V 64 f_23), (y 2, .inr (1, [.int py2_0, .int py2_1, .int py2_2, .int py2_3, .int py2_4, .int py2_5, .ref (y 3), .ref (y 4), .ref (y 5), .ref (y 6), .ref (y 7), .ref (y 8), .ref (y 9), .int py2_13, .int py2_14, .int py2_15, .int py2_16, .int py2_17]))] H := hP
      have hD : va_D A [(y 0, .inr (9, [.ref (y 1), .int py0_1, .ref (y 2), .ref (y 10), .ref (y 19), .ref (y 25), .ref (y 26), .ref (y 30), .ref (y 31), .ref (y 32), o10, o11, .int py0_12, .int py0_13, .int py0_14])), (y 25, .inr (0, [.int v_4, .int v_5])), (y 3, aI V 4 fy3), (y 9, aI V 900 fy9), (y 19, .inr (4, [.ref (y 2), .ref (y 20), .ref (y 21), .ref (y 22), .ref (y 23), .ref (y 24)])), (y 20, aI V 2000 f_21), (y 21, aI V 6 f_22), (y 22, aI V 64 f_23), (y 2, .inr (1, [.int py2_0, .int py2_1, .int py2_2, .int py2_3, .int py2_4, .int py2_5, .ref (y 3), .ref (y 4), .ref (y 5), .ref (y 6), .ref (y 7), .ref (y 8), .ref (y 9), .int py2_13, .int py2_14, .int py2_15, .int py2_16, .int py2_17]))] := hD
      refine lv_istore_n (lv' := [(1, .int r_20), (2, .int u_7), (0, .ref (y 0))]) hx hb dX9_bare_67 rfl hl (by decide) rfl (fun ls hl => ?_)
      obtain ⟨x_26, ex_26⟩ : ∃ z9 : Int32, z9 = u_7 + 1 := ⟨_, rfl⟩
      have bx_26 : iv 1 2147483647 x_26 := by rw [ex_26]; exact iv_add b_15 (iv_c (1 : Int32) (a := 1) (b := 1) (by decide)) (by decide)
      refine lv_iinc (v := x_26) (lv' := [(2, .int x_26), (1, .int r_20), (0, .ref (y 0))]) hx hb dX9_bare_68 hl (k := 1) rfl (by rw [ex_26]; rfl) (by decide) rfl (fun ls hl => ?_)
      refine lv_goto (tgt := 26) hx hb dX9_bare_71 (by decide) ?_
      have hP := subP (ws' := [(y 0, .inr (9, [.ref (y 1), .int py0_1, .ref (y 2), .ref (y 10), .ref (y 19), .ref (y 25), .ref (y 26), .ref (y 30), .ref (y 31), .ref (y 32), o10, o11, .int py0_12, .int py0_13, .int py0_14])), (y 3, aI V 4 fy3), (y 9, aI V 900 fy9), (y 19, .inr (4, [.ref (y 2), .ref (y 20), .ref (y 21), .ref (y 22), .ref (y 23), .ref (y 24)])), (y 20, aI V 2000 f_21), (y 21, aI V 6 f_22), (y 22, aI V 64 f_23), (y 25, .inr (0, [.int v_4, .int v_5])), (y 2, .inr (1, [.int py2_0, .int py2_1, .int py2_2, .int py2_3, .int py2_4, .int py2_5, .ref (y 3), .ref (y 4), .ref (y 5), .ref (y 6), .ref (y 7), .ref (y 8), .ref (y 9), .int py2_13, .int py2_14, .int py2_15, .int py2_16, .int py2_17]))]) hP [0, 2, 3, 4, 5, 6, 7, 1, 8] rfl
      have hD := hD.sub (ws' := [(y 0, .inr (9, [.ref (y 1), .int py0_1, .ref (y 2), .ref (y 10), .ref (y 19), .ref (y 25), .ref (y 26), .ref (y 30), .ref (y 31), .ref (y 32), o10, o11, .int py0_12, .int py0_13, .int py0_14])), (y 3, aI V 4 fy3), (y 9, aI V 900 fy9), (y 19, .inr (4, [.ref (y 2), .ref (y 20), .ref (y 21), .ref (y 22), .ref (y 23), .ref (y 24)])), (y 20, aI V 2000 f_21), (y 21, aI V 6 f_22), (y 22, aI V 64 f_23), (y 25, .inr (0, [.int v_4, .int v_5])), (y 2, .inr (1, [.int py2_0, .int py2_1, .int py2_2, .int py2_3, .int py2_4, .int py2_5, .ref (y 3), .ref (y 4), .ref (y 5), .ref (y 6), .ref (y 7), .ref (y 8), .ref (y 9), .int py2_13, .int py2_14, .int py2_15, .int py2_16, .int py2_17]))]) [0, 2, 3, 4, 5, 6, 7, 1, 8] rfl rfl
      exact ihn_12 _ _ _ _ (by rw [en_12, ex_26]; exact mu_up b_15 (by decide)) ⟨x_26, r_20, f_21, f_22, f_23, (iv_w bx_26 (by decide)), br_20, tf_21, kn_25, rfl, hP, hD, hS, lv_sub hl [0, 1, 2] rfl⟩
    · have b_27 : iv 0 0 r_17 := iv_q c_19 (iv_c (0 : Int32) (a := 0) (b := 0) (by decide))
      refine lv_iload_n hx hb dX9_bare_52 rfl (lv_at hl 0 rfl) ?_
      have hP := subP (ws' := [(y 0, .inr (9, [.ref (y 1), .int py0_1, .ref (y 2), .ref (y 10), .ref (y 19), .ref (y 25), .ref (y 26), .ref (y 30), .ref (y 31), .ref (y 32), o10, o11, .int py0_12, .int py0_13, .int py0_14])), (y 2, .inr (1, [.int py2_0, .int py2_1, .int py2_2, .int py2_3, .int py2_4, .int py2_5, .ref (y 3), .ref (y 4), .ref (y 5), .ref (y 6), .ref (y 7), .ref (y 8), .ref (y 9), .int py2_13, .int py2_14, .int py2_15, .int py2_16, .int py2_17])), (y 3, aI V 4 fy3), (y 9, aI V 900 fy9), (y 19, .inr (4, [.ref (y 2), .ref (y 20), .ref (y 21), .ref (y 22), .ref (y 23), .ref (y 24)])), (y 20, aI V 2000 f_9), (y 21, aI V 6 f_10), (y 22, aI V 64 f_11), (y 25, .inr (0, [.int v_4, .int v_5]))]) hP [0, 8, 1, 2, 3, 4, 5, 6, 7] rfl
      have hD := hD.sub (ws' := [(y 0, .inr (9, [.ref (y 1), .int py0_1, .ref (y 2), .ref (y 10), .ref (y 19), .ref (y 25), .ref (y 26), .ref (y 30), .ref (y 31), .ref (y 32), o10, o11, .int py0_12, .int py0_13, .int py0_14])), (y 2, .inr (1, [.int py2_0, .int py2_1, .int py2_2, .int py2_3, .int py2_4, .int py2_5, .ref (y 3), .ref (y 4), .ref (y 5), .ref (y 6), .ref (y 7), .ref (y 8), .ref (y 9), .int py2_13, .int py2_14, .int py2_15, .int py2_16, .int py2_17])), (y 3, aI V 4 fy3), (y 9, aI V 900 fy9), (y 19, .inr (4, [.ref (y 2), .ref (y 20), .ref (y 21), .ref (y 22), .ref (y 23), .ref (y 24)])), (y 20, aI V 2000 f_9), (y 21, aI V 6 f_10), (y 22, aI V 64 f_11), (y 25, .inr (0, [.int v_4, .int v_5]))]) [0, 8, 1, 2, 3, 4, 5, 6, 7] rfl rfl
      exact fiI hx hb hr hlk hK hP hD hS dX9_bare_53 (Nat.le_of_ble_eq_true rfl) (Nat.le_of_ble_eq_true rfl) (⟨f_9, f_10, f_11, v_4, v_5, tf_9, (iv_w b_15 (by decide)), knn_12, rfl⟩)
theorem dJ7_fill_53178_0 : decode cJ7_fill_53178 0 = .ok (.iconst 0, 1) := by decide +kernel
theorem dJ7_fill_53178_1 : decode cJ7_fill_53178 1 = .ok (.istore_n 2, 1) := by decide +kernel
theorem dJ7_fill_53178_2 : decode cJ7_fill_53178 2 = .ok (.aload_n 0, 1) := by decide +kernel
theorem dJ7_fill_53178_3 : decode cJ7_fill_53178 3 = .ok (.arraylength, 1) := by decide +kernel
theorem dJ7_fill_53178_4 : decode cJ7_fill_53178 4 = .ok (.istore_n 3, 1) := by decide +kernel
theorem dJ7_fill_53178_5 : decode cJ7_fill_53178 5 = .ok (.iload_n 2, 1) := by decide +kernel
theorem dJ7_fill_53178_6 : decode cJ7_fill_53178 6 = .ok (.iload_n 3, 1) := by decide +kernel
theorem dJ7_fill_53178_7 : decode cJ7_fill_53178 7 = .ok (.if_icmp .ge 13, 3) := by decide +kernel
theorem dJ7_fill_53178_20 : decode cJ7_fill_53178 20 = .ok (.return_, 1) := by decide +kernel
theorem dJ7_fill_53178_10 : decode cJ7_fill_53178 10 = .ok (.aload_n 0, 1) := by decide +kernel
theorem dJ7_fill_53178_11 : decode cJ7_fill_53178 11 = .ok (.iload_n 2, 1) := by decide +kernel
theorem dJ7_fill_53178_12 : decode cJ7_fill_53178 12 = .ok (.iload_n 1, 1) := by decide +kernel
theorem dJ7_fill_53178_13 : decode cJ7_fill_53178 13 = .ok (.iastore, 1) := by decide +kernel
theorem dJ7_fill_53178_14 : decode cJ7_fill_53178 14 = .ok (.iinc 2 1, 3) := by decide +kernel
theorem dJ7_fill_53178_17 : decode cJ7_fill_53178 17 = .ok (.goto (-12), 3) := by decide +kernel
set_option maxHeartbeats 4000000 in
set_option maxRecDepth 100000 in
theorem k_J7_fill_53178_0 (l : Launch) (V : GV) (y : Nat → Nat) (a1 : Int32) (fy20 : Nat → Int32) (fy23 : Nat → Int32) (ba1 : iv 0 0 a1) (tfy20 : ∀ j, iv 0 10 (fy20 j)) : Ct l V yJ7_fill_53178 (.code yJ7_fill_53178 cJ7_fill_53178 4 none) 1 [.ref (y 23), .int a1] [(y 20, aI V 2000 fy20), (y 23, aI V 10 fy23)] 0 0 (QV V (fun (w : va_W) => ∃ (g0 : Nat → Int32), w = [(y 20, aI V 2000 fy20), (y 23, aI V 10 g0)])) := by
  refine Ct.of (by decide) (Nat.le_of_ble_eq_true rfl) (fun p e s m below meth c A ls hx hb hr hml hown hlk hnm hg hP hK hD hE hA hS hl => ?_)
  have hl : lv_has ls 4 [(0, .ref (y 23)), (1, .int a1)] := hl
  refine lv_iconst (v := 0) hx hb dJ7_fill_53178_0 (by decide) ?_
  refine lv_istore_n (lv' := [(2, .int 0), (0, .ref (y 23)), (1, .int a1)]) hx hb dJ7_fill_53178_1 rfl hl (by decide) rfl (fun ls hl => ?_)
  refine lv_aload_n hx hb dJ7_fill_53178_2 rfl (lv_at hl 1 rfl) ?_
  refine va_alen (v := 10) hx hb hK hP 1 0 rfl rfl rfl dJ7_fill_53178_3 ?_
  refine lv_istore_n (lv' := [(3, .int 10), (2, .int 0), (0, .ref (y 23)), (1, .int a1)]) hx hb dJ7_fill_53178_4 rfl hl (by decide) rfl (fun ls hl => ?_)
  refine loopF (X := fun (n_3 : Nat) (H : Heap) (locs : List Loc) (ls : Array Slot) => ∃ (u_1 : Int32) (f_2 : Nat → Int32), (iv 0 2147483647 u_1) ∧ (True) ∧ n_3 = (2147483647 - (u_1 : Int32).toInt).toNat ∧ va_P V.1 vwCl [(y 20, aI V 2000 fy20), (y 23, aI V 10 f_2)] H ∧ va_D A [(y 20, aI V 2000 fy20), (y 23, aI V 10 f_2)] ∧ va_S A s.heap H locs ∧ lv_has ls 4 [(3, .int 10), (2, .int u_1), (0, .ref (y 23)), (1, .int a1)]) (g := fun ls => F0 m 5 ls []) (fun n_3 H locs ls hX ihn_3 => ?_) _ ⟨0, fy23, (iv_c (0 : Int32) (by decide)), trivial, rfl, hP, hD, hS, lv_sub hl [0, 1, 2, 3] rfl⟩
  obtain ⟨u_1, f_2, bu_1, inn_3_0, en_3, hP, hD, hS, hl⟩ := hX
  refine lv_iload_n hx hb dJ7_fill_53178_5 rfl (lv_at hl 1 rfl) ?_
  refine lv_iload_n hx hb dJ7_fill_53178_6 rfl (lv_at hl 0 rfl) ?_
  refine lv_icmp_ge (tgt := 20) hx hb dJ7_fill_53178_7 (by decide) (fun c_4 => ?_) (fun c_4 => ?_)
  · have b_5 : iv 10 2147483647 u_1 := iv_e2 c_4 (iv_c (10 : Int32) (a := 10) (b := 10) (by decide)) bu_1 (by decide)
    exact fiV hx hb hr hlk hK hP hD hS dJ7_fill_53178_20 (Nat.le_of_ble_eq_true rfl) (Nat.le_of_ble_eq_true rfl) (⟨f_2, rfl⟩)
  · have b_6 : iv 0 9 u_1 := iv_l1 (Int32.not_le.mp c_4) bu_1 (iv_c (10 : Int32) (a := 10) (b := 10) (by decide)) (by decide)
    refine lv_aload_n hx hb dJ7_fill_53178_10 rfl (lv_at hl 2 rfl) ?_
    refine lv_iload_n hx hb dJ7_fill_53178_11 rfl (lv_at hl 1 rfl) ?_
    refine lv_iload_n hx hb dJ7_fill_53178_12 rfl (lv_at hl 3 rfl) ?_
    refine va_iast hx hb hK hP hD hS 1 0 rfl rfl (iv_in b_6 (by decide)) dJ7_fill_53178_13 (fun H locs hP hD hS => ?_)
    obtain ⟨f_7, hP, hD⟩ : ∃ f_7 : Nat → Int32, va_P V.1 vwCl [(y 20, aI V 2000 fy20), (y 23, aI V 10 f_7)] H ∧ va_D A [(y 20, aI V 2000 fy20), (y 23, aI V 10 f_7)] := ⟨_, hP, hD⟩
    obtain ⟨x_8, ex_8⟩ : ∃ z9 : Int32, z9 = u_1 + 1 := ⟨_, rfl⟩
    have bx_8 : iv 1 10 x_8 := by rw [ex_8]; exact iv_add b_6 (iv_c (1 : Int32) (a := 1) (b := 1) (by decide)) (by decide)
    refine lv_iinc (v := x_8) (lv' := [(2, .int x_8), (3, .int 10), (0, .ref (y 23)), (1, .int a1)]) hx hb dJ7_fill_53178_14 hl (k := 1) rfl (by rw [ex_8]; rfl) (by decide) rfl (fun ls hl => ?_)
    refine lv_goto (tgt := 5) hx hb dJ7_fill_53178_17 (by decide) ?_
    exact ihn_3 _ _ _ _ (by rw [en_3, ex_8]; exact mu_up b_6 (by decide)) ⟨x_8, f_7, (iv_w bx_8 (by decide)), trivial, rfl, hP, hD, hS, lv_sub hl [1, 0, 2, 3] rfl⟩
set_option maxHeartbeats 4000000 in
set_option maxRecDepth 100000 in
theorem k_J7_fill_53178_1 (l : Launch) (V : GV) (y : Nat → Nat) (a1 : Int32) (fy24 : Nat → Int32) (fy20 : Nat → Int32) (ba1 : iv 0 0 a1) (tfy20 : ∀ j, iv 0 10 (fy20 j)) : Ct l V yJ7_fill_53178 (.code yJ7_fill_53178 cJ7_fill_53178 4 none) 1 [.ref (y 24), .int a1] [(y 24, aI V 10 fy24), (y 20, aI V 2000 fy20)] 0 0 (QV V (fun (w : va_W) => ∃ (g0 : Nat → Int32), w = [(y 24, aI V 10 g0), (y 20, aI V 2000 fy20)])) := by
  refine Ct.of (by decide) (Nat.le_of_ble_eq_true rfl) (fun p e s m below meth c A ls hx hb hr hml hown hlk hnm hg hP hK hD hE hA hS hl => ?_)
  have hl : lv_has ls 4 [(0, .ref (y 24)), (1, .int a1)] := hl
  refine lv_iconst (v := 0) hx hb dJ7_fill_53178_0 (by decide) ?_
  refine lv_istore_n (lv' := [(2, .int 0), (0, .ref (y 24)), (1, .int a1)]) hx hb dJ7_fill_53178_1 rfl hl (by decide) rfl (fun ls hl => ?_)
  refine lv_aload_n hx hb dJ7_fill_53178_2 rfl (lv_at hl 1 rfl) ?_
  refine va_alen (v := 10) hx hb hK hP 0 0 rfl rfl rfl dJ7_fill_53178_3 ?_
  refine lv_istore_n (lv' := [(3, .int 10), (2, .int 0), (0, .ref (y 24)), (1, .int a1)]) hx hb dJ7_fill_53178_4 rfl hl (by decide) rfl (fun ls hl => ?_)
  refine loopF (X := fun (n_3 : Nat) (H : Heap) (locs : List Loc) (ls : Array Slot) => ∃ (u_1 : Int32) (f_2 : Nat → Int32), (iv 0 2147483647 u_1) ∧ (True) ∧ n_3 = (2147483647 - (u_1 : Int32).toInt).toNat ∧ va_P V.1 vwCl [(y 24, aI V 10 f_2), (y 20, aI V 2000 fy20)] H ∧ va_D A [(y 24, aI V 10 f_2), (y 20, aI V 2000 fy20)] ∧ va_S A s.heap H locs ∧ lv_has ls 4 [(3, .int 10), (2, .int u_1), (0, .ref (y 24)), (1, .int a1)]) (g := fun ls => F0 m 5 ls []) (fun n_3 H locs ls hX ihn_3 => ?_) _ ⟨0, fy24, (iv_c (0 : Int32) (by decide)), trivial, rfl, hP, hD, hS, lv_sub hl [0, 1, 2, 3] rfl⟩
  obtain ⟨u_1, f_2, bu_1, inn_3_0, en_3, hP, hD, hS, hl⟩ := hX
  refine lv_iload_n hx hb dJ7_fill_53178_5 rfl (lv_at hl 1 rfl) ?_
  refine lv_iload_n hx hb dJ7_fill_53178_6 rfl (lv_at hl 0 rfl) ?_
  refine lv_icmp_ge (tgt := 20) hx hb dJ7_fill_53178_7 (by decide) (fun c_4 => ?_) (fun c_4 => ?_)
  · have b_5 : iv 10 2147483647 u_1 := iv_e2 c_4 (iv_c (10 : Int32) (a := 10) (b := 10) (by decide)) bu_1 (by decide)
    exact fiV hx hb hr hlk hK hP hD hS dJ7_fill_53178_20 (Nat.le_of_ble_eq_true rfl) (Nat.le_of_ble_eq_true rfl) (⟨f_2, rfl⟩)
  · have b_6 : iv 0 9 u_1 := iv_l1 (Int32.not_le.mp c_4) bu_1 (iv_c (10 : Int32) (a := 10) (b := 10) (by decide)) (by decide)
    refine lv_aload_n hx hb dJ7_fill_53178_10 rfl (lv_at hl 2 rfl) ?_
    refine lv_iload_n hx hb dJ7_fill_53178_11 rfl (lv_at hl 1 rfl) ?_
    refine lv_iload_n hx hb dJ7_fill_53178_12 rfl (lv_at hl 3 rfl) ?_
    refine va_iast hx hb hK hP hD hS 0 0 rfl rfl (iv_in b_6 (by decide)) dJ7_fill_53178_13 (fun H locs hP hD hS => ?_)
    obtain ⟨f_7, hP, hD⟩ : ∃ f_7 : Nat → Int32, va_P V.1 vwCl [(y 24, aI V 10 f_7), (y 20, aI V 2000 fy20)] H ∧ va_D A [(y 24, aI V 10 f_7), (y 20, aI V 2000 fy20)] := ⟨_, hP, hD⟩
    obtain ⟨x_8, ex_8⟩ : ∃ z9 : Int32, z9 = u_1 + 1 := ⟨_, rfl⟩
    have bx_8 : iv 1 10 x_8 := by rw [ex_8]; exact iv_add b_6 (iv_c (1 : Int32) (a := 1) (b := 1) (by decide)) (by decide)
    refine lv_iinc (v := x_8) (lv' := [(2, .int x_8), (3, .int 10), (0, .ref (y 24)), (1, .int a1)]) hx hb dJ7_fill_53178_14 hl (k := 1) rfl (by rw [ex_8]; rfl) (by decide) rfl (fun ls hl => ?_)
    refine lv_goto (tgt := 5) hx hb dJ7_fill_53178_17 (by decide) ?_
    exact ihn_3 _ _ _ _ (by rw [en_3, ex_8]; exact mu_up b_6 (by decide)) ⟨x_8, f_7, (iv_w bx_8 (by decide)), trivial, rfl, hP, hD, hS, lv_sub hl [1, 0, 2, 3] rfl⟩
theorem dX4_howManyStay_0 : decode cX4_howManyStay 0 = .ok (.aload_n 0, 1) := by decide +kernel
theorem q_1_175 : Cond.fieldLink "BeaconDelay$Laws" 21 "BeaconDelay$Laws" "staying" "[I" ∈ gw := gw_1 (i := 175) (by decide +kernel) rfl
theorem dX4_howManyStay_1 : decode cX4_howManyStay 1 = .ok (.getfield 21, 3) := by decide +kernel
theorem dX4_howManyStay_4 : decode cX4_howManyStay 4 = .ok (.iconst 0, 1) := by decide +kernel
theorem q_3_109 : Cond.code yJ7_fill_53178 prog_20_method_103_code 4 none ∈ gw := gw_3 (i := 109) (rfl) rfl
theorem q_1_17 : Cond.initialized "java/util/Arrays" ∈ gw := gw_1 (i := 17) (by decide +kernel) rfl
theorem q_3_108 : Cond.static yJ7_fill_53178 ∈ gw := gw_3 (i := 108) (by decide +kernel) rfl
theorem mt_J7_fill_53178 : MtS yJ7_fill_53178 cJ7_fill_53178 4 none 2 := ⟨⟨q_3_109, q_1_17, by decide +kernel, by decide +kernel, by decide +kernel⟩, q_3_108⟩
theorem q_3_107 : Cond.methodLink "BeaconDelay$Laws" 31 yJ7_fill_53178 ∈ gw := gw_3 (i := 107) (by decide +kernel) rfl
theorem dX4_howManyStay_5 : decode cX4_howManyStay 5 = .ok (.invokestatic 31, 3) := by decide +kernel
theorem dX4_howManyStay_8 : decode cX4_howManyStay 8 = .ok (.aload_n 0, 1) := by decide +kernel
theorem dX4_howManyStay_9 : decode cX4_howManyStay 9 = .ok (.getfield 21, 3) := by decide +kernel
theorem dX4_howManyStay_12 : decode cX4_howManyStay 12 = .ok (.iconst 0, 1) := by decide +kernel
theorem dX4_howManyStay_13 : decode cX4_howManyStay 13 = .ok (.iconst 1, 1) := by decide +kernel
theorem dX4_howManyStay_14 : decode cX4_howManyStay 14 = .ok (.iastore, 1) := by decide +kernel
theorem dX4_howManyStay_15 : decode cX4_howManyStay 15 = .ok (.iconst 1, 1) := by decide +kernel
theorem dX4_howManyStay_16 : decode cX4_howManyStay 16 = .ok (.istore_n 2, 1) := by decide +kernel
theorem dX4_howManyStay_17 : decode cX4_howManyStay 17 = .ok (.iconst 0, 1) := by decide +kernel
theorem dX4_howManyStay_18 : decode cX4_howManyStay 18 = .ok (.istore_n 3, 1) := by decide +kernel
theorem dX4_howManyStay_19 : decode cX4_howManyStay 19 = .ok (.iload_n 3, 1) := by decide +kernel
theorem dX4_howManyStay_20 : decode cX4_howManyStay 20 = .ok (.aload_n 0, 1) := by decide +kernel
theorem dX4_howManyStay_21 : decode cX4_howManyStay 21 = .ok (.getfield 27, 3) := by decide +kernel
theorem dX4_howManyStay_24 : decode cX4_howManyStay 24 = .ok (.getfield 37, 3) := by decide +kernel
theorem dX4_howManyStay_27 : decode cX4_howManyStay 27 = .ok (.if_icmp .ge 124, 3) := by decide +kernel
theorem dX4_howManyStay_151 : decode cX4_howManyStay 151 = .ok (.iload_n 2, 1) := by decide +kernel
theorem dX4_howManyStay_152 : decode cX4_howManyStay 152 = .ok (.ireturn, 1) := by decide +kernel
theorem dX4_howManyStay_30 : decode cX4_howManyStay 30 = .ok (.aload_n 0, 1) := by decide +kernel
theorem q_1_176 : Cond.fieldLink "BeaconDelay$Laws" 24 "BeaconDelay$Laws" "stayingEast" "[I" ∈ gw := gw_1 (i := 176) (by decide +kernel) rfl
theorem dX4_howManyStay_31 : decode cX4_howManyStay 31 = .ok (.getfield 24, 3) := by decide +kernel
theorem dX4_howManyStay_34 : decode cX4_howManyStay 34 = .ok (.iconst 0, 1) := by decide +kernel
theorem dX4_howManyStay_35 : decode cX4_howManyStay 35 = .ok (.invokestatic 31, 3) := by decide +kernel
theorem dX4_howManyStay_38 : decode cX4_howManyStay 38 = .ok (.iconst 0, 1) := by decide +kernel
theorem dX4_howManyStay_39 : decode cX4_howManyStay 39 = .ok (.istore_n 2, 1) := by decide +kernel
theorem dX4_howManyStay_40 : decode cX4_howManyStay 40 = .ok (.iconst 0, 1) := by decide +kernel
theorem dX4_howManyStay_41 : decode cX4_howManyStay 41 = .ok (.istore 4, 2) := by decide +kernel
theorem dX4_howManyStay_43 : decode cX4_howManyStay 43 = .ok (.iload 4, 2) := by decide +kernel
theorem dX4_howManyStay_45 : decode cX4_howManyStay 45 = .ok (.bipush 100, 2) := by decide +kernel
theorem dX4_howManyStay_47 : decode cX4_howManyStay 47 = .ok (.if_icmp .ge 83, 3) := by decide +kernel
theorem dX4_howManyStay_130 : decode cX4_howManyStay 130 = .ok (.aload_n 0, 1) := by decide +kernel
theorem dX4_howManyStay_131 : decode cX4_howManyStay 131 = .ok (.getfield 24, 3) := by decide +kernel
theorem dX4_howManyStay_134 : decode cX4_howManyStay 134 = .ok (.iconst 0, 1) := by decide +kernel
theorem dX4_howManyStay_135 : decode cX4_howManyStay 135 = .ok (.aload_n 0, 1) := by decide +kernel
theorem dX4_howManyStay_136 : decode cX4_howManyStay 136 = .ok (.getfield 21, 3) := by decide +kernel
theorem dX4_howManyStay_139 : decode cX4_howManyStay 139 = .ok (.iconst 0, 1) := by decide +kernel
theorem dX4_howManyStay_140 : decode cX4_howManyStay 140 = .ok (.bipush 10, 2) := by decide +kernel
theorem q_4_44 : Cond.methodLink "BeaconDelay$Laws" 91 arraycopyName ∈ gw := gw_4 (i := 44) (by decide +kernel) rfl
theorem dX4_howManyStay_142 : decode cX4_howManyStay 142 = .ok (.invokestatic 91, 3) := by decide +kernel
theorem dX4_howManyStay_145 : decode cX4_howManyStay 145 = .ok (.iinc 3 1, 3) := by decide +kernel
theorem dX4_howManyStay_148 : decode cX4_howManyStay 148 = .ok (.goto (-129), 3) := by decide +kernel
theorem dX4_howManyStay_50 : decode cX4_howManyStay 50 = .ok (.iload 4, 2) := by decide +kernel
theorem dX4_howManyStay_52 : decode cX4_howManyStay 52 = .ok (.bipush 10, 2) := by decide +kernel
theorem dX4_howManyStay_54 : decode cX4_howManyStay 54 = .ok (.idiv, 1) := by decide +kernel
theorem dX4_howManyStay_55 : decode cX4_howManyStay 55 = .ok (.istore 5, 2) := by decide +kernel
theorem dX4_howManyStay_57 : decode cX4_howManyStay 57 = .ok (.iload 4, 2) := by decide +kernel
theorem dX4_howManyStay_59 : decode cX4_howManyStay 59 = .ok (.bipush 10, 2) := by decide +kernel
theorem dX4_howManyStay_61 : decode cX4_howManyStay 61 = .ok (.irem, 1) := by decide +kernel
theorem dX4_howManyStay_62 : decode cX4_howManyStay 62 = .ok (.istore 6, 2) := by decide +kernel
theorem dX4_howManyStay_64 : decode cX4_howManyStay 64 = .ok (.aload_n 0, 1) := by decide +kernel
theorem dX4_howManyStay_65 : decode cX4_howManyStay 65 = .ok (.getfield 21, 3) := by decide +kernel
theorem dX4_howManyStay_68 : decode cX4_howManyStay 68 = .ok (.iload 5, 2) := by decide +kernel
theorem dX4_howManyStay_70 : decode cX4_howManyStay 70 = .ok (.iaload, 1) := by decide +kernel
theorem dX4_howManyStay_71 : decode cX4_howManyStay 71 = .ok (.ifCond .eq 53, 3) := by decide +kernel
theorem dX4_howManyStay_124 : decode cX4_howManyStay 124 = .ok (.iinc 4 1, 3) := by decide +kernel
theorem dX4_howManyStay_127 : decode cX4_howManyStay 127 = .ok (.goto (-84), 3) := by decide +kernel
theorem dX4_howManyStay_74 : decode cX4_howManyStay 74 = .ok (.aload_n 0, 1) := by decide +kernel
theorem dX4_howManyStay_75 : decode cX4_howManyStay 75 = .ok (.iload_n 1, 1) := by decide +kernel
theorem dX4_howManyStay_76 : decode cX4_howManyStay 76 = .ok (.iload_n 3, 1) := by decide +kernel
theorem dX4_howManyStay_77 : decode cX4_howManyStay 77 = .ok (.iload 6, 2) := by decide +kernel
theorem dX4_howManyStay_79 : decode cX4_howManyStay 79 = .ok (.iconst 2, 1) := by decide +kernel
theorem dX4_howManyStay_80 : decode cX4_howManyStay 80 = .ok (.idiv, 1) := by decide +kernel
theorem dX4_howManyStay_81 : decode cX4_howManyStay 81 = .ok (.iload 5, 2) := by decide +kernel
theorem dX4_howManyStay_83 : decode cX4_howManyStay 83 = .ok (.iconst 2, 1) := by decide +kernel
theorem dX4_howManyStay_84 : decode cX4_howManyStay 84 = .ok (.idiv, 1) := by decide +kernel
theorem dX4_howManyStay_85 : decode cX4_howManyStay 85 = .ok (.iload 5, 2) := by decide +kernel
theorem dX4_howManyStay_87 : decode cX4_howManyStay 87 = .ok (.iconst 2, 1) := by decide +kernel
theorem dX4_howManyStay_88 : decode cX4_howManyStay 88 = .ok (.irem, 1) := by decide +kernel
theorem dX4_howManyStay_89 : decode cX4_howManyStay 89 = .ok (.invokevirtual 46, 3) := by decide +kernel
theorem dX4_howManyStay_92 : decode cX4_howManyStay 92 = .ok (.iload 6, 2) := by decide +kernel
theorem dX4_howManyStay_94 : decode cX4_howManyStay 94 = .ok (.if_icmp .ne 30, 3) := by decide +kernel
theorem dX4_howManyStay_97 : decode cX4_howManyStay 97 = .ok (.aload_n 0, 1) := by decide +kernel
theorem dX4_howManyStay_98 : decode cX4_howManyStay 98 = .ok (.getfield 24, 3) := by decide +kernel
theorem dX4_howManyStay_101 : decode cX4_howManyStay 101 = .ok (.iload 6, 2) := by decide +kernel
theorem dX4_howManyStay_103 : decode cX4_howManyStay 103 = .ok (.dup2, 1) := by decide +kernel
theorem dX4_howManyStay_104 : decode cX4_howManyStay 104 = .ok (.iaload, 1) := by decide +kernel
theorem dX4_howManyStay_105 : decode cX4_howManyStay 105 = .ok (.aload_n 0, 1) := by decide +kernel
theorem dX4_howManyStay_106 : decode cX4_howManyStay 106 = .ok (.getfield 21, 3) := by decide +kernel
theorem dX4_howManyStay_109 : decode cX4_howManyStay 109 = .ok (.iload 5, 2) := by decide +kernel
theorem dX4_howManyStay_111 : decode cX4_howManyStay 111 = .ok (.iaload, 1) := by decide +kernel
theorem dX4_howManyStay_112 : decode cX4_howManyStay 112 = .ok (.iadd, 1) := by decide +kernel
theorem dX4_howManyStay_113 : decode cX4_howManyStay 113 = .ok (.iastore, 1) := by decide +kernel
theorem dX4_howManyStay_114 : decode cX4_howManyStay 114 = .ok (.iload_n 2, 1) := by decide +kernel
theorem dX4_howManyStay_115 : decode cX4_howManyStay 115 = .ok (.aload_n 0, 1) := by decide +kernel
theorem dX4_howManyStay_116 : decode cX4_howManyStay 116 = .ok (.getfield 21, 3) := by decide +kernel
theorem dX4_howManyStay_119 : decode cX4_howManyStay 119 = .ok (.iload 5, 2) := by decide +kernel
theorem dX4_howManyStay_121 : decode cX4_howManyStay 121 = .ok (.iaload, 1) := by decide +kernel
theorem dX4_howManyStay_122 : decode cX4_howManyStay 122 = .ok (.iadd, 1) := by decide +kernel
theorem dX4_howManyStay_123 : decode cX4_howManyStay 123 = .ok (.istore_n 2, 1) := by decide +kernel
set_option maxHeartbeats 4000000 in
set_option maxRecDepth 100000 in
theorem k_X4_howManyStay_0 (l : Launch) (V : GV) (y : Nat → Nat) (D9 : Nat → Int32) (a1 : Int32) (py2_0 : Int32) (py2_1 : Int32) (py2_2 : Int32) (py2_3 : Int32) (py2_4 : Int32) (py2_5 : Int32) (py2_13 : Int32) (py2_14 : Int32) (py2_15 : Int32) (py2_16 : Int32) (py2_17 : Int32) (fy3 : Nat → Int32) (fy9 : Nat → Int32) (fy20 : Nat → Int32) (fy21 : Nat → Int32) (fy22 : Nat → Int32) (fy23 : Nat → Int32) (fy24 : Nat → Int32) (ba1 : iv 0 9 a1) (bpy2_1 : iv 0 4 py2_1) (bpy2_2 : iv 0 4 py2_2) (bpy2_3 : iv 0 8 py2_3) (bpy2_4 : iv 0 9999 py2_4) (bpy2_5 : iv 0 9 py2_5) (bpy2_13 : iv 0 900 py2_13) (bpy2_14 : iv 0 900 py2_14) (bpy2_15 : iv 0 900 py2_15) (bpy2_16 : iv 0 900 py2_16) (bpy2_17 : iv 0 900 py2_17) (tfy20 : ∀ j, iv 0 10 (fy20 j)) (hL9 : LW D9 fy3 fy9 py2_14 py2_15 py2_16 py2_17) (hK9 : KN D9 fy20) : Ct l V yX4_howManyStay (.code yX4_howManyStay cX4_howManyStay 7 (some .int)) 5 [.ref (y 19), .int a1] [(y 2, .inr (1, [.int py2_0, .int py2_1, .int py2_2, .int py2_3, .int py2_4, .int py2_5, .ref (y 3), .ref (y 4), .ref (y 5), .ref (y 6), .ref (y 7), .ref (y 8), .ref (y 9), .int py2_13, .int py2_14, .int py2_15, .int py2_16, .int py2_17])), (y 3, aI V 4 fy3), (y 9, aI V 900 fy9), (y 19, .inr (4, [.ref (y 2), .ref (y 20), .ref (y 21), .ref (y 22), .ref (y 23), .ref (y 24)])), (y 20, aI V 2000 fy20), (y 21, aI V 6 fy21), (y 22, aI V 64 fy22), (y 23, aI V 10 fy23), (y 24, aI V 10 fy24)] 0 0 (QI V (fun (r : Int32) (w : va_W) => ∃ (g0 : Nat → Int32) (g1 : Nat → Int32) (g2 : Nat → Int32) (g3 : Nat → Int32) (g4 : Nat → Int32), (∀ j, iv 0 10 (g0 j)) ∧ KN D9 g0 ∧ w = [(y 2, .inr (1, [.int py2_0, .int py2_1, .int py2_2, .int py2_3, .int py2_4, .int py2_5, .ref (y 3), .ref (y 4), .ref (y 5), .ref (y 6), .ref (y 7), .ref (y 8), .ref (y 9), .int py2_13, .int py2_14, .int py2_15, .int py2_16, .int py2_17])), (y 3, aI V 4 fy3), (y 9, aI V 900 fy9), (y 19, .inr (4, [.ref (y 2), .ref (y 20), .ref (y 21), .ref (y 22), .ref (y 23), .ref (y 24)])), (y 20, aI V 2000 g0), (y 21, aI V 6 g1), (y 22, aI V 64 g2), (y 23, aI V 10 g3), (y 24, aI V 10 g4)])) := by
  refine Ct.of (by decide) (Nat.le_of_ble_eq_true rfl) (fun p e s m below meth c A ls hx hb hr hml hown hlk hnm hg hP hK hD hE hA hS hl => ?_)
  have hl : lv_has ls 7 [(0, .ref (y 19)), (1, .int a1)] := hl
  refine lv_aload_n hx hb dX4_howManyStay_0 rfl (lv_at hl 0 rfl) ?_
  refine va_get (ci := 4) (v := .ref (y 23)) (C := RX4) (T := TX4) (N := 6) hx hb hg inX4 hown hK hP 3 rfl rfl 4 (by decide) (hg _ q_1_175) (fun _ h9 => h9) rfl dX4_howManyStay_1 ?_
  refine lv_iconst (v := 0) hx hb dX4_howManyStay_4 (by decide) ?_
  refine jnV (wr := [(y 2, .inr (1, [.int py2_0, .int py2_1, .int py2_2, .int py2_3, .int py2_4, .int py2_5, .ref (y 3), .ref (y 4), .ref (y 5), .ref (y 6), .ref (y 7), .ref (y 8), .ref (y 9), .int py2_13, .int py2_14, .int py2_15, .int py2_16, .int py2_17])), (y 3, aI V 4 fy3), (y 9, aI V 900 fy9), (y 19, .inr (4, [.ref (y 2), .ref (y 20), .ref (y 21), .ref (y 22), .ref (y 23), .ref (y 24)])), (y 21, aI V 6 fy21), (y 22, aI V 64 fy22), (y 24, aI V 10 fy24)]) (rnS (rest := []) ⟨hx, hb, hml, hown, hg⟩ (k_J7_fill_53178_0 l V y 0 fy20 fy23 (iv_c (0 : Int32) (by decide)) tfy20) mt_J7_fill_53178 q_3_107 ⟨Nat.le_of_ble_eq_true rfl, Nat.le_of_ble_eq_true rfl⟩ hK hP hD hS hA hE [4, 7] rfl rfl rfl hl.1 rfl (Nat.le_of_ble_eq_true rfl) dX4_howManyStay_5 ⟨Nat.le_of_ble_eq_true rfl, Nat.le_of_ble_eq_true rfl⟩) hP hD hS hA [4, 7] [0, 1, 2, 3, 5, 6, 8] rfl rfl rfl (by decide) (fun  w H locs hw hP hD hS => ?_)
  obtain ⟨f_1, rfl⟩ := hw
  have hP : va_P V.1 vwCl [(y 2, .inr (1, [.int py2_0, .int py2_1, .int py2_2, .int py2_3, .int py2_4, .int py2_5, .ref (y 3), .ref (y 4), .ref (y 5), .ref (y 6), .ref (y 7), .ref (y 8), .ref (y 9), .int py2_13, .int py2_14, .int py2_15, .int py2_16, .int py2_17])), (y 3, aI V 4 fy3), (y 9, aI V 900 fy9), (y 19, .inr (4, [.ref (y 2), .ref (y 20), .ref (y 21), .ref (y 22), .ref (y 23), .ref (y 24)])), (y 21, aI V 6 fy21), (y 22, aI V 64 fy22), (y 24, aI V 10 fy24), (y 20, aI V 2000 fy20), (y 23, aI V 10 f_1)] H := hP
  have hD : va_D A [(y 2, .inr (1, [.int py2_0, .int py2_1, .int py2_2, .int py2_3, .int py2_4, .int py2_5, .ref (y 3), .ref (y 4), .ref (y 5), .ref (y 6), .ref (y 7), .ref (y 8), .ref (y 9), .int py2_13, .int py2_14, .int py2_15, .int py2_16, .int py2_17])), (y 3, aI V 4 fy3), (y 9, aI V 900 fy9), (y 19, .inr (4, [.ref (y 2), .ref (y 20), .ref (y 21), .ref (y 22), .ref (y 23), .ref (y 24)])), (y 21, aI V 6 fy21), (y 22, aI V 64 fy22), (y 24, aI V 10 fy24), (y 20, aI V 2000 fy20), (y 23, aI V 10 f_1)] := hD
  refine lv_aload_n hx hb dX4_howManyStay_8 rfl (lv_at hl 0 rfl) ?_
  refine va_get (ci := 4) (v := .ref (y 23)) (C := RX4) (T := TX4) (N := 6) hx hb hg inX4 hown hK hP 3 rfl rfl 4 (by decide) (hg _ q_1_175) (fun _ h9 => h9) rfl dX4_howManyStay_9 ?_
  refine lv_iconst (v := 0) hx hb dX4_howManyStay_12 (by decide) ?_
  refine lv_iconst (v := 1) hx hb dX4_howManyStay_13 (by decide) ?_
  refine va_iast hx hb hK hP hD hS 8 0 rfl rfl (vin (by decide +kernel)) dX4_howManyStay_14 (fun H locs hP hD hS => ?_)
  obtain ⟨f_2, hP, hD⟩ : ∃ f_2 : Nat → Int32, va_P V.1 vwCl [(y 2, .inr (1, [.int py2_0, .int py2_1, .int py2_2, .int py2_3, .int py2_4, .int py2_5, .ref (y 3), .ref (y 4), .ref (y 5), .ref (y 6), .ref (y 7), .ref (y 8), .ref (y 9), .int py2_13, .int py2_14, .int py2_15, .int py2_16, .int py2_17])), (y 3, aI V 4 fy3), (y 9, aI V 900 fy9), (y 19, .inr (4, [.ref (y 2), .ref (y 20), .ref (y 21), .ref (y 22), .ref (y 23), .ref (y 24)])), (y 21, aI V 6 fy21), (y 22, aI V 64 fy22), (y 24, aI V 10 fy24), (y 20, aI V 2000 fy20), (y 23, aI V 10 f_2)] H ∧ va_D A [(y 2, .inr (1, [.int py2_0, .int py2_1, .int py2_2, .int py2_3, .int py2_4, .int py2_5, .ref (y 3), .ref (y 4), .ref (y 5), .ref (y 6), .ref (y 7), .ref (y 8), .ref (y 9), .int py2_13, .int py2_14, .int py2_15, .int py2_16, .int py2_17])), (y 3, aI V 4 fy3), (y 9, aI V 900 fy9), (y 19, .inr (4, [.ref (y 2), .ref (y 20), .ref (y 21), .ref (y 22), .ref (y 23), .ref (y 24)])), (y 21, aI V 6 fy21), (y 22, aI V 64 fy22), (y 24, aI V 10 fy24), (y 20, aI V 2000 fy20), (y 23, aI V 10 f_2)] := ⟨_, hP, hD⟩
  refine lv_iconst (v := 1) hx hb dX4_howManyStay_15 (by decide) ?_
  refine lv_istore_n (lv' := [(2, .int 1), (0, .ref (y 19)), (1, .int a1)]) hx hb dX4_howManyStay_16 rfl hl (by decide) rfl (fun ls hl => ?_)
  refine lv_iconst (v := 0) hx hb dX4_howManyStay_17 (by decide) ?_
  refine lv_istore_n (lv' := [(3, .int 0), (2, .int 1), (0, .ref (y 19)), (1, .int a1)]) hx hb dX4_howManyStay_18 rfl hl (by decide) rfl (fun ls hl => ?_)
  refine loopF (X := fun (n_10 : Nat) (H : Heap) (locs : List Loc) (ls : Array Slot) => ∃ (u_3 : Int32) (u_4 : Int32) (f_5 : Nat → Int32) (f_6 : Nat → Int32) (f_7 : Nat → Int32) (f_8 : Nat → Int32) (f_9 : Nat → Int32), (iv 0 2147483647 u_3) ∧ (∀ j, iv 0 10 (f_8 j)) ∧ KN D9 f_8 ∧ n_10 = (2147483647 - (u_3 : Int32).toInt).toNat ∧ va_P V.1 vwCl [(y 2, .inr (1, [.int py2_0, .int py2_1, .int py2_2, .int py2_3, .int py2_4, .int py2_5, .ref (y 3), .ref (y 4), .ref (y 5), .ref (y 6), .ref (y 7), .ref (y 8), .ref (y 9), .int py2_13, .int py2_14, .int py2_15, .int py2_16, .int py2_17])), (y 3, aI V 4 fy3), (y 9, aI V 900 fy9), (y 19, .inr (4, [.ref (y 2), .ref (y 20), .ref (y 21), .ref (y 22), .ref (y 23), .ref (y 24)])), (y 21, aI V 6 f_5), (y 22, aI V 64 f_6), (y 24, aI V 10 f_7), (y 20, aI V 2000 f_8), (y 23, aI V 10 f_9)] H ∧ va_D A [(y 2, .inr (1, [.int py2_0, .int py2_1, .int py2_2, .int py2_3, .int py2_4, .int py2_5, .ref (y 3), .ref (y 4), .ref (y 5), .ref (y 6), .ref (y 7), .ref (y 8), .ref (y 9), .int py2_13, .int py2_14, .int py2_15, .int py2_16, .int py2_17])), (y 3, aI V 4 fy3), (y 9, aI V 900 fy9), (y 19, .inr (4, [.ref (y 2), .ref (y 20), .ref (y 21), .ref (y 22), .ref (y 23), .ref (y 24)])), (y 21, aI V 6 f_5), (y 22, aI V 64 f_6), (y 24, aI V 10 f_7), (y 20, aI V 2000 f_8), (y 23, aI V 10 f_9)] ∧ va_S A s.heap H locs ∧ lv_has ls 7 [(3, .int u_3), (2, .int u_4), (0, .ref (y 19)), (1, .int a1)]) (g := fun ls => F0 m 19 ls []) (fun n_10 H locs ls hX ihn_10 => ?_) _ ⟨0, 1, fy21, fy22, fy24, fy20, f_2, (iv_c (0 : Int32) (by decide)), tfy20, hK9, rfl, hP, hD, hS, lv_sub hl [0, 1, 2, 3] rfl⟩
  obtain ⟨u_3, u_4, f_5, f_6, f_7, f_8, f_9, bu_3, tf_8, knn_10, en_10, hP, hD, hS, hl⟩ := hX
  refine lv_iload_n hx hb dX4_howManyStay_19 rfl (lv_at hl 0 rfl) ?_
  refine lv_aload_n hx hb dX4_howManyStay_20 rfl (lv_at hl 2 rfl) ?_
  refine va_get (ci := 4) (v := .ref (y 2)) (C := RX4) (T := TX4) (N := 6) hx hb hg inX4 hown hK hP 3 rfl rfl 0 (by decide) (hg _ q_1_171) (fun _ h9 => h9) rfl dX4_howManyStay_21 ?_
  refine va_get (ci := 1) (v := .int py2_1) (C := RX1) (T := TX1) (N := 18) hx hb hg inX1 hown hK hP 0 rfl rfl 1 (by decide) (hg _ q_1_39) (fun _ h9 => h9) rfl dX4_howManyStay_24 ?_
  refine lv_icmp_ge (tgt := 151) hx hb dX4_howManyStay_27 (by decide) (fun c_11 => ?_) (fun c_11 => ?_)
  · refine lv_iload_n hx hb dX4_howManyStay_151 rfl (lv_at hl 1 rfl) ?_
    have hP := subP (ws' := [(y 2, .inr (1, [.int py2_0, .int py2_1, .int py2_2, .int py2_3, .int py2_4, .int py2_5, .ref (y 3), .ref (y 4), .ref (y 5), .ref (y 6), .ref (y 7), .ref (y 8), .ref (y 9), .int py2_13, .int py2_14, .int py2_15, .int py2_16, .int py2_17])), (y 3, aI V 4 fy3), (y 9, aI V 900 fy9), (y 19, .inr (4, [.ref (y 2), .ref (y 20), .ref (y 21), .ref (y 22), .ref (y 23), .ref (y 24)])), (y 20, aI V 2000 f_8), (y 21, aI V 6 f_5), (y 22, aI V 64 f_6), (y 23, aI V 10 f_9), (y 24, aI V 10 f_7)]) hP [0, 1, 2, 3, 7, 4, 5, 8, 6] rfl
    have hD := hD.sub (ws' := [(y 2, .inr (1, [.int py2_0, .int py2_1, .int py2_2, .int py2_3, .int py2_4, .int py2_5, .ref (y 3), .ref (y 4), .ref (y 5), .ref (y 6), .ref (y 7), .ref (y 8), .ref (y 9), .int py2_13, .int py2_14, .int py2_15, .int py2_16, .int py2_17])), (y 3, aI V 4 fy3), (y 9, aI V 900 fy9), (y 19, .inr (4, [.ref (y 2), .ref (y 20), .ref (y 21), .ref (y 22), .ref (y 23), .ref (y 24)])), (y 20, aI V 2000 f_8), (y 21, aI V 6 f_5), (y 22, aI V 64 f_6), (y 23, aI V 10 f_9), (y 24, aI V 10 f_7)]) [0, 1, 2, 3, 7, 4, 5, 8, 6] rfl rfl
    exact fiI hx hb hr hlk hK hP hD hS dX4_howManyStay_152 (Nat.le_of_ble_eq_true rfl) (Nat.le_of_ble_eq_true rfl) (⟨f_8, f_5, f_6, f_9, f_7, tf_8, knn_10, rfl⟩)
  · have b_12 : iv 0 3 u_3 := iv_l1 (Int32.not_le.mp c_11) bu_3 bpy2_1 (by decide)
    have b_13 : iv 1 4 py2_1 := iv_l2 (Int32.not_le.mp c_11) bu_3 bpy2_1 (by decide)
    refine lv_aload_n hx hb dX4_howManyStay_30 rfl (lv_at hl 2 rfl) ?_
    refine va_get (ci := 4) (v := .ref (y 24)) (C := RX4) (T := TX4) (N := 6) hx hb hg inX4 hown hK hP 3 rfl rfl 5 (by decide) (hg _ q_1_176) (fun _ h9 => h9) rfl dX4_howManyStay_31 ?_
    refine lv_iconst (v := 0) hx hb dX4_howManyStay_34 (by decide) ?_
    refine jnV (wr := [(y 2, .inr (1, [.int py2_0, .int py2_1, .int py2_2, .int py2_3, .int py2_4, .int py2_5, .ref (y 3), .ref (y 4), .ref (y 5), .ref (y 6), .ref (y 7), .ref (y 8), .ref (y 9), .int py2_13, .int py2_14, .int py2_15, .int py2_16, .int py2_17])), (y 3, aI V 4 fy3), (y 9, aI V 900 fy9), (y 19, .inr (4, [.ref (y 2), .ref (y 20), .ref (y 21), .ref (y 22), .ref (y 23), .ref (y 24)])), (y 21, aI V 6 f_5), (y 22, aI V 64 f_6), (y 23, aI V 10 f_9)]) (rnS (rest := []) ⟨hx, hb, hml, hown, hg⟩ (k_J7_fill_53178_1 l V y 0 f_7 f_8 (iv_c (0 : Int32) (by decide)) tf_8) mt_J7_fill_53178 q_3_107 ⟨Nat.le_of_ble_eq_true rfl, Nat.le_of_ble_eq_true rfl⟩ hK hP hD hS hA hE [6, 7] rfl rfl rfl hl.1 rfl (Nat.le_of_ble_eq_true rfl) dX4_howManyStay_35 ⟨Nat.le_of_ble_eq_true rfl, Nat.le_of_ble_eq_true rfl⟩) hP hD hS hA [6, 7] [0, 1, 2, 3, 4, 5, 8] rfl rfl rfl (by decide) (fun  w H locs hw hP hD hS => ?_)
    obtain ⟨f_14, rfl⟩ := hw
    have hP : va_P V.1 vwCl [(y 2, .inr (1, [.int py2_0, .int py2_1, .int py2_2, .int py2_3, .int py2_4, .int py2_5, .ref (y 3), .ref (y 4), .ref (y 5), .ref (y 6), .ref (y 7), .ref (y 8), .ref (y 9), .int py2_13, .int py2_14, .int py2_15, .int py2_16, .int py2_17])), (y 3, aI V 4 fy3), (y 9, aI V 900 fy9), (y 19, .inr (4, [.ref (y 2), .ref (y 20), .ref (y 21), .ref (y 22), .ref (y 23), .ref (y 24)])), (y 21, aI V 6 f_5), (y 22, aI V 64 f_6), (y 23, aI V 10 f_9), (y 24, aI V 10 f_14), (y 20, aI V 2000 f_8)] H := hP
    have hD : va_D A [(y 2, .inr (1, [.int py2_0, .int py2_1, .int py2_2, .int py2_3, .int py2_4, .int py2_5, .ref (y 3), .ref (y 4), .ref (y 5), .ref (y 6), .ref (y 7), .ref (y 8), .ref (y 9), .int py2_13, .int py2_14, .int py2_15, .int py2_16, .int py2_17])), (y 3, aI V 4 fy3), (y 9, aI V 900 fy9), (y 19, .inr (4, [.ref (y 2), .ref (y 20), .ref (y 21), .ref (y 22), .ref (y 23), .ref (y 24)])), (y 21, aI V 6 f_5), (y 22, aI V 64 f_6), (y 23, aI V 10 f_9), (y 24, aI V 10 f_14), (y 20, aI V 2000 f_8)] := hD
    refine lv_iconst (v := 0) hx hb dX4_howManyStay_38 (by decide) ?_
    refine lv_istore_n (lv' := [(2, .int 0), (3, .int u_3), (0, .ref (y 19)), (1, .int a1)]) hx hb dX4_howManyStay_39 rfl hl (by decide) rfl (fun ls hl => ?_)
    refine lv_iconst (v := 0) hx hb dX4_howManyStay_40 (by decide) ?_
    refine lv_istore (lv' := [(4, .int 0), (2, .int 0), (3, .int u_3), (0, .ref (y 19)), (1, .int a1)]) hx hb dX4_howManyStay_41 hl (by decide) rfl (fun ls hl => ?_)
    refine loopF (X := fun (n_21 : Nat) (H : Heap) (locs : List Loc) (ls : Array Slot) => ∃ (u_15 : Int32) (u_16 : Int32) (f_17 : Nat → Int32) (f_18 : Nat → Int32) (f_19 : Nat → Int32) (f_20 : Nat → Int32), (iv 0 2147483647 u_15) ∧ (∀ j, iv 0 10 (f_20 j)) ∧ KN D9 f_20 ∧ n_21 = (2147483647 - (u_15 : Int32).toInt).toNat ∧ va_P V.1 vwCl [(y 2, .inr (1, [.int py2_0, .int py2_1, .int py2_2, .int py2_3, .int py2_4, .int py2_5, .ref (y 3), .ref (y 4), .ref (y 5), .ref (y 6), .ref (y 7), .ref (y 8), .ref (y 9), .int py2_13, .int py2_14, .int py2_15, .int py2_16, .int py2_17])), (y 3, aI V 4 fy3), (y 9, aI V 900 fy9), (y 19, .inr (4, [.ref (y 2), .ref (y 20), .ref (y 21), .ref (y 22), .ref (y 23), .ref (y 24)])), (y 21, aI V 6 f_17), (y 22, aI V 64 f_18), (y 23, aI V 10 f_9), (y 24, aI V 10 f_19), (y 20, aI V 2000 f_20)] H ∧ va_D A [(y 2, .inr (1, [.int py2_0, .int py2_1, .int py2_2, .int py2_3, .int py2_4, .int py2_5, .ref (y 3), .ref (y 4), .ref (y 5), .ref (y 6), .ref (y 7), .ref (y 8), .ref (y 9), .int py2_13, .int py2_14, .int py2_15, .int py2_16, .int py2_17])), (y 3, aI V 4 fy3), (y 9, aI V 900 fy9), (y 19, .inr (4, [.ref (y 2), .ref (y 20), .ref (y 21), .ref (y 22), .ref (y 23), .ref (y 24)])), (y 21, aI V 6 f_17), (y 22, aI V 64 f_18), (y 23, aI V 10 f_9), (y 24, aI V 10 f_19), (y 20, aI V 2000 f_20)] ∧ va_S A s.heap H locs ∧ lv_has ls 7 [(4, .int u_15), (2, .int u_16), (3, .int u_3), (0, .ref (y 19)), (1, .int a1)]) (g := fun ls => F0 m 43 ls []) (fun n_21 H locs ls hX ihn_21 => ?_) _ ⟨0, 0, f_5, f_6, f_14, f_8, (iv_c (0 : Int32) (by decide)), tf_8, knn_10, rfl, hP, hD, hS, lv_sub hl [0, 1, 2, 3, 4] rfl⟩
    obtain ⟨u_15, u_16, f_17, f_18, f_19, f_20, bu_15, tf_20, knn_21, en_21, hP, hD, hS, hl⟩ := hX
    refine lv_iload hx hb dX4_howManyStay_43 (lv_at hl 0 rfl) ?_
    refine lv_bipush (v := 100) hx hb dX4_howManyStay_45 (by decide) ?_
    refine lv_icmp_ge (tgt := 130) hx hb dX4_howManyStay_47 (by decide) (fun c_22 => ?_) (fun c_22 => ?_)
    · have b_23 : iv 100 2147483647 u_15 := iv_e2 c_22 (iv_c (100 : Int32) (a := 100) (b := 100) (by decide)) bu_15 (by decide)
      refine lv_aload_n hx hb dX4_howManyStay_130 rfl (lv_at hl 3 rfl) ?_
      refine va_get (ci := 4) (v := .ref (y 24)) (C := RX4) (T := TX4) (N := 6) hx hb hg inX4 hown hK hP 3 rfl rfl 5 (by decide) (hg _ q_1_176) (fun _ h9 => h9) rfl dX4_howManyStay_131 ?_
      refine lv_iconst (v := 0) hx hb dX4_howManyStay_134 (by decide) ?_
      refine lv_aload_n hx hb dX4_howManyStay_135 rfl (lv_at hl 3 rfl) ?_
      refine va_get (ci := 4) (v := .ref (y 23)) (C := RX4) (T := TX4) (N := 6) hx hb hg inX4 hown hK hP 3 rfl rfl 4 (by decide) (hg _ q_1_175) (fun _ h9 => h9) rfl dX4_howManyStay_136 ?_
      refine lv_iconst (v := 0) hx hb dX4_howManyStay_139 (by decide) ?_
      refine lv_bipush (v := 10) hx hb dX4_howManyStay_140 (by decide) ?_
      refine va_copyi hx hb (hml.trans hl.1.symm) hown (hg _ q_4_44) (hg _ q_3_102) (hg _ q_3_101) (hg _ q_1_16) hK hP hD hS 7 6 0 0 rfl rfl rfl rfl rfl (by decide) (by decide) (by decide) (by decide) (by decide) (fun _ _ => rfl) (Nat.le_of_ble_eq_true rfl) (by decide +kernel) dX4_howManyStay_142 (fun H locs hP hD hS => ?_)
      obtain ⟨f_24, ef_24, hP, hD⟩ : ∃ f_24 : Nat → Int32, f_24 = va_cpy f_19 f_9 (0 : Int32).toNatClampNeg (0 : Int32).toNatClampNeg (10 : Int32).toNatClampNeg ∧ va_P V.1 vwCl [(y 2, .inr (1, [.int py2_0, .int py2_1, .int py2_2, .int py2_3, .int py2_4, .int py2_5, .ref (y 3), .ref (y 4), .ref (y 5), .ref (y 6), .ref (y 7), .ref (y 8), .ref (y 9), .int py2_13, .int py2_14, .int py2_15, .int py2_16, .int py2_17])), (y 3, aI V 4 fy3), (y 9, aI V 900 fy9), (y 19, .inr (4, [.ref (y 2), .ref (y 20), .ref (y 21), .ref (y 22), .ref (y 23), .ref (y 24)])), (y 21, aI V 6 f_17), (y 22, aI V 64 f_18), (y 23, aI V 10 f_24), (y 24, aI V 10 f_19), (y 20, aI V 2000 f_20)] H ∧ va_D A [(y 2, .inr (1, [.int py2_0, .int py2_1, .int py2_2, .int py2_3, .int py2_4, .int py2_5, .ref (y 3), .ref (y 4), .ref (y 5), .ref (y 6), .ref (y 7), .ref (y 8), .ref (y 9), .int py2_13, .int py2_14, .int py2_15, .int py2_16, .int py2_17])), (y 3, aI V 4 fy3), (y 9, aI V 900 fy9), (y 19, .inr (4, [.ref (y 2), .ref (y 20), .ref (y 21), .ref (y 22), .ref (y 23), .ref (y 24)])), (y 21, aI V 6 f_17), (y 22, aI V 64 f_18), (y 23, aI V 10 f_24), (y 24, aI V 10 f_19), (y 20, aI V 2000 f_20)] := ⟨_, rfl, hP, hD⟩
      obtain ⟨x_25, ex_25⟩ : ∃ z9 : Int32, z9 = u_3 + 1 := ⟨_, rfl⟩
      have bx_25 : iv 1 4 x_25 := by rw [ex_25]; exact iv_add b_12 (iv_c (1 : Int32) (a := 1) (b := 1) (by decide)) (by decide)
      refine lv_iinc (v := x_25) (lv' := [(3, .int x_25), (4, .int u_15), (2, .int u_16), (0, .ref (y 19)), (1, .int a1)]) hx hb dX4_howManyStay_145 hl (k := 2) rfl (by rw [ex_25]; rfl) (by decide) rfl (fun ls hl => ?_)
      refine lv_goto (tgt := 19) hx hb dX4_howManyStay_148 (by decide) ?_
      have hP := subP (ws' := [(y 2, .inr (1, [.int py2_0, .int py2_1, .int py2_2, .int py2_3, .int py2_4, .int py2_5, .ref (y 3), .ref (y 4), .ref (y 5), .ref (y 6), .ref (y 7), .ref (y 8), .ref (y 9), .int py2_13, .int py2_14, .int py2_15, .int py2_16, .int py2_17])), (y 3, aI V 4 fy3), (y 9, aI V 900 fy9), (y 19, .inr (4, [.ref (y 2), .ref (y 20), .ref (y 21), .ref (y 22), .ref (y 23), .ref (y 24)])), (y 21, aI V 6 f_17), (y 22, aI V 64 f_18), (y 24, aI V 10 f_19), (y 20, aI V 2000 f_20), (y 23, aI V 10 f_24)]) hP [0, 1, 2, 3, 4, 5, 7, 8, 6] rfl
      have hD := hD.sub (ws' := [(y 2, .inr (1, [.int py2_0, .int py2_1, .int py2_2, .int py2_3, .int py2_4, .int py2_5, .ref (y 3), .ref (y 4), .ref (y 5), .ref (y 6), .ref (y 7), .ref (y 8), .ref (y 9), .int py2_13, .int py2_14, .int py2_15, .int py2_16, .int py2_17])), (y 3, aI V 4 fy3), (y 9, aI V 900 fy9), (y 19, .inr (4, [.ref (y 2), .ref (y 20), .ref (y 21), .ref (y 22), .ref (y 23), .ref (y 24)])), (y 21, aI V 6 f_17), (y 22, aI V 64 f_18), (y 24, aI V 10 f_19), (y 20, aI V 2000 f_20), (y 23, aI V 10 f_24)]) [0, 1, 2, 3, 4, 5, 7, 8, 6] rfl rfl
      exact ihn_10 _ _ _ _ (by rw [en_10, ex_25]; exact mu_up b_12 (by decide)) ⟨x_25, u_16, f_17, f_18, f_19, f_20, f_24, (iv_w bx_25 (by decide)), tf_20, knn_21, rfl, hP, hD, hS, lv_sub hl [0, 2, 3, 4] rfl⟩
    · have b_26 : iv 0 99 u_15 := iv_l1 (Int32.not_le.mp c_22) bu_15 (iv_c (100 : Int32) (a := 100) (b := 100) (by decide)) (by decide)
      refine lv_iload hx hb dX4_howManyStay_50 (lv_at hl 0 rfl) ?_
      refine lv_bipush (v := 10) hx hb dX4_howManyStay_52 (by decide) ?_
      refine lv_idiv hx hb dX4_howManyStay_54 (by decide) ?_
      refine lv_topi (fun x_27 ex_27 => ?_)
      have bx_27 : iv 0 9 x_27 := by rw [ex_27]; exact iv_divp b_26 (k := 10) (by decide) (by decide)
      refine lv_istore (lv' := [(5, .int x_27), (4, .int u_15), (2, .int u_16), (3, .int u_3), (0, .ref (y 19)), (1, .int a1)]) hx hb dX4_howManyStay_55 hl (by decide) rfl (fun ls hl => ?_)
      refine lv_iload hx hb dX4_howManyStay_57 (lv_at hl 1 rfl) ?_
      refine lv_bipush (v := 10) hx hb dX4_howManyStay_59 (by decide) ?_
      refine lv_irem hx hb dX4_howManyStay_61 (by decide) ?_
      refine lv_topi (fun x_28 ex_28 => ?_)
      have bx_28 : iv 0 9 x_28 := by rw [ex_28]; exact iv_remp b_26 (k := 10) (by decide) (by decide)
      refine lv_istore (lv' := [(6, .int x_28), (5, .int x_27), (4, .int u_15), (2, .int u_16), (3, .int u_3), (0, .ref (y 19)), (1, .int a1)]) hx hb dX4_howManyStay_62 hl (by decide) rfl (fun ls hl => ?_)
      refine lv_aload_n hx hb dX4_howManyStay_64 rfl (lv_at hl 5 rfl) ?_
      refine va_get (ci := 4) (v := .ref (y 23)) (C := RX4) (T := TX4) (N := 6) hx hb hg inX4 hown hK hP 3 rfl rfl 4 (by decide) (hg _ q_1_175) (fun _ h9 => h9) rfl dX4_howManyStay_65 ?_
      refine lv_iload hx hb dX4_howManyStay_68 (lv_at hl 1 rfl) ?_
      refine va_iald hx hb hK hP 6 0 rfl rfl (iv_in bx_27 (by decide)) dX4_howManyStay_70 ?_
      refine lv_topi (fun x_29 ex_29 => ?_)
      refine lv_if_eq (tgt := 124) hx hb dX4_howManyStay_71 (by decide) (fun c_30 => ?_) (fun c_30 => ?_)
      · have b_31 : iv 0 0 x_29 := iv_q c_30 (iv_c (0 : Int32) (a := 0) (b := 0) (by decide))
        obtain ⟨x_32, ex_32⟩ : ∃ z9 : Int32, z9 = u_15 + 1 := ⟨_, rfl⟩
        have bx_32 : iv 1 100 x_32 := by rw [ex_32]; exact iv_add b_26 (iv_c (1 : Int32) (a := 1) (b := 1) (by decide)) (by decide)
        refine lv_iinc (v := x_32) (lv' := [(4, .int x_32), (6, .int x_28), (5, .int x_27), (2, .int u_16), (3, .int u_3), (0, .ref (y 19)), (1, .int a1)]) hx hb dX4_howManyStay_124 hl (k := 2) rfl (by rw [ex_32]; rfl) (by decide) rfl (fun ls hl => ?_)
        refine lv_goto (tgt := 43) hx hb dX4_howManyStay_127 (by decide) ?_
        exact ihn_21 _ _ _ _ (by rw [en_21, ex_32]; exact mu_up b_26 (by decide)) ⟨x_32, u_16, f_17, f_18, f_19, f_20, (iv_w bx_32 (by decide)), tf_20, knn_21, rfl, hP, hD, hS, lv_sub hl [0, 3, 4, 5, 6] rfl⟩
      · refine lv_aload_n hx hb dX4_howManyStay_74 rfl (lv_at hl 5 rfl) ?_
        refine lv_iload_n hx hb dX4_howManyStay_75 rfl (lv_at hl 6 rfl) ?_
        refine lv_iload_n hx hb dX4_howManyStay_76 rfl (lv_at hl 4 rfl) ?_
        refine lv_iload hx hb dX4_howManyStay_77 (lv_at hl 0 rfl) ?_
        refine lv_iconst (v := 2) hx hb dX4_howManyStay_79 (by decide) ?_
        refine lv_idiv hx hb dX4_howManyStay_80 (by decide) ?_
        refine lv_topi (fun x_33 ex_33 => ?_)
        have bx_33 : iv 0 4 x_33 := by rw [ex_33]; exact iv_divp bx_28 (k := 2) (by decide) (by decide)
        refine lv_iload hx hb dX4_howManyStay_81 (lv_at hl 1 rfl) ?_
        refine lv_iconst (v := 2) hx hb dX4_howManyStay_83 (by decide) ?_
        refine lv_idiv hx hb dX4_howManyStay_84 (by decide) ?_
        refine lv_topi (fun x_34 ex_34 => ?_)
        have bx_34 : iv 0 4 x_34 := by rw [ex_34]; exact iv_divp bx_27 (k := 2) (by decide) (by decide)
        refine lv_iload hx hb dX4_howManyStay_85 (lv_at hl 1 rfl) ?_
        refine lv_iconst (v := 2) hx hb dX4_howManyStay_87 (by decide) ?_
        refine lv_irem hx hb dX4_howManyStay_88 (by decide) ?_
        refine lv_topi (fun x_35 ex_35 => ?_)
        have bx_35 : iv 0 1 x_35 := by rw [ex_35]; exact iv_remp bx_27 (k := 2) (by decide) (by decide)
        refine jnI (wr := [(y 23, aI V 10 f_9), (y 24, aI V 10 f_19)]) (rnV (rest := []) ⟨hx, hb, hml, hown, hg⟩ (k_X4_digitBehind_0 l V y a1 u_3 x_33 x_34 x_35 fy3 fy9 f_20 f_17 f_18 py2_0 py2_1 py2_2 py2_3 py2_4 py2_5 py2_13 py2_14 py2_15 py2_16 py2_17 ba1 b_12 bx_33 bx_34 bx_35 tf_20 (iv_w b_13 (by decide)) bpy2_2 bpy2_3 bpy2_4 bpy2_5 bpy2_13 bpy2_14 bpy2_15 bpy2_16 bpy2_17) mt_X4_digitBehind q_3_150 ⟨Nat.le_of_ble_eq_true rfl, Nat.le_of_ble_eq_true rfl⟩ hK hP hD hS hA hE [1, 2, 3, 8, 4, 5, 0] rfl rfl 3 rfl rfl rfl rfl hl.1 rfl (Nat.le_of_ble_eq_true rfl) dX4_howManyStay_89 ⟨Nat.le_of_ble_eq_true rfl, Nat.le_of_ble_eq_true rfl⟩) hP hD hS hA [1, 2, 3, 8, 4, 5, 0] [6, 7] rfl rfl rfl (by decide) (fun r_36 w H locs hw hP hD hS => ?_)
        obtain ⟨f_37, f_38, f_39, tf_37, br_36, g_40, rfl⟩ := hw
        have qkn_41 := g_40 D9 hL9 knn_21
        have er_36 : r_36 = D9 (plF a1 u_3 x_33 x_34 x_35).toNatClampNeg := qkn_41.1
        have kn_41 := qkn_41.2
        have hP : va_P V.1 vwCl [(y 23, aI V 10 f_9), (y 24, aI V 10 f_19), (y 3, aI V 4 fy3), (y 9, aI V 900 fy9), (y 19, .inr (4, [.ref (y 2), .ref (y 20), .ref (y 21), .ref (y 22), .ref (y 23), .ref (y 24)])), (y 20, aI V 2000 f_37), (y 21, aI V 6 f_38), (y 22, aI V 64 f_39), (y 2, .inr (1, [.int py2_0, .int py2_1, .int py2_2, .int py2_3, .int py2_4, .int py2_5, .ref (y 3), .ref (y 4), .ref (y 5), .ref (y 6), .ref (y 7), .ref (y 8), .ref (y 9), .int py2_13, .int py2_14, .int py2_15, .int py2_16, .int py2_17]))] H := hP
        have hD : va_D A [(y 23, aI V 10 f_9), (y 24, aI V 10 f_19), (y 3, aI V 4 fy3), (y 9, aI V 900 fy9), (y 19, .inr (4, [.ref (y 2), .ref (y 20), .ref (y 21), .ref (y 22), .ref (y 23), .ref (y 24)])), (y 20, aI V 2000 f_37), (y 21, aI V 6 f_38), (y 22, aI V 64 f_39), (y 2, .inr (1, [.int py2_0, .int py2_1, .int py2_2, .int py2_3, .int py2_4, .int py2_5, .ref (y 3), .ref (y 4), .ref (y 5), .ref (y 6), .ref (y 7), .ref (y 8), .ref (y 9), .int py2_13, .int py2_14, .int py2_15, .int py2_16, .int py2_17]))] := hD
        refine lv_iload hx hb dX4_howManyStay_92 (lv_at hl 0 rfl) ?_
        refine lv_icmp_ne (tgt := 124) hx hb dX4_howManyStay_94 (by decide) (fun c_42 => ?_) (fun c_42 => ?_)
        · obtain ⟨x_43, ex_43⟩ : ∃ z9 : Int32, z9 = u_15 + 1 := ⟨_, rfl⟩
          have bx_43 : iv 1 100 x_43 := by rw [ex_43]; exact iv_add b_26 (iv_c (1 : Int32) (a := 1) (b := 1) (by decide)) (by decide)
          refine lv_iinc (v := x_43) (lv' := [(4, .int x_43), (6, .int x_28), (5, .int x_27), (2, .int u_16), (3, .int u_3), (0, .ref (y 19)), (1, .int a1)]) hx hb dX4_howManyStay_124 hl (k := 2) rfl (by rw [ex_43]; rfl) (by decide) rfl (fun ls hl => ?_)
          refine lv_goto (tgt := 43) hx hb dX4_howManyStay_127 (by decide) ?_
          have hP := subP (ws' := [(y 2, .inr (1, [.int py2_0, .int py2_1, .int py2_2, .int py2_3, .int py2_4, .int py2_5, .ref (y 3), .ref (y 4), .ref (y 5), .ref (y 6), .ref (y 7), .ref (y 8), .ref (y 9), .int py2_13, .int py2_14, .int py2_15, .int py2_16, .int py2_17])), (y 3, aI V 4 fy3), (y 9, aI V 900 fy9), (y 19, .inr (4, [.ref (y 2), .ref (y 20), .ref (y 21), .ref (y 22), .ref (y 23), .ref (y 24)])), (y 21, aI V 6 f_38), (y 22, aI V 64 f_39), (y 23, aI V 10 f_9), (y 24, aI V 10 f_19), (y 20, aI V 2000 f_37)]) hP [8, 2, 3, 4, 6, 7, 0, 1, 5] rfl
          have hD := hD.sub (ws' := [(y 2, .inr (1, [.int py2_0, .int py2_1, .int py2_2, .int py2_3, .int py2_4, .int py2_5, .ref (y 3), .ref (y 4), .ref (y 5), .ref (y 6), .ref (y 7), .ref (y 8), .ref (y 9), .int py2_13, .int py2_14, .int py2_15, .int py2_16, .int py2_17])), (y 3, aI V 4 fy3), (y 9, aI V 900 fy9), (y 19, .inr (4, [.ref (y 2), .ref (y 20), .ref (y 21), .ref (y 22), .ref (y 23), .ref (y 24)])), (y 21, aI V 6 f_38), (y 22, aI V 64 f_39), (y 23, aI V 10 f_9), (y 24, aI V 10 f_19), (y 20, aI V 2000 f_37)]) [8, 2, 3, 4, 6, 7, 0, 1, 5] rfl rfl
          exact ihn_21 _ _ _ _ (by rw [en_21, ex_43]; exact mu_up b_26 (by decide)) ⟨x_43, u_16, f_38, f_39, f_19, f_37, (iv_w bx_43 (by decide)), tf_37, kn_41, rfl, hP, hD, hS, lv_sub hl [0, 3, 4, 5, 6] rfl⟩
        · refine lv_aload_n hx hb dX4_howManyStay_97 rfl (lv_at hl 5 rfl) ?_
          refine va_get (ci := 4) (v := .ref (y 24)) (C := RX4) (T := TX4) (N := 6) hx hb hg inX4 hown hK hP 4 rfl rfl 5 (by decide) (hg _ q_1_176) (fun _ h9 => h9) rfl dX4_howManyStay_98 ?_
          refine lv_iload hx hb dX4_howManyStay_101 (lv_at hl 0 rfl) ?_
          refine lv_dup2_11 hx hb dX4_howManyStay_103 rfl rfl ?_
          refine va_iald hx hb hK hP 1 0 rfl rfl (iv_in bx_28 (by decide)) dX4_howManyStay_104 ?_
          refine lv_topi (fun x_44 ex_44 => ?_)
          refine lv_aload_n hx hb dX4_howManyStay_105 rfl (lv_at hl 5 rfl) ?_
          refine va_get (ci := 4) (v := .ref (y 23)) (C := RX4) (T := TX4) (N := 6) hx hb hg inX4 hown hK hP 4 rfl rfl 4 (by decide) (hg _ q_1_175) (fun _ h9 => h9) rfl dX4_howManyStay_106 ?_
          refine lv_iload hx hb dX4_howManyStay_109 (lv_at hl 1 rfl) ?_
          refine va_iald hx hb hK hP 0 0 rfl rfl (iv_in bx_27 (by decide)) dX4_howManyStay_111 ?_
          refine lv_topi (fun x_45 ex_45 => ?_)
          refine lv_iadd hx hb dX4_howManyStay_112 ?_
          refine lv_topi (fun x_46 ex_46 => ?_)
          refine va_iast hx hb hK hP hD hS 1 0 rfl rfl (iv_in bx_28 (by decide)) dX4_howManyStay_113 (fun H locs hP hD hS => ?_)
          obtain ⟨f_47, hP, hD⟩ : ∃ f_47 : Nat → Int32, va_P V.1 vwCl [(y 23, aI V 10 f_9), (y 24, aI V 10 f_47), (y 3, aI V 4 fy3), (y 9, aI V 900 fy9), (y 19, .inr (4, [.ref (y 2), .ref (y 20), .ref (y 21), .ref (y 22), .ref (y 23), .ref (y 24)])), (y 20, aI V 2000 f_37), (y 21, aI V 6 f_38), (y 22, aI V 64 f_39), (y 2, .inr (1, [.int py2_0, .int py2_1, .int py2_2, .int py2_3, .int py2_4, .int py2_5, .ref (y 3), .ref (y 4), .ref (y 5), .ref (y 6), .ref (y 7), .ref (y 8), .ref (y 9), .int py2_13, .int py2_14, .int py2_15, .int py2_16, .int py2_17]))] H ∧ va_D A [(y 23, aI V 10 f_9), (y 24, aI V 10 f_47), (y 3, aI V 4 fy3), (y 9, aI V 900 fy9), (y 19, .inr (4, [.ref (y 2), .ref (y 20), .ref (y 21), .ref (y 22), .ref (y 23), .ref (y 24)])), (y 20, aI V 2000 f_37), (y 21, aI V 6 f_38), (y 22, aI V 64 f_39), (y 2, .inr (1, [.int py2_0, .int py2_1, .int py2_2, .int py2_3, .int py2_4, .int py2_5, .ref (y 3), .ref (y 4), .ref (y 5), .ref (y 6), .ref (y 7), .ref (y 8), .ref (y 9), .int py2_13, .int py2_14, .int py2_15, .int py2_16, .int py2_17]))] := ⟨_, hP, hD⟩
          refine lv_iload_n hx hb dX4_howManyStay_114 rfl (lv_at hl 3 rfl) ?_
          refine lv_aload_n hx hb dX4_howManyStay_115 rfl (lv_at hl 5 rfl) ?_
          refine va_get (ci := 4) (v := .ref (y 23)) (C := RX4) (T := TX4) (N := 6) hx hb hg inX4 hown hK hP 4 rfl rfl 4 (by decide) (hg _ q_1_175) (fun _ h9 => h9) rfl dX4_howManyStay_116 ?_
          refine lv_iload hx hb dX4_howManyStay_119 (lv_at hl 1 rfl) ?_
          refine va_iald hx hb hK hP 0 0 rfl rfl (iv_in bx_27 (by decide)) dX4_howManyStay_121 ?_
          refine lv_topi (fun x_48 ex_48 => ?_)
          refine lv_iadd hx hb dX4_howManyStay_122 ?_
          refine lv_topi (fun x_49 ex_49 => ?_)
          refine lv_istore_n (lv' := [(2, .int x_49), (6, .int x_28), (5, .int x_27), (4, .int u_15), (3, .int u_3), (0, .ref (y 19)), (1, .int a1)]) hx hb dX4_howManyStay_123 rfl hl (by decide) rfl (fun ls hl => ?_)
          obtain ⟨x_50, ex_50⟩ : ∃ z9 : Int32, z9 = u_15 + 1 := ⟨_, rfl⟩
          have bx_50 : iv 1 100 x_50 := by rw [ex_50]; exact iv_add b_26 (iv_c (1 : Int32) (a := 1) (b := 1) (by decide)) (by decide)
          refine lv_iinc (v := x_50) (lv' := [(4, .int x_50), (2, .int x_49), (6, .int x_28), (5, .int x_27), (3, .int u_3), (0, .ref (y 19)), (1, .int a1)]) hx hb dX4_howManyStay_124 hl (k := 3) rfl (by rw [ex_50]; rfl) (by decide) rfl (fun ls hl => ?_)
          refine lv_goto (tgt := 43) hx hb dX4_howManyStay_127 (by decide) ?_
          have hP := subP (ws' := [(y 2, .inr (1, [.int py2_0, .int py2_1, .int py2_2, .int py2_3, .int py2_4, .int py2_5, .ref (y 3), .ref (y 4), .ref (y 5), .ref (y 6), .ref (y 7), .ref (y 8), .ref (y 9), .int py2_13, .int py2_14, .int py2_15, .int py2_16, .int py2_17])), (y 3, aI V 4 fy3), (y 9, aI V 900 fy9), (y 19, .inr (4, [.ref (y 2), .ref (y 20), .ref (y 21), .ref (y 22), .ref (y 23), .ref (y 24)])), (y 21, aI V 6 f_38), (y 22, aI V 64 f_39), (y 23, aI V 10 f_9), (y 24, aI V 10 f_47), (y 20, aI V 2000 f_37)]) hP [8, 2, 3, 4, 6, 7, 0, 1, 5] rfl
          have hD := hD.sub (ws' := [(y 2, .inr (1, [.int py2_0, .int py2_1, .int py2_2, .int py2_3, .int py2_4, .int py2_5, .ref (y 3), .ref (y 4), .ref (y 5), .ref (y 6), .ref (y 7), .ref (y 8), .ref (y 9), .int py2_13, .int py2_14, .int py2_15, .int py2_16, .int py2_17])), (y 3, aI V 4 fy3), (y 9, aI V 900 fy9), (y 19, .inr (4, [.ref (y 2), .ref (y 20), .ref (y 21), .ref (y 22), .ref (y 23), .ref (y 24)])), (y 21, aI V 6 f_38), (y 22, aI V 64 f_39), (y 23, aI V 10 f_9), (y 24, aI V 10 f_47), (y 20, aI V 2000 f_37)]) [8, 2, 3, 4, 6, 7, 0, 1, 5] rfl rfl
          exact ihn_21 _ _ _ _ (by rw [en_21, ex_50]; exact mu_up b_26 (by decide)) ⟨x_50, x_49, f_38, f_39, f_47, f_37, (iv_w bx_50 (by decide)), tf_37, kn_41, rfl, hP, hD, hS, lv_sub hl [0, 1, 4, 5, 6] rfl⟩
theorem dX9_rests_0 : decode cX9_rests 0 = .ok (.aload_n 0, 1) := by decide +kernel
theorem dX9_rests_1 : decode cX9_rests 1 = .ok (.getfield 34, 3) := by decide +kernel
theorem dX9_rests_4 : decode cX9_rests 4 = .ok (.aload_n 0, 1) := by decide +kernel
theorem dX9_rests_5 : decode cX9_rests 5 = .ok (.getfield 116, 3) := by decide +kernel
theorem q_4_43 : Cond.code yX4_howManyStay prog_6_method_8_code 7 (some FieldType.int) ∈ gw := gw_4 (i := 43) (rfl) rfl
theorem q_4_41 : Cond.instanceMethod yX4_howManyStay ∈ gw := gw_4 (i := 41) (by decide +kernel) rfl
theorem q_4_42 : Cond.selects "BeaconDelay$Laws" yX4_howManyStay yX4_howManyStay ∈ gw := gw_4 (i := 42) (by decide +kernel) rfl
theorem mt_X4_howManyStay : MtV yX4_howManyStay cX4_howManyStay 7 (some .int) 1 := ⟨⟨q_4_43, q_1_4, by decide +kernel, by decide +kernel, by decide +kernel⟩, q_4_41, q_4_42⟩
theorem q_4_40 : Cond.methodLink "BeaconDelay" 237 yX4_howManyStay ∈ gw := gw_4 (i := 40) (by decide +kernel) rfl
theorem dX9_rests_8 : decode cX9_rests 8 = .ok (.invokevirtual 237, 3) := by decide +kernel
theorem dX9_rests_11 : decode cX9_rests 11 = .ok (.ireturn, 1) := by decide +kernel
set_option maxHeartbeats 4000000 in
set_option maxRecDepth 100000 in
theorem k_X9_rests_0 (l : Launch) (V : GV) (y : Nat → Nat) (D9 : Nat → Int32) (py0_1 : Int32) (o10 : Value) (o11 : Value) (py0_12 : Int32) (py0_13 : Int32) (py0_14 : Int32) (py2_0 : Int32) (py2_1 : Int32) (py2_2 : Int32) (py2_3 : Int32) (py2_4 : Int32) (py2_5 : Int32) (py2_13 : Int32) (py2_14 : Int32) (py2_15 : Int32) (py2_16 : Int32) (py2_17 : Int32) (fy3 : Nat → Int32) (fy9 : Nat → Int32) (fy20 : Nat → Int32) (fy21 : Nat → Int32) (fy22 : Nat → Int32) (fy23 : Nat → Int32) (fy24 : Nat → Int32) (bpy0_1 : iv 0 900 py0_1) (bpy0_12 : iv 0 9999 py0_12) (bpy0_13 : iv 0 9 py0_13) (bpy2_1 : iv 0 4 py2_1) (bpy2_2 : iv 0 4 py2_2) (bpy2_3 : iv 0 8 py2_3) (bpy2_4 : iv 0 9999 py2_4) (bpy2_5 : iv 0 9 py2_5) (bpy2_13 : iv 0 900 py2_13) (bpy2_14 : iv 0 900 py2_14) (bpy2_15 : iv 0 900 py2_15) (bpy2_16 : iv 0 900 py2_16) (bpy2_17 : iv 0 900 py2_17) (tfy20 : ∀ j, iv 0 10 (fy20 j)) (hL9 : LW D9 fy3 fy9 py2_14 py2_15 py2_16 py2_17) (hK9 : KN D9 fy20) : Ct l V yX9_rests (.code yX9_rests cX9_rests 1 (some .int)) 6 [.ref (y 0)] [(y 0, .inr (9, [.ref (y 1), .int py0_1, .ref (y 2), .ref (y 10), .ref (y 19), .ref (y 25), .ref (y 26), .ref (y 30), .ref (y 31), .ref (y 32), o10, o11, .int py0_12, .int py0_13, .int py0_14])), (y 2, .inr (1, [.int py2_0, .int py2_1, .int py2_2, .int py2_3, .int py2_4, .int py2_5, .ref (y 3), .ref (y 4), .ref (y 5), .ref (y 6), .ref (y 7), .ref (y 8), .ref (y 9), .int py2_13, .int py2_14, .int py2_15, .int py2_16, .int py2_17])), (y 3, aI V 4 fy3), (y 9, aI V 900 fy9), (y 19, .inr (4, [.ref (y 2), .ref (y 20), .ref (y 21), .ref (y 22), .ref (y 23), .ref (y 24)])), (y 20, aI V 2000 fy20), (y 21, aI V 6 fy21), (y 22, aI V 64 fy22), (y 23, aI V 10 fy23), (y 24, aI V 10 fy24)] 0 0 (QI V (fun (r : Int32) (w : va_W) => ∃ (g0 : Nat → Int32) (g1 : Nat → Int32) (g2 : Nat → Int32) (g3 : Nat → Int32) (g4 : Nat → Int32), (∀ j, iv 0 10 (g0 j)) ∧ KN D9 g0 ∧ w = [(y 0, .inr (9, [.ref (y 1), .int py0_1, .ref (y 2), .ref (y 10), .ref (y 19), .ref (y 25), .ref (y 26), .ref (y 30), .ref (y 31), .ref (y 32), o10, o11, .int py0_12, .int py0_13, .int py0_14])), (y 2, .inr (1, [.int py2_0, .int py2_1, .int py2_2, .int py2_3, .int py2_4, .int py2_5, .ref (y 3), .ref (y 4), .ref (y 5), .ref (y 6), .ref (y 7), .ref (y 8), .ref (y 9), .int py2_13, .int py2_14, .int py2_15, .int py2_16, .int py2_17])), (y 3, aI V 4 fy3), (y 9, aI V 900 fy9), (y 19, .inr (4, [.ref (y 2), .ref (y 20), .ref (y 21), .ref (y 22), .ref (y 23), .ref (y 24)])), (y 20, aI V 2000 g0), (y 21, aI V 6 g1), (y 22, aI V 64 g2), (y 23, aI V 10 g3), (y 24, aI V 10 g4)])) := by
  refine Ct.of (by decide) (Nat.le_of_ble_eq_true rfl) (fun p e s m below meth c A ls hx hb hr hml hown hlk hnm hg hP hK hD hE hA hS hl => ?_)
  have hl : lv_has ls 1 [(0, .ref (y 0))] := hl
  refine lv_aload_n hx hb dX9_rests_0 rfl (lv_at hl 0 rfl) ?_
  refine va_get (ci := 9) (v := .ref (y 19)) (C := RX9) (T := TX9) (N := 15) hx hb hg inX9 hown hK hP 0 rfl rfl 4 (by decide) (hg _ q_2_40) (fun _ h9 => h9) rfl dX9_rests_1 ?_
  refine lv_aload_n hx hb dX9_rests_4 rfl (lv_at hl 0 rfl) ?_
  refine va_get (ci := 9) (v := .int py0_13) (C := RX9) (T := TX9) (N := 15) hx hb hg inX9 hown hK hP 0 rfl rfl 13 (by decide) (hg _ q_2_49) (fun _ h9 => h9) rfl dX9_rests_5 ?_
  refine jnI (wr := [(y 0, .inr (9, [.ref (y 1), .int py0_1, .ref (y 2), .ref (y 10), .ref (y 19), .ref (y 25), .ref (y 26), .ref (y 30), .ref (y 31), .ref (y 32), o10, o11, .int py0_12, .int py0_13, .int py0_14]))]) (rnV (rest := []) ⟨hx, hb, hml, hown, hg⟩ (k_X4_howManyStay_0 l V y D9 py0_13 py2_0 py2_1 py2_2 py2_3 py2_4 py2_5 py2_13 py2_14 py2_15 py2_16 py2_17 fy3 fy9 fy20 fy21 fy22 fy23 fy24 bpy0_13 bpy2_1 bpy2_2 bpy2_3 bpy2_4 bpy2_5 bpy2_13 bpy2_14 bpy2_15 bpy2_16 bpy2_17 tfy20 hL9 hK9) mt_X4_howManyStay q_4_40 ⟨Nat.le_of_ble_eq_true rfl, Nat.le_of_ble_eq_true rfl⟩ hK hP hD hS hA hE [1, 2, 3, 4, 5, 6, 7, 8, 9] rfl rfl 4 rfl rfl rfl rfl hl.1 rfl (Nat.le_of_ble_eq_true rfl) dX9_rests_8 ⟨Nat.le_of_ble_eq_true rfl, Nat.le_of_ble_eq_true rfl⟩) hP hD hS hA [1, 2, 3, 4, 5, 6, 7, 8, 9] [0] rfl rfl rfl (by decide) (fun r_1 w H locs hw hP hD hS => ?_)
  obtain ⟨f_2, f_3, f_4, f_5, f_6, tf_2, kn_7, rfl⟩ := hw
  have hP : va_P V.1 vwCl [(y 0, .inr (9, [.ref (y 1), .int py0_1, .ref (y 2), .ref (y 10), .ref (y 19), .ref (y 25), .ref (y 26), .ref (y 30), .ref (y 31), .ref (y 32), o10, o11, .int py0_12, .int py0_13, .int py0_14])), (y 2, .inr (1, [.int py2_0, .int py2_1, .int py2_2, .int py2_3, .int py2_4, .int py2_5, .ref (y 3), .ref (y 4), .ref (y 5), .ref (y 6), .ref (y 7), .ref (y 8), .ref (y 9), .int py2_13, .int py2_14, .int py2_15, .int py2_16, .int py2_17])), (y 3, aI V 4 fy3), (y 9, aI V 900 fy9), (y 19, .inr (4, [.ref (y 2), .ref (y 20), .ref (y 21), .ref (y 22), .ref (y 23), .ref (y 24)])), (y 20, aI V 2000 f_2), (y 21, aI V 6 f_3), (y 22, aI V 64 f_4), (y 23, aI V 10 f_5), (y 24, aI V 10 f_6)] H := hP
  have hD : va_D A [(y 0, .inr (9, [.ref (y 1), .int py0_1, .ref (y 2), .ref (y 10), .ref (y 19), .ref (y 25), .ref (y 26), .ref (y 30), .ref (y 31), .ref (y 32), o10, o11, .int py0_12, .int py0_13, .int py0_14])), (y 2, .inr (1, [.int py2_0, .int py2_1, .int py2_2, .int py2_3, .int py2_4, .int py2_5, .ref (y 3), .ref (y 4), .ref (y 5), .ref (y 6), .ref (y 7), .ref (y 8), .ref (y 9), .int py2_13, .int py2_14, .int py2_15, .int py2_16, .int py2_17])), (y 3, aI V 4 fy3), (y 9, aI V 900 fy9), (y 19, .inr (4, [.ref (y 2), .ref (y 20), .ref (y 21), .ref (y 22), .ref (y 23), .ref (y 24)])), (y 20, aI V 2000 f_2), (y 21, aI V 6 f_3), (y 22, aI V 64 f_4), (y 23, aI V 10 f_5), (y 24, aI V 10 f_6)] := hD
  exact fiI hx hb hr hlk hK hP hD hS dX9_rests_11 (Nat.le_of_ble_eq_true rfl) (Nat.le_of_ble_eq_true rfl) (⟨f_2, f_3, f_4, f_5, f_6, tf_2, kn_7, rfl⟩)
theorem dX9_isSeen_0 : decode cX9_isSeen 0 = .ok (.iload_n 3, 1) := by decide +kernel
theorem dX9_isSeen_1 : decode cX9_isSeen 1 = .ok (.aload_n 0, 1) := by decide +kernel
theorem dX9_isSeen_2 : decode cX9_isSeen 2 = .ok (.getfield 113, 3) := by decide +kernel
theorem dX9_isSeen_5 : decode cX9_isSeen 5 = .ok (.iload_n 1, 1) := by decide +kernel
theorem dX9_isSeen_6 : decode cX9_isSeen 6 = .ok (.invokestatic 132, 3) := by decide +kernel
theorem dX9_isSeen_9 : decode cX9_isSeen 9 = .ok (.if_icmp .gt 18, 3) := by decide +kernel
theorem dX9_isSeen_27 : decode cX9_isSeen 27 = .ok (.iconst 0, 1) := by decide +kernel
theorem dX9_isSeen_28 : decode cX9_isSeen 28 = .ok (.ireturn, 1) := by decide +kernel
theorem dX9_isSeen_12 : decode cX9_isSeen 12 = .ok (.aload_n 0, 1) := by decide +kernel
theorem dX9_isSeen_13 : decode cX9_isSeen 13 = .ok (.getfield 113, 3) := by decide +kernel
theorem dX9_isSeen_16 : decode cX9_isSeen 16 = .ok (.iload_n 2, 1) := by decide +kernel
theorem dX9_isSeen_17 : decode cX9_isSeen 17 = .ok (.invokestatic 132, 3) := by decide +kernel
theorem dX9_isSeen_20 : decode cX9_isSeen 20 = .ok (.ifCond .le 7, 3) := by decide +kernel
theorem dX9_isSeen_23 : decode cX9_isSeen 23 = .ok (.iconst 1, 1) := by decide +kernel
theorem dX9_isSeen_24 : decode cX9_isSeen 24 = .ok (.goto 4, 3) := by decide +kernel
set_option maxHeartbeats 4000000 in
set_option maxRecDepth 100000 in
theorem k_X9_isSeen_0 (l : Launch) (V : GV) (y : Nat → Nat) (a1 : Int32) (a2 : Int32) (a3 : Int32) (py0_1 : Int32) (o10 : Value) (o11 : Value) (py0_12 : Int32) (py0_13 : Int32) (py0_14 : Int32) (ba1 : iv 0 3 a1) (ba2 : iv 0 3 a2) (bpy0_1 : iv 0 900 py0_1) (bpy0_12 : iv 0 9999 py0_12) (bpy0_13 : iv 0 9 py0_13) : Ct l V yX9_isSeen (.code yX9_isSeen cX9_isSeen 4 (some .boolean)) 2 [.ref (y 0), .int a1, .int a2, .int a3] [(y 0, .inr (9, [.ref (y 1), .int py0_1, .ref (y 2), .ref (y 10), .ref (y 19), .ref (y 25), .ref (y 26), .ref (y 30), .ref (y 31), .ref (y 32), o10, o11, .int py0_12, .int py0_13, .int py0_14]))] 0 0 (QI V (fun (r : Int32) (w : va_W) => iv 0 1 r ∧ w = [(y 0, .inr (9, [.ref (y 1), .int py0_1, .ref (y 2), .ref (y 10), .ref (y 19), .ref (y 25), .ref (y 26), .ref (y 30), .ref (y 31), .ref (y 32), o10, o11, .int py0_12, .int py0_13, .int py0_14]))])) := by
  refine Ct.of (by decide) (Nat.le_of_ble_eq_true rfl) (fun p e s m below meth c A ls hx hb hr hml hown hlk hnm hg hP hK hD hE hA hS hl => ?_)
  have hl : lv_has ls 4 [(0, .ref (y 0)), (1, .int a1), (2, .int a2), (3, .int a3)] := hl
  refine lv_iload_n hx hb dX9_isSeen_0 rfl (lv_at hl 3 rfl) ?_
  refine lv_aload_n hx hb dX9_isSeen_1 rfl (lv_at hl 0 rfl) ?_
  refine va_get (ci := 9) (v := .int py0_12) (C := RX9) (T := TX9) (N := 15) hx hb hg inX9 hown hK hP 0 rfl rfl 12 (by decide) (hg _ q_2_48) (fun _ h9 => h9) rfl dX9_isSeen_2 ?_
  refine lv_iload_n hx hb dX9_isSeen_5 rfl (lv_at hl 1 rfl) ?_
  refine jnI (wr := [(y 0, .inr (9, [.ref (y 1), .int py0_1, .ref (y 2), .ref (y 10), .ref (y 19), .ref (y 25), .ref (y 26), .ref (y 30), .ref (y 31), .ref (y 32), o10, o11, .int py0_12, .int py0_13, .int py0_14]))]) (rnS (rest := [.int a3]) ⟨hx, hb, hml, hown, hg⟩ (k_X9_stackIn_0 l V py0_12 a1 bpy0_12 (iv_w ba1 (by decide))) mt_X9_stackIn q_3_126 ⟨Nat.le_of_ble_eq_true rfl, Nat.le_of_ble_eq_true rfl⟩ hK hP hD hS hA hE [] rfl rfl rfl hl.1 rfl (Nat.le_of_ble_eq_true rfl) dX9_isSeen_6 ⟨Nat.le_of_ble_eq_true rfl, Nat.le_of_ble_eq_true rfl⟩) hP hD hS hA [] [0] rfl rfl rfl (by decide) (fun r_1 w H locs hw hP hD hS => ?_)
  obtain ⟨br_1, er_1, et_2, rfl⟩ := hw
  have hP : va_P V.1 vwCl [(y 0, .inr (9, [.ref (y 1), .int py0_1, .ref (y 2), .ref (y 10), .ref (y 19), .ref (y 25), .ref (y 26), .ref (y 30), .ref (y 31), .ref (y 32), o10, o11, .int py0_12, .int py0_13, .int py0_14]))] H := hP
  have hD : va_D A [(y 0, .inr (9, [.ref (y 1), .int py0_1, .ref (y 2), .ref (y 10), .ref (y 19), .ref (y 25), .ref (y 26), .ref (y 30), .ref (y 31), .ref (y 32), o10, o11, .int py0_12, .int py0_13, .int py0_14]))] := hD
  refine lv_icmp_gt (tgt := 27) hx hb dX9_isSeen_9 (by decide) (fun c_3 => ?_) (fun c_3 => ?_)
  · have b_4 : iv 1 2147483647 a3 := iv_l2 c_3 br_1 (iv_top a3) (by decide)
    refine lv_iconst (v := 0) hx hb dX9_isSeen_27 (by decide) ?_
    exact fiZ rfl hx hb hr hlk hK hP hD hS dX9_isSeen_28 (Nat.le_of_ble_eq_true rfl) (Nat.le_of_ble_eq_true rfl) (⟨(iv_c (0 : Int32) (by decide)), rfl⟩)
  · have b_5 : iv (-2147483648) 4 a3 := iv_e1 (Int32.not_lt.mp c_3) (iv_top a3) br_1 (by decide)
    refine lv_aload_n hx hb dX9_isSeen_12 rfl (lv_at hl 0 rfl) ?_
    refine va_get (ci := 9) (v := .int py0_12) (C := RX9) (T := TX9) (N := 15) hx hb hg inX9 hown hK hP 0 rfl rfl 12 (by decide) (hg _ q_2_48) (fun _ h9 => h9) rfl dX9_isSeen_13 ?_
    refine lv_iload_n hx hb dX9_isSeen_16 rfl (lv_at hl 2 rfl) ?_
    refine jnI (wr := [(y 0, .inr (9, [.ref (y 1), .int py0_1, .ref (y 2), .ref (y 10), .ref (y 19), .ref (y 25), .ref (y 26), .ref (y 30), .ref (y 31), .ref (y 32), o10, o11, .int py0_12, .int py0_13, .int py0_14]))]) (rnS (rest := []) ⟨hx, hb, hml, hown, hg⟩ (k_X9_stackIn_0 l V py0_12 a2 bpy0_12 (iv_w ba2 (by decide))) mt_X9_stackIn q_3_126 ⟨Nat.le_of_ble_eq_true rfl, Nat.le_of_ble_eq_true rfl⟩ hK hP hD hS hA hE [] rfl rfl rfl hl.1 rfl (Nat.le_of_ble_eq_true rfl) dX9_isSeen_17 ⟨Nat.le_of_ble_eq_true rfl, Nat.le_of_ble_eq_true rfl⟩) hP hD hS hA [] [0] rfl rfl rfl (by decide) (fun r_6 w H locs hw hP hD hS => ?_)
    obtain ⟨br_6, er_6, et_7, rfl⟩ := hw
    have hP : va_P V.1 vwCl [(y 0, .inr (9, [.ref (y 1), .int py0_1, .ref (y 2), .ref (y 10), .ref (y 19), .ref (y 25), .ref (y 26), .ref (y 30), .ref (y 31), .ref (y 32), o10, o11, .int py0_12, .int py0_13, .int py0_14]))] H := hP
    have hD : va_D A [(y 0, .inr (9, [.ref (y 1), .int py0_1, .ref (y 2), .ref (y 10), .ref (y 19), .ref (y 25), .ref (y 26), .ref (y 30), .ref (y 31), .ref (y 32), o10, o11, .int py0_12, .int py0_13, .int py0_14]))] := hD
    refine lv_if_le (tgt := 27) hx hb dX9_isSeen_20 (by decide) (fun c_8 => ?_) (fun c_8 => ?_)
    · have b_9 : iv 0 0 r_6 := iv_e1 c_8 br_6 (iv_c (0 : Int32) (a := 0) (b := 0) (by decide)) (by decide)
      refine lv_iconst (v := 0) hx hb dX9_isSeen_27 (by decide) ?_
      exact fiZ rfl hx hb hr hlk hK hP hD hS dX9_isSeen_28 (Nat.le_of_ble_eq_true rfl) (Nat.le_of_ble_eq_true rfl) (⟨(iv_c (0 : Int32) (by decide)), rfl⟩)
    · have b_10 : iv 1 4 r_6 := iv_l2 (Int32.not_le.mp c_8) (iv_c (0 : Int32) (a := 0) (b := 0) (by decide)) br_6 (by decide)
      refine lv_iconst (v := 1) hx hb dX9_isSeen_23 (by decide) ?_
      refine lv_goto (tgt := 28) hx hb dX9_isSeen_24 (by decide) ?_
      exact fiZ rfl hx hb hr hlk hK hP hD hS dX9_isSeen_28 (Nat.le_of_ble_eq_true rfl) (Nat.le_of_ble_eq_true rfl) (⟨(iv_c (1 : Int32) (by decide)), rfl⟩)
theorem dX9_litBy_0 : decode cX9_litBy 0 = .ok (.aload_n 0, 1) := by decide +kernel
theorem dX9_litBy_1 : decode cX9_litBy 1 = .ok (.getfield 113, 3) := by decide +kernel
theorem dX9_litBy_4 : decode cX9_litBy 4 = .ok (.iload_n 1, 1) := by decide +kernel
theorem dX9_litBy_5 : decode cX9_litBy 5 = .ok (.invokestatic 132, 3) := by decide +kernel
theorem dX9_litBy_8 : decode cX9_litBy 8 = .ok (.ifCond .ne 5, 3) := by decide +kernel
theorem dX9_litBy_13 : decode cX9_litBy 13 = .ok (.iconst 1, 1) := by decide +kernel
theorem dX9_litBy_14 : decode cX9_litBy 14 = .ok (.iload_n 1, 1) := by decide +kernel
theorem dX9_litBy_15 : decode cX9_litBy 15 = .ok (.ishl, 1) := by decide +kernel
theorem dX9_litBy_16 : decode cX9_litBy 16 = .ok (.istore_n 2, 1) := by decide +kernel
theorem dX9_litBy_17 : decode cX9_litBy 17 = .ok (.iload_n 1, 1) := by decide +kernel
theorem dX9_litBy_18 : decode cX9_litBy 18 = .ok (.istore_n 3, 1) := by decide +kernel
theorem dX9_litBy_19 : decode cX9_litBy 19 = .ok (.iload_n 3, 1) := by decide +kernel
theorem dX9_litBy_20 : decode cX9_litBy 20 = .ok (.iconst 1, 1) := by decide +kernel
theorem dX9_litBy_21 : decode cX9_litBy 21 = .ok (.iadd, 1) := by decide +kernel
theorem dX9_litBy_22 : decode cX9_litBy 22 = .ok (.aload_n 0, 1) := by decide +kernel
theorem dX9_litBy_23 : decode cX9_litBy 23 = .ok (.getfield 16, 3) := by decide +kernel
theorem dX9_litBy_26 : decode cX9_litBy 26 = .ok (.getfield 159, 3) := by decide +kernel
theorem dX9_litBy_29 : decode cX9_litBy 29 = .ok (.if_icmp .ge 39, 3) := by decide +kernel
theorem dX9_litBy_68 : decode cX9_litBy 68 = .ok (.iload_n 1, 1) := by decide +kernel
theorem dX9_litBy_69 : decode cX9_litBy 69 = .ok (.istore_n 3, 1) := by decide +kernel
theorem dX9_litBy_70 : decode cX9_litBy 70 = .ok (.iload_n 3, 1) := by decide +kernel
theorem dX9_litBy_71 : decode cX9_litBy 71 = .ok (.ifCond .le 37, 3) := by decide +kernel
theorem dX9_litBy_108 : decode cX9_litBy 108 = .ok (.iload_n 2, 1) := by decide +kernel
theorem dX9_litBy_109 : decode cX9_litBy 109 = .ok (.ireturn, 1) := by decide +kernel
theorem dX9_litBy_74 : decode cX9_litBy 74 = .ok (.aload_n 0, 1) := by decide +kernel
theorem dX9_litBy_75 : decode cX9_litBy 75 = .ok (.iload_n 3, 1) := by decide +kernel
theorem dX9_litBy_76 : decode cX9_litBy 76 = .ok (.iload_n 3, 1) := by decide +kernel
theorem dX9_litBy_77 : decode cX9_litBy 77 = .ok (.iconst 1, 1) := by decide +kernel
theorem dX9_litBy_78 : decode cX9_litBy 78 = .ok (.isub, 1) := by decide +kernel
theorem dX9_litBy_79 : decode cX9_litBy 79 = .ok (.aload_n 0, 1) := by decide +kernel
theorem dX9_litBy_80 : decode cX9_litBy 80 = .ok (.getfield 16, 3) := by decide +kernel
theorem dX9_litBy_83 : decode cX9_litBy 83 = .ok (.getfield 142, 3) := by decide +kernel
theorem dX9_litBy_86 : decode cX9_litBy 86 = .ok (.iload_n 3, 1) := by decide +kernel
theorem dX9_litBy_87 : decode cX9_litBy 87 = .ok (.iaload, 1) := by decide +kernel
theorem q_4_230 : Cond.code yX9_isSeen prog_1_method_47_code 4 (some FieldType.boolean) ∈ gw := gw_4 (i := 230) (rfl) rfl
theorem q_4_229 : Cond.instanceMethod yX9_isSeen ∈ gw := gw_4 (i := 229) (by decide +kernel) rfl
theorem q_s_40 : Cond.selects "BeaconDelay" yX9_isSeen yX9_isSeen ∈ gw := gw_s (i := 40) (by decide +kernel) rfl
theorem mt_X9_isSeen : MtV yX9_isSeen cX9_isSeen 4 (some .boolean) 3 := ⟨⟨q_4_230, q_1_1, by decide +kernel, by decide +kernel, by decide +kernel⟩, q_4_229, q_s_40⟩
theorem q_4_227 : Cond.methodLink "BeaconDelay" 298 yX9_isSeen ∈ gw := gw_4 (i := 227) (by decide +kernel) rfl
theorem dX9_litBy_88 : decode cX9_litBy 88 = .ok (.invokevirtual 298, 3) := by decide +kernel
theorem dX9_litBy_91 : decode cX9_litBy 91 = .ok (.ifCond .eq 17, 3) := by decide +kernel
theorem dX9_litBy_94 : decode cX9_litBy 94 = .ok (.iload_n 2, 1) := by decide +kernel
theorem dX9_litBy_95 : decode cX9_litBy 95 = .ok (.iconst 1, 1) := by decide +kernel
theorem dX9_litBy_96 : decode cX9_litBy 96 = .ok (.iload_n 3, 1) := by decide +kernel
theorem dX9_litBy_97 : decode cX9_litBy 97 = .ok (.iconst 1, 1) := by decide +kernel
theorem dX9_litBy_98 : decode cX9_litBy 98 = .ok (.isub, 1) := by decide +kernel
theorem dX9_litBy_99 : decode cX9_litBy 99 = .ok (.ishl, 1) := by decide +kernel
theorem dX9_litBy_100 : decode cX9_litBy 100 = .ok (.ior, 1) := by decide +kernel
theorem dX9_litBy_101 : decode cX9_litBy 101 = .ok (.istore_n 2, 1) := by decide +kernel
theorem dX9_litBy_102 : decode cX9_litBy 102 = .ok (.iinc 3 (-1), 3) := by decide +kernel
theorem dX9_litBy_105 : decode cX9_litBy 105 = .ok (.goto (-35), 3) := by decide +kernel
theorem dX9_litBy_32 : decode cX9_litBy 32 = .ok (.aload_n 0, 1) := by decide +kernel
theorem dX9_litBy_33 : decode cX9_litBy 33 = .ok (.iload_n 3, 1) := by decide +kernel
theorem dX9_litBy_34 : decode cX9_litBy 34 = .ok (.iload_n 3, 1) := by decide +kernel
theorem dX9_litBy_35 : decode cX9_litBy 35 = .ok (.iconst 1, 1) := by decide +kernel
theorem dX9_litBy_36 : decode cX9_litBy 36 = .ok (.iadd, 1) := by decide +kernel
theorem dX9_litBy_37 : decode cX9_litBy 37 = .ok (.aload_n 0, 1) := by decide +kernel
theorem dX9_litBy_38 : decode cX9_litBy 38 = .ok (.getfield 16, 3) := by decide +kernel
theorem dX9_litBy_41 : decode cX9_litBy 41 = .ok (.getfield 142, 3) := by decide +kernel
theorem dX9_litBy_44 : decode cX9_litBy 44 = .ok (.iload_n 3, 1) := by decide +kernel
theorem dX9_litBy_45 : decode cX9_litBy 45 = .ok (.iconst 1, 1) := by decide +kernel
theorem dX9_litBy_46 : decode cX9_litBy 46 = .ok (.iadd, 1) := by decide +kernel
theorem dX9_litBy_47 : decode cX9_litBy 47 = .ok (.iaload, 1) := by decide +kernel
theorem dX9_litBy_48 : decode cX9_litBy 48 = .ok (.invokevirtual 298, 3) := by decide +kernel
theorem dX9_litBy_51 : decode cX9_litBy 51 = .ok (.ifCond .eq 17, 3) := by decide +kernel
theorem dX9_litBy_54 : decode cX9_litBy 54 = .ok (.iload_n 2, 1) := by decide +kernel
theorem dX9_litBy_55 : decode cX9_litBy 55 = .ok (.iconst 1, 1) := by decide +kernel
theorem dX9_litBy_56 : decode cX9_litBy 56 = .ok (.iload_n 3, 1) := by decide +kernel
theorem dX9_litBy_57 : decode cX9_litBy 57 = .ok (.iconst 1, 1) := by decide +kernel
theorem dX9_litBy_58 : decode cX9_litBy 58 = .ok (.iadd, 1) := by decide +kernel
theorem dX9_litBy_59 : decode cX9_litBy 59 = .ok (.ishl, 1) := by decide +kernel
theorem dX9_litBy_60 : decode cX9_litBy 60 = .ok (.ior, 1) := by decide +kernel
theorem dX9_litBy_61 : decode cX9_litBy 61 = .ok (.istore_n 2, 1) := by decide +kernel
theorem dX9_litBy_62 : decode cX9_litBy 62 = .ok (.iinc 3 1, 3) := by decide +kernel
theorem dX9_litBy_65 : decode cX9_litBy 65 = .ok (.goto (-46), 3) := by decide +kernel
theorem dX9_litBy_11 : decode cX9_litBy 11 = .ok (.iconst 0, 1) := by decide +kernel
theorem dX9_litBy_12 : decode cX9_litBy 12 = .ok (.ireturn, 1) := by decide +kernel
set_option maxHeartbeats 4000000 in
set_option maxRecDepth 100000 in
theorem k_X9_litBy_0 (l : Launch) (V : GV) (y : Nat → Nat) (a1 : Int32) (fy4 : Nat → Int32) (py0_1 : Int32) (o10 : Value) (o11 : Value) (py0_12 : Int32) (py0_13 : Int32) (py0_14 : Int32) (py2_0 : Int32) (py2_1 : Int32) (py2_2 : Int32) (py2_3 : Int32) (py2_4 : Int32) (py2_5 : Int32) (py2_13 : Int32) (py2_14 : Int32) (py2_15 : Int32) (py2_16 : Int32) (py2_17 : Int32) (ba1 : iv 0 3 a1) (bpy0_1 : iv 0 900 py0_1) (bpy0_12 : iv 0 9999 py0_12) (bpy0_13 : iv 0 9 py0_13) (bpy2_1 : iv 0 4 py2_1) (bpy2_2 : iv 0 4 py2_2) (bpy2_3 : iv 0 8 py2_3) (bpy2_4 : iv 0 9999 py2_4) (bpy2_5 : iv 0 9 py2_5) (bpy2_13 : iv 0 900 py2_13) (bpy2_14 : iv 0 900 py2_14) (bpy2_15 : iv 0 900 py2_15) (bpy2_16 : iv 0 900 py2_16) (bpy2_17 : iv 0 900 py2_17) : Ct l V yX9_litBy (.code yX9_litBy cX9_litBy 4 (some .int)) 3 [.ref (y 0), .int a1] [(y 4, aI V 4 fy4), (y 0, .inr (9, [.ref (y 1), .int py0_1, .ref (y 2), .ref (y 10), .ref (y 19), .ref (y 25), .ref (y 26), .ref (y 30), .ref (y 31), .ref (y 32), o10, o11, .int py0_12, .int py0_13, .int py0_14])), (y 2, .inr (1, [.int py2_0, .int py2_1, .int py2_2, .int py2_3, .int py2_4, .int py2_5, .ref (y 3), .ref (y 4), .ref (y 5), .ref (y 6), .ref (y 7), .ref (y 8), .ref (y 9), .int py2_13, .int py2_14, .int py2_15, .int py2_16, .int py2_17]))] 0 0 (QI V (fun (r : Int32) (w : va_W) => w = [(y 4, aI V 4 fy4), (y 0, .inr (9, [.ref (y 1), .int py0_1, .ref (y 2), .ref (y 10), .ref (y 19), .ref (y 25), .ref (y 26), .ref (y 30), .ref (y 31), .ref (y 32), o10, o11, .int py0_12, .int py0_13, .int py0_14])), (y 2, .inr (1, [.int py2_0, .int py2_1, .int py2_2, .int py2_3, .int py2_4, .int py2_5, .ref (y 3), .ref (y 4), .ref (y 5), .ref (y 6), .ref (y 7), .ref (y 8), .ref (y 9), .int py2_13, .int py2_14, .int py2_15, .int py2_16, .int py2_17]))])) := by
  refine Ct.of (by decide) (Nat.le_of_ble_eq_true rfl) (fun p e s m below meth c A ls hx hb hr hml hown hlk hnm hg hP hK hD hE hA hS hl => ?_)
  have hl : lv_has ls 4 [(0, .ref (y 0)), (1, .int a1)] := hl
  refine lv_aload_n hx hb dX9_litBy_0 rfl (lv_at hl 0 rfl) ?_
  refine va_get (ci := 9) (v := .int py0_12) (C := RX9) (T := TX9) (N := 15) hx hb hg inX9 hown hK hP 1 rfl rfl 12 (by decide) (hg _ q_2_48) (fun _ h9 => h9) rfl dX9_litBy_1 ?_
  refine lv_iload_n hx hb dX9_litBy_4 rfl (lv_at hl 1 rfl) ?_
  refine jnI (wr := [(y 4, aI V 4 fy4), (y 0, .inr (9, [.ref (y 1), .int py0_1, .ref (y 2), .ref (y 10), .ref (y 19), .ref (y 25), .ref (y 26), .ref (y 30), .ref (y 31), .ref (y 32), o10, o11, .int py0_12, .int py0_13, .int py0_14])), (y 2, .inr (1, [.int py2_0, .int py2_1, .int py2_2, .int py2_3, .int py2_4, .int py2_5, .ref (y 3), .ref (y 4), .ref (y 5), .ref (y 6), .ref (y 7), .ref (y 8), .ref (y 9), .int py2_13, .int py2_14, .int py2_15, .int py2_16, .int py2_17]))]) (rnS (rest := []) ⟨hx, hb, hml, hown, hg⟩ (k_X9_stackIn_0 l V py0_12 a1 bpy0_12 (iv_w ba1 (by decide))) mt_X9_stackIn q_3_126 ⟨Nat.le_of_ble_eq_true rfl, Nat.le_of_ble_eq_true rfl⟩ hK hP hD hS hA hE [] rfl rfl rfl hl.1 rfl (Nat.le_of_ble_eq_true rfl) dX9_litBy_5 ⟨Nat.le_of_ble_eq_true rfl, Nat.le_of_ble_eq_true rfl⟩) hP hD hS hA [] [0, 1, 2] rfl rfl rfl (by decide) (fun r_1 w H locs hw hP hD hS => ?_)
  obtain ⟨br_1, er_1, et_2, rfl⟩ := hw
  have hP : va_P V.1 vwCl [(y 4, aI V 4 fy4), (y 0, .inr (9, [.ref (y 1), .int py0_1, .ref (y 2), .ref (y 10), .ref (y 19), .ref (y 25), .ref (y 26), .ref (y 30), .ref (y 31), .ref (y 32), o10, o11, .int py0_12, .int py0_13, .int py0_14])), (y 2, .inr (1, [.int py2_0, .int py2_1, .int py2_2, .int py2_3, .int py2_4, .int py2_5, .ref (y 3), .ref (y 4), .ref (y 5), .ref (y 6), .ref (y 7), .ref (y 8), .ref (y 9), .int py2_13, .int py2_14, .int py2_15, .int py2_16, .int py2_17]))] H := hP
  have hD : va_D A [(y 4, aI V 4 fy4), (y 0, .inr (9, [.ref (y 1), .int py0_1, .ref (y 2), .ref (y 10), .ref (y 19), .ref (y 25), .ref (y 26), .ref (y 30), .ref (y 31), .ref (y 32), o10, o11, .int py0_12, .int py0_13, .int py0_14])), (y 2, .inr (1, [.int py2_0, .int py2_1, .int py2_2, .int py2_3, .int py2_4, .int py2_5, .ref (y 3), .ref (y 4), .ref (y 5), .ref (y 6), .ref (y 7), .ref (y 8), .ref (y 9), .int py2_13, .int py2_14, .int py2_15, .int py2_16, .int py2_17]))] := hD
  refine lv_if_ne (tgt := 13) hx hb dX9_litBy_8 (by decide) (fun c_3 => ?_) (fun c_3 => ?_)
  · have b_4 : iv 1 4 r_1 := iv_n0 c_3 br_1 (iv_c (0 : Int32) (a := 0) (b := 0) (by decide)) (by decide)
    refine lv_iconst (v := 1) hx hb dX9_litBy_13 (by decide) ?_
    refine lv_iload_n hx hb dX9_litBy_14 rfl (lv_at hl 1 rfl) ?_
    refine lv_ishl hx hb dX9_litBy_15 ?_
    refine lv_topi (fun x_5 ex_5 => ?_)
    refine lv_istore_n (lv' := [(2, .int x_5), (0, .ref (y 0)), (1, .int a1)]) hx hb dX9_litBy_16 rfl hl (by decide) rfl (fun ls hl => ?_)
    refine lv_iload_n hx hb dX9_litBy_17 rfl (lv_at hl 2 rfl) ?_
    refine lv_istore_n (lv' := [(3, .int a1), (2, .int x_5), (0, .ref (y 0)), (1, .int a1)]) hx hb dX9_litBy_18 rfl hl (by decide) rfl (fun ls hl => ?_)
    refine loopF (X := fun (n_8 : Nat) (H : Heap) (locs : List Loc) (ls : Array Slot) => ∃ (u_6 : Int32) (u_7 : Int32), (iv 0 4 u_6) ∧ n_8 = (2147483647 - (u_6 : Int32).toInt).toNat ∧ va_P V.1 vwCl [(y 4, aI V 4 fy4), (y 0, .inr (9, [.ref (y 1), .int py0_1, .ref (y 2), .ref (y 10), .ref (y 19), .ref (y 25), .ref (y 26), .ref (y 30), .ref (y 31), .ref (y 32), o10, o11, .int py0_12, .int py0_13, .int py0_14])), (y 2, .inr (1, [.int py2_0, .int py2_1, .int py2_2, .int py2_3, .int py2_4, .int py2_5, .ref (y 3), .ref (y 4), .ref (y 5), .ref (y 6), .ref (y 7), .ref (y 8), .ref (y 9), .int py2_13, .int py2_14, .int py2_15, .int py2_16, .int py2_17]))] H ∧ va_D A [(y 4, aI V 4 fy4), (y 0, .inr (9, [.ref (y 1), .int py0_1, .ref (y 2), .ref (y 10), .ref (y 19), .ref (y 25), .ref (y 26), .ref (y 30), .ref (y 31), .ref (y 32), o10, o11, .int py0_12, .int py0_13, .int py0_14])), (y 2, .inr (1, [.int py2_0, .int py2_1, .int py2_2, .int py2_3, .int py2_4, .int py2_5, .ref (y 3), .ref (y 4), .ref (y 5), .ref (y 6), .ref (y 7), .ref (y 8), .ref (y 9), .int py2_13, .int py2_14, .int py2_15, .int py2_16, .int py2_17]))] ∧ va_S A s.heap H locs ∧ lv_has ls 4 [(3, .int u_6), (2, .int u_7), (0, .ref (y 0)), (1, .int a1)]) (g := fun ls => F0 m 19 ls []) (fun n_8 H locs ls hX ihn_8 => ?_) _ ⟨a1, x_5, (iv_w ba1 (by decide)), rfl, hP, hD, hS, lv_sub hl [0, 1, 2, 3] rfl⟩
    obtain ⟨u_6, u_7, bu_6, en_8, hP, hD, hS, hl⟩ := hX
    refine lv_iload_n hx hb dX9_litBy_19 rfl (lv_at hl 0 rfl) ?_
    refine lv_iconst (v := 1) hx hb dX9_litBy_20 (by decide) ?_
    refine lv_iadd hx hb dX9_litBy_21 ?_
    refine lv_topi (fun x_9 ex_9 => ?_)
    have bx_9 : iv 1 5 x_9 := by rw [ex_9]; exact iv_add bu_6 (iv_c (1 : Int32) (a := 1) (b := 1) (by decide)) (by decide)
    refine lv_aload_n hx hb dX9_litBy_22 rfl (lv_at hl 2 rfl) ?_
    refine va_get (ci := 9) (v := .ref (y 2)) (C := RX9) (T := TX9) (N := 15) hx hb hg inX9 hown hK hP 1 rfl rfl 2 (by decide) (hg _ q_2_38) (fun _ h9 => h9) rfl dX9_litBy_23 ?_
    refine va_get (ci := 1) (v := .int py2_1) (C := RX1) (T := TX1) (N := 18) hx hb hg inX1 hown hK hP 2 rfl rfl 1 (by decide) (hg _ q_1_41) (fun _ h9 => h9) rfl dX9_litBy_26 ?_
    refine lv_icmp_ge (tgt := 68) hx hb dX9_litBy_29 (by decide) (fun c_10 => ?_) (fun c_10 => ?_)
    · refine lv_iload_n hx hb dX9_litBy_68 rfl (lv_at hl 3 rfl) ?_
      refine lv_istore_n (lv' := [(3, .int a1), (2, .int u_7), (0, .ref (y 0)), (1, .int a1)]) hx hb dX9_litBy_69 rfl hl (by decide) rfl (fun ls hl => ?_)
      refine loopF (X := fun (n_13 : Nat) (H : Heap) (locs : List Loc) (ls : Array Slot) => ∃ (u_11 : Int32) (u_12 : Int32), (iv 0 3 u_11) ∧ n_13 = ((u_11 : Int32).toInt + 2147483648).toNat ∧ va_P V.1 vwCl [(y 4, aI V 4 fy4), (y 0, .inr (9, [.ref (y 1), .int py0_1, .ref (y 2), .ref (y 10), .ref (y 19), .ref (y 25), .ref (y 26), .ref (y 30), .ref (y 31), .ref (y 32), o10, o11, .int py0_12, .int py0_13, .int py0_14])), (y 2, .inr (1, [.int py2_0, .int py2_1, .int py2_2, .int py2_3, .int py2_4, .int py2_5, .ref (y 3), .ref (y 4), .ref (y 5), .ref (y 6), .ref (y 7), .ref (y 8), .ref (y 9), .int py2_13, .int py2_14, .int py2_15, .int py2_16, .int py2_17]))] H ∧ va_D A [(y 4, aI V 4 fy4), (y 0, .inr (9, [.ref (y 1), .int py0_1, .ref (y 2), .ref (y 10), .ref (y 19), .ref (y 25), .ref (y 26), .ref (y 30), .ref (y 31), .ref (y 32), o10, o11, .int py0_12, .int py0_13, .int py0_14])), (y 2, .inr (1, [.int py2_0, .int py2_1, .int py2_2, .int py2_3, .int py2_4, .int py2_5, .ref (y 3), .ref (y 4), .ref (y 5), .ref (y 6), .ref (y 7), .ref (y 8), .ref (y 9), .int py2_13, .int py2_14, .int py2_15, .int py2_16, .int py2_17]))] ∧ va_S A s.heap H locs ∧ lv_has ls 4 [(3, .int u_11), (2, .int u_12), (0, .ref (y 0)), (1, .int a1)]) (g := fun ls => F0 m 70 ls []) (fun n_13 H locs ls hX ihn_13 => ?_) _ ⟨a1, u_7, ba1, rfl, hP, hD, hS, lv_sub hl [0, 1, 2, 3] rfl⟩
      obtain ⟨u_11, u_12, bu_11, en_13, hP, hD, hS, hl⟩ := hX
      refine lv_iload_n hx hb dX9_litBy_70 rfl (lv_at hl 0 rfl) ?_
      refine lv_if_le (tgt := 108) hx hb dX9_litBy_71 (by decide) (fun c_14 => ?_) (fun c_14 => ?_)
      · have b_15 : iv 0 0 u_11 := iv_e1 c_14 bu_11 (iv_c (0 : Int32) (a := 0) (b := 0) (by decide)) (by decide)
        refine lv_iload_n hx hb dX9_litBy_108 rfl (lv_at hl 1 rfl) ?_
        exact fiI hx hb hr hlk hK hP hD hS dX9_litBy_109 (Nat.le_of_ble_eq_true rfl) (Nat.le_of_ble_eq_true rfl) (rfl)
      · have b_16 : iv 1 3 u_11 := iv_l2 (Int32.not_le.mp c_14) (iv_c (0 : Int32) (a := 0) (b := 0) (by decide)) bu_11 (by decide)
        refine lv_aload_n hx hb dX9_litBy_74 rfl (lv_at hl 2 rfl) ?_
        refine lv_iload_n hx hb dX9_litBy_75 rfl (lv_at hl 0 rfl) ?_
        refine lv_iload_n hx hb dX9_litBy_76 rfl (lv_at hl 0 rfl) ?_
        refine lv_iconst (v := 1) hx hb dX9_litBy_77 (by decide) ?_
        refine lv_isub hx hb dX9_litBy_78 ?_
        refine lv_topi (fun x_17 ex_17 => ?_)
        have bx_17 : iv 0 2 x_17 := by rw [ex_17]; exact iv_sub b_16 (iv_c (1 : Int32) (a := 1) (b := 1) (by decide)) (by decide)
        refine lv_aload_n hx hb dX9_litBy_79 rfl (lv_at hl 2 rfl) ?_
        refine va_get (ci := 9) (v := .ref (y 2)) (C := RX9) (T := TX9) (N := 15) hx hb hg inX9 hown hK hP 1 rfl rfl 2 (by decide) (hg _ q_2_38) (fun _ h9 => h9) rfl dX9_litBy_80 ?_
        refine va_get (ci := 1) (v := .ref (y 4)) (C := RX1) (T := TX1) (N := 18) hx hb hg inX1 hown hK hP 2 rfl rfl 7 (by decide) (hg _ q_1_60) (fun _ h9 => h9) rfl dX9_litBy_83 ?_
        refine lv_iload_n hx hb dX9_litBy_86 rfl (lv_at hl 0 rfl) ?_
        refine va_iald hx hb hK hP 0 0 rfl rfl (iv_in b_16 (by decide)) dX9_litBy_87 ?_
        refine lv_topi (fun x_18 ex_18 => ?_)
        refine jnI (wr := [(y 4, aI V 4 fy4), (y 2, .inr (1, [.int py2_0, .int py2_1, .int py2_2, .int py2_3, .int py2_4, .int py2_5, .ref (y 3), .ref (y 4), .ref (y 5), .ref (y 6), .ref (y 7), .ref (y 8), .ref (y 9), .int py2_13, .int py2_14, .int py2_15, .int py2_16, .int py2_17]))]) (rnV (rest := []) ⟨hx, hb, hml, hown, hg⟩ (k_X9_isSeen_0 l V y u_11 x_17 x_18 py0_1 o10 o11 py0_12 py0_13 py0_14 (iv_w b_16 (by decide)) (iv_w bx_17 (by decide)) bpy0_1 bpy0_12 bpy0_13) mt_X9_isSeen q_4_227 ⟨Nat.le_of_ble_eq_true rfl, Nat.le_of_ble_eq_true rfl⟩ hK hP hD hS hA hE [1] rfl rfl 1 rfl rfl rfl rfl hl.1 rfl (Nat.le_of_ble_eq_true rfl) dX9_litBy_88 ⟨Nat.le_of_ble_eq_true rfl, Nat.le_of_ble_eq_true rfl⟩) hP hD hS hA [1] [0, 2] rfl rfl rfl (by decide) (fun r_19 w H locs hw hP hD hS => ?_)
        obtain ⟨br_19, rfl⟩ := hw
        have hP : va_P V.1 vwCl [(y 4, aI V 4 fy4), (y 2, .inr (1, [.int py2_0, .int py2_1, .int py2_2, .int py2_3, .int py2_4, .int py2_5, .ref (y 3), .ref (y 4), .ref (y 5), .ref (y 6), .ref (y 7), .ref (y 8), .ref (y 9), .int py2_13, .int py2_14, .int py2_15, .int py2_16, .int py2_17])), (y 0, .inr (9, [.ref (y 1), .int py0_1, .ref (y 2), .ref (y 10), .ref (y 19), .ref (y 25), .ref (y 26), .ref (y 30), .ref (y 31), .ref (y 32), o10, o11, .int py0_12, .int py0_13, .int py0_14]))] H := hP
        have hD : va_D A [(y 4, aI V 4 fy4), (y 2, .inr (1, [.int py2_0, .int py2_1, .int py2_2, .int py2_3, .int py2_4, .int py2_5, .ref (y 3), .ref (y 4), .ref (y 5), .ref (y 6), .ref (y 7), .ref (y 8), .ref (y 9), .int py2_13, .int py2_14, .int py2_15, .int py2_16, .int py2_17])), (y 0, .inr (9, [.ref (y 1), .int py0_1, .ref (y 2), .ref (y 10), .ref (y 19), .ref (y 25), .ref (y 26), .ref (y 30), .ref (y 31), .ref (y 32), o10, o11, .int py0_12, .int py0_13, .int py0_14]))] := hD
        refine lv_if_eq (tgt := 108) hx hb dX9_litBy_91 (by decide) (fun c_20 => ?_) (fun c_20 => ?_)
        · have b_21 : iv 0 0 r_19 := iv_q c_20 (iv_c (0 : Int32) (a := 0) (b := 0) (by decide))
          refine lv_iload_n hx hb dX9_litBy_108 rfl (lv_at hl 1 rfl) ?_
          have hP := subP (ws' := [(y 4, aI V 4 fy4), (y 0, .inr (9, [.ref (y 1), .int py0_1, .ref (y 2), .ref (y 10), .ref (y 19), .ref (y 25), .ref (y 26), .ref (y 30), .ref (y 31), .ref (y 32), o10, o11, .int py0_12, .int py0_13, .int py0_14])), (y 2, .inr (1, [.int py2_0, .int py2_1, .int py2_2, .int py2_3, .int py2_4, .int py2_5, .ref (y 3), .ref (y 4), .ref (y 5), .ref (y 6), .ref (y 7), .ref (y 8), .ref (y 9), .int py2_13, .int py2_14, .int py2_15, .int py2_16, .int py2_17]))]) hP [0, 2, 1] rfl
          have hD := hD.sub (ws' := [(y 4, aI V 4 fy4), (y 0, .inr (9, [.ref (y 1), .int py0_1, .ref (y 2), .ref (y 10), .ref (y 19), .ref (y 25), .ref (y 26), .ref (y 30), .ref (y 31), .ref (y 32), o10, o11, .int py0_12, .int py0_13, .int py0_14])), (y 2, .inr (1, [.int py2_0, .int py2_1, .int py2_2, .int py2_3, .int py2_4, .int py2_5, .ref (y 3), .ref (y 4), .ref (y 5), .ref (y 6), .ref (y 7), .ref (y 8), .ref (y 9), .int py2_13, .int py2_14, .int py2_15, .int py2_16, .int py2_17]))]) [0, 2, 1] rfl rfl
          exact fiI hx hb hr hlk hK hP hD hS dX9_litBy_109 (Nat.le_of_ble_eq_true rfl) (Nat.le_of_ble_eq_true rfl) (rfl)
        · have b_22 : iv 1 1 r_19 := iv_n0 c_20 br_19 (iv_c (0 : Int32) (a := 0) (b := 0) (by decide)) (by decide)
          refine lv_iload_n hx hb dX9_litBy_94 rfl (lv_at hl 1 rfl) ?_
          refine lv_iconst (v := 1) hx hb dX9_litBy_95 (by decide) ?_
          refine lv_iload_n hx hb dX9_litBy_96 rfl (lv_at hl 0 rfl) ?_
          refine lv_iconst (v := 1) hx hb dX9_litBy_97 (by decide) ?_
          refine lv_isub hx hb dX9_litBy_98 ?_
          refine tpi (y := x_17) ex_17.symm ?_
          refine lv_ishl hx hb dX9_litBy_99 ?_
          refine lv_topi (fun x_23 ex_23 => ?_)
          refine lv_ior hx hb dX9_litBy_100 ?_
          refine lv_topi (fun x_24 ex_24 => ?_)
          refine lv_istore_n (lv' := [(2, .int x_24), (3, .int u_11), (0, .ref (y 0)), (1, .int a1)]) hx hb dX9_litBy_101 rfl hl (by decide) rfl (fun ls hl => ?_)
          obtain ⟨x_25, ex_25⟩ : ∃ z9 : Int32, z9 = u_11 + (-1) := ⟨_, rfl⟩
          have bx_25 : iv 0 2 x_25 := by rw [ex_25]; exact iv_add b_16 (iv_c ((-1) : Int32) (a := (-1)) (b := (-1)) (by decide)) (by decide)
          refine lv_iinc (v := x_25) (lv' := [(3, .int x_25), (2, .int x_24), (0, .ref (y 0)), (1, .int a1)]) hx hb dX9_litBy_102 hl (k := 1) rfl (by rw [ex_25]; rfl) (by decide) rfl (fun ls hl => ?_)
          refine lv_goto (tgt := 70) hx hb dX9_litBy_105 (by decide) ?_
          have hP := subP (ws' := [(y 4, aI V 4 fy4), (y 0, .inr (9, [.ref (y 1), .int py0_1, .ref (y 2), .ref (y 10), .ref (y 19), .ref (y 25), .ref (y 26), .ref (y 30), .ref (y 31), .ref (y 32), o10, o11, .int py0_12, .int py0_13, .int py0_14])), (y 2, .inr (1, [.int py2_0, .int py2_1, .int py2_2, .int py2_3, .int py2_4, .int py2_5, .ref (y 3), .ref (y 4), .ref (y 5), .ref (y 6), .ref (y 7), .ref (y 8), .ref (y 9), .int py2_13, .int py2_14, .int py2_15, .int py2_16, .int py2_17]))]) hP [0, 2, 1] rfl
          have hD := hD.sub (ws' := [(y 4, aI V 4 fy4), (y 0, .inr (9, [.ref (y 1), .int py0_1, .ref (y 2), .ref (y 10), .ref (y 19), .ref (y 25), .ref (y 26), .ref (y 30), .ref (y 31), .ref (y 32), o10, o11, .int py0_12, .int py0_13, .int py0_14])), (y 2, .inr (1, [.int py2_0, .int py2_1, .int py2_2, .int py2_3, .int py2_4, .int py2_5, .ref (y 3), .ref (y 4), .ref (y 5), .ref (y 6), .ref (y 7), .ref (y 8), .ref (y 9), .int py2_13, .int py2_14, .int py2_15, .int py2_16, .int py2_17]))]) [0, 2, 1] rfl rfl
          exact ihn_13 _ _ _ _ (by rw [en_13, ex_25]; exact mu_dn b_16 (by decide)) ⟨x_25, x_24, (iv_w bx_25 (by decide)), rfl, hP, hD, hS, lv_sub hl [0, 1, 2, 3] rfl⟩
    · have b_26 : iv 1 3 x_9 := iv_l1 (Int32.not_le.mp c_10) bx_9 bpy2_1 (by decide)
      have b_27 : iv 0 2 u_6 := iv_addb ex_9 b_26 bu_6 (iv_c (1 : Int32) (a := 1) (b := 1) (by decide)) (by decide)
      have b_28 : iv 2 4 py2_1 := iv_l2 (Int32.not_le.mp c_10) bx_9 bpy2_1 (by decide)
      refine lv_aload_n hx hb dX9_litBy_32 rfl (lv_at hl 2 rfl) ?_
      refine lv_iload_n hx hb dX9_litBy_33 rfl (lv_at hl 0 rfl) ?_
      refine lv_iload_n hx hb dX9_litBy_34 rfl (lv_at hl 0 rfl) ?_
      refine lv_iconst (v := 1) hx hb dX9_litBy_35 (by decide) ?_
      refine lv_iadd hx hb dX9_litBy_36 ?_
      refine tpi (y := x_9) ex_9.symm ?_
      refine lv_aload_n hx hb dX9_litBy_37 rfl (lv_at hl 2 rfl) ?_
      refine va_get (ci := 9) (v := .ref (y 2)) (C := RX9) (T := TX9) (N := 15) hx hb hg inX9 hown hK hP 1 rfl rfl 2 (by decide) (hg _ q_2_38) (fun _ h9 => h9) rfl dX9_litBy_38 ?_
      refine va_get (ci := 1) (v := .ref (y 4)) (C := RX1) (T := TX1) (N := 18) hx hb hg inX1 hown hK hP 2 rfl rfl 7 (by decide) (hg _ q_1_60) (fun _ h9 => h9) rfl dX9_litBy_41 ?_
      refine lv_iload_n hx hb dX9_litBy_44 rfl (lv_at hl 0 rfl) ?_
      refine lv_iconst (v := 1) hx hb dX9_litBy_45 (by decide) ?_
      refine lv_iadd hx hb dX9_litBy_46 ?_
      refine tpi (y := x_9) ex_9.symm ?_
      refine va_iald hx hb hK hP 0 0 rfl rfl (iv_in b_26 (by decide)) dX9_litBy_47 ?_
      refine lv_topi (fun x_29 ex_29 => ?_)
      refine jnI (wr := [(y 4, aI V 4 fy4), (y 2, .inr (1, [.int py2_0, .int py2_1, .int py2_2, .int py2_3, .int py2_4, .int py2_5, .ref (y 3), .ref (y 4), .ref (y 5), .ref (y 6), .ref (y 7), .ref (y 8), .ref (y 9), .int py2_13, .int py2_14, .int py2_15, .int py2_16, .int py2_17]))]) (rnV (rest := []) ⟨hx, hb, hml, hown, hg⟩ (k_X9_isSeen_0 l V y u_6 x_9 x_29 py0_1 o10 o11 py0_12 py0_13 py0_14 (iv_w b_27 (by decide)) (iv_w b_26 (by decide)) bpy0_1 bpy0_12 bpy0_13) mt_X9_isSeen q_4_227 ⟨Nat.le_of_ble_eq_true rfl, Nat.le_of_ble_eq_true rfl⟩ hK hP hD hS hA hE [1] rfl rfl 1 rfl rfl rfl rfl hl.1 rfl (Nat.le_of_ble_eq_true rfl) dX9_litBy_48 ⟨Nat.le_of_ble_eq_true rfl, Nat.le_of_ble_eq_true rfl⟩) hP hD hS hA [1] [0, 2] rfl rfl rfl (by decide) (fun r_30 w H locs hw hP hD hS => ?_)
      obtain ⟨br_30, rfl⟩ := hw
      have hP : va_P V.1 vwCl [(y 4, aI V 4 fy4), (y 2, .inr (1, [.int py2_0, .int py2_1, .int py2_2, .int py2_3, .int py2_4, .int py2_5, .ref (y 3), .ref (y 4), .ref (y 5), .ref (y 6), .ref (y 7), .ref (y 8), .ref (y 9), .int py2_13, .int py2_14, .int py2_15, .int py2_16, .int py2_17])), (y 0, .inr (9, [.ref (y 1), .int py0_1, .ref (y 2), .ref (y 10), .ref (y 19), .ref (y 25), .ref (y 26), .ref (y 30), .ref (y 31), .ref (y 32), o10, o11, .int py0_12, .int py0_13, .int py0_14]))] H := hP
      have hD : va_D A [(y 4, aI V 4 fy4), (y 2, .inr (1, [.int py2_0, .int py2_1, .int py2_2, .int py2_3, .int py2_4, .int py2_5, .ref (y 3), .ref (y 4), .ref (y 5), .ref (y 6), .ref (y 7), .ref (y 8), .ref (y 9), .int py2_13, .int py2_14, .int py2_15, .int py2_16, .int py2_17])), (y 0, .inr (9, [.ref (y 1), .int py0_1, .ref (y 2), .ref (y 10), .ref (y 19), .ref (y 25), .ref (y 26), .ref (y 30), .ref (y 31), .ref (y 32), o10, o11, .int py0_12, .int py0_13, .int py0_14]))] := hD
      refine lv_if_eq (tgt := 68) hx hb dX9_litBy_51 (by decide) (fun c_31 => ?_) (fun c_31 => ?_)
      · have b_32 : iv 0 0 r_30 := iv_q c_31 (iv_c (0 : Int32) (a := 0) (b := 0) (by decide))
        refine lv_iload_n hx hb dX9_litBy_68 rfl (lv_at hl 3 rfl) ?_
        refine lv_istore_n (lv' := [(3, .int a1), (2, .int u_7), (0, .ref (y 0)), (1, .int a1)]) hx hb dX9_litBy_69 rfl hl (by decide) rfl (fun ls hl => ?_)
        refine loopF (X := fun (n_35 : Nat) (H : Heap) (locs : List Loc) (ls : Array Slot) => ∃ (u_33 : Int32) (u_34 : Int32), (iv 0 3 u_33) ∧ n_35 = ((u_33 : Int32).toInt + 2147483648).toNat ∧ va_P V.1 vwCl [(y 4, aI V 4 fy4), (y 2, .inr (1, [.int py2_0, .int py2_1, .int py2_2, .int py2_3, .int py2_4, .int py2_5, .ref (y 3), .ref (y 4), .ref (y 5), .ref (y 6), .ref (y 7), .ref (y 8), .ref (y 9), .int py2_13, .int py2_14, .int py2_15, .int py2_16, .int py2_17])), (y 0, .inr (9, [.ref (y 1), .int py0_1, .ref (y 2), .ref (y 10), .ref (y 19), .ref (y 25), .ref (y 26), .ref (y 30), .ref (y 31), .ref (y 32), o10, o11, .int py0_12, .int py0_13, .int py0_14]))] H ∧ va_D A [(y 4, aI V 4 fy4), (y 2, .inr (1, [.int py2_0, .int py2_1, .int py2_2, .int py2_3, .int py2_4, .int py2_5, .ref (y 3), .ref (y 4), .ref (y 5), .ref (y 6), .ref (y 7), .ref (y 8), .ref (y 9), .int py2_13, .int py2_14, .int py2_15, .int py2_16, .int py2_17])), (y 0, .inr (9, [.ref (y 1), .int py0_1, .ref (y 2), .ref (y 10), .ref (y 19), .ref (y 25), .ref (y 26), .ref (y 30), .ref (y 31), .ref (y 32), o10, o11, .int py0_12, .int py0_13, .int py0_14]))] ∧ va_S A s.heap H locs ∧ lv_has ls 4 [(3, .int u_33), (2, .int u_34), (0, .ref (y 0)), (1, .int a1)]) (g := fun ls => F0 m 70 ls []) (fun n_35 H locs ls hX ihn_35 => ?_) _ ⟨a1, u_7, ba1, rfl, hP, hD, hS, lv_sub hl [0, 1, 2, 3] rfl⟩
        obtain ⟨u_33, u_34, bu_33, en_35, hP, hD, hS, hl⟩ := hX
        refine lv_iload_n hx hb dX9_litBy_70 rfl (lv_at hl 0 rfl) ?_
        refine lv_if_le (tgt := 108) hx hb dX9_litBy_71 (by decide) (fun c_36 => ?_) (fun c_36 => ?_)
        · have b_37 : iv 0 0 u_33 := iv_e1 c_36 bu_33 (iv_c (0 : Int32) (a := 0) (b := 0) (by decide)) (by decide)
          refine lv_iload_n hx hb dX9_litBy_108 rfl (lv_at hl 1 rfl) ?_
          have hP := subP (ws' := [(y 4, aI V 4 fy4), (y 0, .inr (9, [.ref (y 1), .int py0_1, .ref (y 2), .ref (y 10), .ref (y 19), .ref (y 25), .ref (y 26), .ref (y 30), .ref (y 31), .ref (y 32), o10, o11, .int py0_12, .int py0_13, .int py0_14])), (y 2, .inr (1, [.int py2_0, .int py2_1, .int py2_2, .int py2_3, .int py2_4, .int py2_5, .ref (y 3), .ref (y 4), .ref (y 5), .ref (y 6), .ref (y 7), .ref (y 8), .ref (y 9), .int py2_13, .int py2_14, .int py2_15, .int py2_16, .int py2_17]))]) hP [0, 2, 1] rfl
          have hD := hD.sub (ws' := [(y 4, aI V 4 fy4), (y 0, .inr (9, [.ref (y 1), .int py0_1, .ref (y 2), .ref (y 10), .ref (y 19), .ref (y 25), .ref (y 26), .ref (y 30), .ref (y 31), .ref (y 32), o10, o11, .int py0_12, .int py0_13, .int py0_14])), (y 2, .inr (1, [.int py2_0, .int py2_1, .int py2_2, .int py2_3, .int py2_4, .int py2_5, .ref (y 3), .ref (y 4), .ref (y 5), .ref (y 6), .ref (y 7), .ref (y 8), .ref (y 9), .int py2_13, .int py2_14, .int py2_15, .int py2_16, .int py2_17]))]) [0, 2, 1] rfl rfl
          exact fiI hx hb hr hlk hK hP hD hS dX9_litBy_109 (Nat.le_of_ble_eq_true rfl) (Nat.le_of_ble_eq_true rfl) (rfl)
        · have b_38 : iv 1 3 u_33 := iv_l2 (Int32.not_le.mp c_36) (iv_c (0 : Int32) (a := 0) (b := 0) (by decide)) bu_33 (by decide)
          refine lv_aload_n hx hb dX9_litBy_74 rfl (lv_at hl 2 rfl) ?_
          refine lv_iload_n hx hb dX9_litBy_75 rfl (lv_at hl 0 rfl) ?_
          refine lv_iload_n hx hb dX9_litBy_76 rfl (lv_at hl 0 rfl) ?_
          refine lv_iconst (v := 1) hx hb dX9_litBy_77 (by decide) ?_
          refine lv_isub hx hb dX9_litBy_78 ?_
          refine lv_topi (fun x_39 ex_39 => ?_)
          have bx_39 : iv 0 2 x_39 := by rw [ex_39]; exact iv_sub b_38 (iv_c (1 : Int32) (a := 1) (b := 1) (by decide)) (by decide)
          refine lv_aload_n hx hb dX9_litBy_79 rfl (lv_at hl 2 rfl) ?_
          refine va_get (ci := 9) (v := .ref (y 2)) (C := RX9) (T := TX9) (N := 15) hx hb hg inX9 hown hK hP 2 rfl rfl 2 (by decide) (hg _ q_2_38) (fun _ h9 => h9) rfl dX9_litBy_80 ?_
          refine va_get (ci := 1) (v := .ref (y 4)) (C := RX1) (T := TX1) (N := 18) hx hb hg inX1 hown hK hP 1 rfl rfl 7 (by decide) (hg _ q_1_60) (fun _ h9 => h9) rfl dX9_litBy_83 ?_
          refine lv_iload_n hx hb dX9_litBy_86 rfl (lv_at hl 0 rfl) ?_
          refine va_iald hx hb hK hP 0 0 rfl rfl (iv_in b_38 (by decide)) dX9_litBy_87 ?_
          refine lv_topi (fun x_40 ex_40 => ?_)
          refine jnI (wr := [(y 4, aI V 4 fy4), (y 2, .inr (1, [.int py2_0, .int py2_1, .int py2_2, .int py2_3, .int py2_4, .int py2_5, .ref (y 3), .ref (y 4), .ref (y 5), .ref (y 6), .ref (y 7), .ref (y 8), .ref (y 9), .int py2_13, .int py2_14, .int py2_15, .int py2_16, .int py2_17]))]) (rnV (rest := []) ⟨hx, hb, hml, hown, hg⟩ (k_X9_isSeen_0 l V y u_33 x_39 x_40 py0_1 o10 o11 py0_12 py0_13 py0_14 (iv_w b_38 (by decide)) (iv_w bx_39 (by decide)) bpy0_1 bpy0_12 bpy0_13) mt_X9_isSeen q_4_227 ⟨Nat.le_of_ble_eq_true rfl, Nat.le_of_ble_eq_true rfl⟩ hK hP hD hS hA hE [2] rfl rfl 2 rfl rfl rfl rfl hl.1 rfl (Nat.le_of_ble_eq_true rfl) dX9_litBy_88 ⟨Nat.le_of_ble_eq_true rfl, Nat.le_of_ble_eq_true rfl⟩) hP hD hS hA [2] [0, 1] rfl rfl rfl (by decide) (fun r_41 w H locs hw hP hD hS => ?_)
          obtain ⟨br_41, rfl⟩ := hw
          have hP : va_P V.1 vwCl [(y 4, aI V 4 fy4), (y 2, .inr (1, [.int py2_0, .int py2_1, .int py2_2, .int py2_3, .int py2_4, .int py2_5, .ref (y 3), .ref (y 4), .ref (y 5), .ref (y 6), .ref (y 7), .ref (y 8), .ref (y 9), .int py2_13, .int py2_14, .int py2_15, .int py2_16, .int py2_17])), (y 0, .inr (9, [.ref (y 1), .int py0_1, .ref (y 2), .ref (y 10), .ref (y 19), .ref (y 25), .ref (y 26), .ref (y 30), .ref (y 31), .ref (y 32), o10, o11, .int py0_12, .int py0_13, .int py0_14]))] H := hP
          have hD : va_D A [(y 4, aI V 4 fy4), (y 2, .inr (1, [.int py2_0, .int py2_1, .int py2_2, .int py2_3, .int py2_4, .int py2_5, .ref (y 3), .ref (y 4), .ref (y 5), .ref (y 6), .ref (y 7), .ref (y 8), .ref (y 9), .int py2_13, .int py2_14, .int py2_15, .int py2_16, .int py2_17])), (y 0, .inr (9, [.ref (y 1), .int py0_1, .ref (y 2), .ref (y 10), .ref (y 19), .ref (y 25), .ref (y 26), .ref (y 30), .ref (y 31), .ref (y 32), o10, o11, .int py0_12, .int py0_13, .int py0_14]))] := hD
          refine lv_if_eq (tgt := 108) hx hb dX9_litBy_91 (by decide) (fun c_42 => ?_) (fun c_42 => ?_)
          · have b_43 : iv 0 0 r_41 := iv_q c_42 (iv_c (0 : Int32) (a := 0) (b := 0) (by decide))
            refine lv_iload_n hx hb dX9_litBy_108 rfl (lv_at hl 1 rfl) ?_
            have hP := subP (ws' := [(y 4, aI V 4 fy4), (y 0, .inr (9, [.ref (y 1), .int py0_1, .ref (y 2), .ref (y 10), .ref (y 19), .ref (y 25), .ref (y 26), .ref (y 30), .ref (y 31), .ref (y 32), o10, o11, .int py0_12, .int py0_13, .int py0_14])), (y 2, .inr (1, [.int py2_0, .int py2_1, .int py2_2, .int py2_3, .int py2_4, .int py2_5, .ref (y 3), .ref (y 4), .ref (y 5), .ref (y 6), .ref (y 7), .ref (y 8), .ref (y 9), .int py2_13, .int py2_14, .int py2_15, .int py2_16, .int py2_17]))]) hP [0, 2, 1] rfl
            have hD := hD.sub (ws' := [(y 4, aI V 4 fy4), (y 0, .inr (9, [.ref (y 1), .int py0_1, .ref (y 2), .ref (y 10), .ref (y 19), .ref (y 25), .ref (y 26), .ref (y 30), .ref (y 31), .ref (y 32), o10, o11, .int py0_12, .int py0_13, .int py0_14])), (y 2, .inr (1, [.int py2_0, .int py2_1, .int py2_2, .int py2_3, .int py2_4, .int py2_5, .ref (y 3), .ref (y 4), .ref (y 5), .ref (y 6), .ref (y 7), .ref (y 8), .ref (y 9), .int py2_13, .int py2_14, .int py2_15, .int py2_16, .int py2_17]))]) [0, 2, 1] rfl rfl
            exact fiI hx hb hr hlk hK hP hD hS dX9_litBy_109 (Nat.le_of_ble_eq_true rfl) (Nat.le_of_ble_eq_true rfl) (rfl)
          · have b_44 : iv 1 1 r_41 := iv_n0 c_42 br_41 (iv_c (0 : Int32) (a := 0) (b := 0) (by decide)) (by decide)
            refine lv_iload_n hx hb dX9_litBy_94 rfl (lv_at hl 1 rfl) ?_
            refine lv_iconst (v := 1) hx hb dX9_litBy_95 (by decide) ?_
            refine lv_iload_n hx hb dX9_litBy_96 rfl (lv_at hl 0 rfl) ?_
            refine lv_iconst (v := 1) hx hb dX9_litBy_97 (by decide) ?_
            refine lv_isub hx hb dX9_litBy_98 ?_
            refine tpi (y := x_39) ex_39.symm ?_
            refine lv_ishl hx hb dX9_litBy_99 ?_
            refine lv_topi (fun x_45 ex_45 => ?_)
            refine lv_ior hx hb dX9_litBy_100 ?_
            refine lv_topi (fun x_46 ex_46 => ?_)
            refine lv_istore_n (lv' := [(2, .int x_46), (3, .int u_33), (0, .ref (y 0)), (1, .int a1)]) hx hb dX9_litBy_101 rfl hl (by decide) rfl (fun ls hl => ?_)
            obtain ⟨x_47, ex_47⟩ : ∃ z9 : Int32, z9 = u_33 + (-1) := ⟨_, rfl⟩
            have bx_47 : iv 0 2 x_47 := by rw [ex_47]; exact iv_add b_38 (iv_c ((-1) : Int32) (a := (-1)) (b := (-1)) (by decide)) (by decide)
            refine lv_iinc (v := x_47) (lv' := [(3, .int x_47), (2, .int x_46), (0, .ref (y 0)), (1, .int a1)]) hx hb dX9_litBy_102 hl (k := 1) rfl (by rw [ex_47]; rfl) (by decide) rfl (fun ls hl => ?_)
            refine lv_goto (tgt := 70) hx hb dX9_litBy_105 (by decide) ?_
            exact ihn_35 _ _ _ _ (by rw [en_35, ex_47]; exact mu_dn b_38 (by decide)) ⟨x_47, x_46, (iv_w bx_47 (by decide)), rfl, hP, hD, hS, lv_sub hl [0, 1, 2, 3] rfl⟩
      · have b_48 : iv 1 1 r_30 := iv_n0 c_31 br_30 (iv_c (0 : Int32) (a := 0) (b := 0) (by decide)) (by decide)
        refine lv_iload_n hx hb dX9_litBy_54 rfl (lv_at hl 1 rfl) ?_
        refine lv_iconst (v := 1) hx hb dX9_litBy_55 (by decide) ?_
        refine lv_iload_n hx hb dX9_litBy_56 rfl (lv_at hl 0 rfl) ?_
        refine lv_iconst (v := 1) hx hb dX9_litBy_57 (by decide) ?_
        refine lv_iadd hx hb dX9_litBy_58 ?_
        refine tpi (y := x_9) ex_9.symm ?_
        refine lv_ishl hx hb dX9_litBy_59 ?_
        refine lv_topi (fun x_49 ex_49 => ?_)
        refine lv_ior hx hb dX9_litBy_60 ?_
        refine lv_topi (fun x_50 ex_50 => ?_)
        refine lv_istore_n (lv' := [(2, .int x_50), (3, .int u_6), (0, .ref (y 0)), (1, .int a1)]) hx hb dX9_litBy_61 rfl hl (by decide) rfl (fun ls hl => ?_)
        obtain ⟨x_51, ex_51⟩ : ∃ z9 : Int32, z9 = u_6 + 1 := ⟨_, rfl⟩
        have bx_51 : iv 1 3 x_51 := by rw [ex_51]; exact iv_add b_27 (iv_c (1 : Int32) (a := 1) (b := 1) (by decide)) (by decide)
        refine lv_iinc (v := x_51) (lv' := [(3, .int x_51), (2, .int x_50), (0, .ref (y 0)), (1, .int a1)]) hx hb dX9_litBy_62 hl (k := 1) rfl (by rw [ex_51]; rfl) (by decide) rfl (fun ls hl => ?_)
        refine lv_goto (tgt := 19) hx hb dX9_litBy_65 (by decide) ?_
        have hP := subP (ws' := [(y 4, aI V 4 fy4), (y 0, .inr (9, [.ref (y 1), .int py0_1, .ref (y 2), .ref (y 10), .ref (y 19), .ref (y 25), .ref (y 26), .ref (y 30), .ref (y 31), .ref (y 32), o10, o11, .int py0_12, .int py0_13, .int py0_14])), (y 2, .inr (1, [.int py2_0, .int py2_1, .int py2_2, .int py2_3, .int py2_4, .int py2_5, .ref (y 3), .ref (y 4), .ref (y 5), .ref (y 6), .ref (y 7), .ref (y 8), .ref (y 9), .int py2_13, .int py2_14, .int py2_15, .int py2_16, .int py2_17]))]) hP [0, 2, 1] rfl
        have hD := hD.sub (ws' := [(y 4, aI V 4 fy4), (y 0, .inr (9, [.ref (y 1), .int py0_1, .ref (y 2), .ref (y 10), .ref (y 19), .ref (y 25), .ref (y 26), .ref (y 30), .ref (y 31), .ref (y 32), o10, o11, .int py0_12, .int py0_13, .int py0_14])), (y 2, .inr (1, [.int py2_0, .int py2_1, .int py2_2, .int py2_3, .int py2_4, .int py2_5, .ref (y 3), .ref (y 4), .ref (y 5), .ref (y 6), .ref (y 7), .ref (y 8), .ref (y 9), .int py2_13, .int py2_14, .int py2_15, .int py2_16, .int py2_17]))]) [0, 2, 1] rfl rfl
        exact ihn_8 _ _ _ _ (by rw [en_8, ex_51]; exact mu_up b_27 (by decide)) ⟨x_51, x_50, (iv_w bx_51 (by decide)), rfl, hP, hD, hS, lv_sub hl [0, 1, 2, 3] rfl⟩
  · have b_52 : iv 0 0 r_1 := iv_q c_3 (iv_c (0 : Int32) (a := 0) (b := 0) (by decide))
    refine lv_iconst (v := 0) hx hb dX9_litBy_11 (by decide) ?_
    exact fiI hx hb hr hlk hK hP hD hS dX9_litBy_12 (Nat.le_of_ble_eq_true rfl) (Nat.le_of_ble_eq_true rfl) (rfl)
theorem dX9_lit_0 : decode cX9_lit 0 = .ok (.aload_n 0, 1) := by decide +kernel
theorem dX9_lit_1 : decode cX9_lit 1 = .ok (.iload_n 1, 1) := by decide +kernel
theorem dX9_lit_2 : decode cX9_lit 2 = .ok (.invokevirtual 128, 3) := by decide +kernel
theorem dX9_lit_5 : decode cX9_lit 5 = .ok (.ifCond .eq 11, 3) := by decide +kernel
theorem dX9_lit_16 : decode cX9_lit 16 = .ok (.bipush (-2), 2) := by decide +kernel
theorem dX9_lit_18 : decode cX9_lit 18 = .ok (.ireturn, 1) := by decide +kernel
theorem dX9_lit_8 : decode cX9_lit 8 = .ok (.aload_n 0, 1) := by decide +kernel
theorem dX9_lit_9 : decode cX9_lit 9 = .ok (.iload_n 1, 1) := by decide +kernel
theorem q_4_226 : Cond.code yX9_litBy prog_1_method_46_code 4 (some FieldType.int) ∈ gw := gw_4 (i := 226) (rfl) rfl
theorem q_4_225 : Cond.instanceMethod yX9_litBy ∈ gw := gw_4 (i := 225) (by decide +kernel) rfl
theorem q_s_39 : Cond.selects "BeaconDelay" yX9_litBy yX9_litBy ∈ gw := gw_s (i := 39) (by decide +kernel) rfl
theorem mt_X9_litBy : MtV yX9_litBy cX9_litBy 4 (some .int) 1 := ⟨⟨q_4_226, q_1_1, by decide +kernel, by decide +kernel, by decide +kernel⟩, q_4_225, q_s_39⟩
theorem q_4_223 : Cond.methodLink "BeaconDelay" 295 yX9_litBy ∈ gw := gw_4 (i := 223) (by decide +kernel) rfl
theorem dX9_lit_10 : decode cX9_lit 10 = .ok (.invokevirtual 295, 3) := by decide +kernel
theorem dX9_lit_13 : decode cX9_lit 13 = .ok (.goto 5, 3) := by decide +kernel
set_option maxHeartbeats 4000000 in
set_option maxRecDepth 100000 in
theorem k_X9_lit_0 (l : Launch) (V : GV) (y : Nat → Nat) (a1 : Int32) (py0_1 : Int32) (o10 : Value) (o11 : Value) (py0_12 : Int32) (py0_13 : Int32) (py0_14 : Int32) (py2_0 : Int32) (py2_1 : Int32) (py2_2 : Int32) (py2_3 : Int32) (py2_4 : Int32) (py2_5 : Int32) (py2_13 : Int32) (py2_14 : Int32) (py2_15 : Int32) (py2_16 : Int32) (py2_17 : Int32) (fy4 : Nat → Int32) (bpy0_1 : iv 0 900 py0_1) (bpy0_12 : iv 0 9999 py0_12) (bpy0_13 : iv 0 9 py0_13) (bpy2_1 : iv 0 4 py2_1) (bpy2_2 : iv 0 4 py2_2) (bpy2_3 : iv 0 8 py2_3) (bpy2_4 : iv 0 9999 py2_4) (bpy2_5 : iv 0 9 py2_5) (bpy2_13 : iv 0 900 py2_13) (bpy2_14 : iv 0 900 py2_14) (bpy2_15 : iv 0 900 py2_15) (bpy2_16 : iv 0 900 py2_16) (bpy2_17 : iv 0 900 py2_17) : Ct l V yX9_lit (.code yX9_lit cX9_lit 2 (some .int)) 4 [.ref (y 0), .int a1] [(y 0, .inr (9, [.ref (y 1), .int py0_1, .ref (y 2), .ref (y 10), .ref (y 19), .ref (y 25), .ref (y 26), .ref (y 30), .ref (y 31), .ref (y 32), o10, o11, .int py0_12, .int py0_13, .int py0_14])), (y 2, .inr (1, [.int py2_0, .int py2_1, .int py2_2, .int py2_3, .int py2_4, .int py2_5, .ref (y 3), .ref (y 4), .ref (y 5), .ref (y 6), .ref (y 7), .ref (y 8), .ref (y 9), .int py2_13, .int py2_14, .int py2_15, .int py2_16, .int py2_17])), (y 4, aI V 4 fy4)] 0 0 (QI V (fun (r : Int32) (w : va_W) => w = [(y 0, .inr (9, [.ref (y 1), .int py0_1, .ref (y 2), .ref (y 10), .ref (y 19), .ref (y 25), .ref (y 26), .ref (y 30), .ref (y 31), .ref (y 32), o10, o11, .int py0_12, .int py0_13, .int py0_14])), (y 2, .inr (1, [.int py2_0, .int py2_1, .int py2_2, .int py2_3, .int py2_4, .int py2_5, .ref (y 3), .ref (y 4), .ref (y 5), .ref (y 6), .ref (y 7), .ref (y 8), .ref (y 9), .int py2_13, .int py2_14, .int py2_15, .int py2_16, .int py2_17])), (y 4, aI V 4 fy4)])) := by
  refine Ct.of (by decide) (Nat.le_of_ble_eq_true rfl) (fun p e s m below meth c A ls hx hb hr hml hown hlk hnm hg hP hK hD hE hA hS hl => ?_)
  have hl : lv_has ls 2 [(0, .ref (y 0)), (1, .int a1)] := hl
  refine lv_aload_n hx hb dX9_lit_0 rfl (lv_at hl 0 rfl) ?_
  refine lv_iload_n hx hb dX9_lit_1 rfl (lv_at hl 1 rfl) ?_
  refine jnI (wr := [(y 4, aI V 4 fy4)]) (rnV (rest := []) ⟨hx, hb, hml, hown, hg⟩ (k_X9_isHill_0 l V y a1 py0_1 o10 o11 py0_12 py0_13 py0_14 py2_0 py2_1 py2_2 py2_3 py2_4 py2_5 py2_13 py2_14 py2_15 py2_16 py2_17 bpy0_1 bpy0_12 bpy0_13 bpy2_1 bpy2_2 bpy2_3 bpy2_4 bpy2_5 bpy2_13 bpy2_14 bpy2_15 bpy2_16 bpy2_17) mt_X9_isHill q_3_122 ⟨Nat.le_of_ble_eq_true rfl, Nat.le_of_ble_eq_true rfl⟩ hK hP hD hS hA hE [0, 1] rfl rfl 0 rfl rfl rfl rfl hl.1 rfl (Nat.le_of_ble_eq_true rfl) dX9_lit_2 ⟨Nat.le_of_ble_eq_true rfl, Nat.le_of_ble_eq_true rfl⟩) hP hD hS hA [0, 1] [2] rfl rfl rfl (by decide) (fun r_1 w H locs hw hP hD hS => ?_)
  rcases hw with ⟨c_2, rfl, et_3, rfl⟩ | ⟨c_4, c_5, rfl, et_6, rfl⟩ | ⟨c_7, c_8, rfl, et_9, rfl⟩
  · have hP : va_P V.1 vwCl [(y 4, aI V 4 fy4), (y 0, .inr (9, [.ref (y 1), .int py0_1, .ref (y 2), .ref (y 10), .ref (y 19), .ref (y 25), .ref (y 26), .ref (y 30), .ref (y 31), .ref (y 32), o10, o11, .int py0_12, .int py0_13, .int py0_14])), (y 2, .inr (1, [.int py2_0, .int py2_1, .int py2_2, .int py2_3, .int py2_4, .int py2_5, .ref (y 3), .ref (y 4), .ref (y 5), .ref (y 6), .ref (y 7), .ref (y 8), .ref (y 9), .int py2_13, .int py2_14, .int py2_15, .int py2_16, .int py2_17]))] H := hP
    have hD : va_D A [(y 4, aI V 4 fy4), (y 0, .inr (9, [.ref (y 1), .int py0_1, .ref (y 2), .ref (y 10), .ref (y 19), .ref (y 25), .ref (y 26), .ref (y 30), .ref (y 31), .ref (y 32), o10, o11, .int py0_12, .int py0_13, .int py0_14])), (y 2, .inr (1, [.int py2_0, .int py2_1, .int py2_2, .int py2_3, .int py2_4, .int py2_5, .ref (y 3), .ref (y 4), .ref (y 5), .ref (y 6), .ref (y 7), .ref (y 8), .ref (y 9), .int py2_13, .int py2_14, .int py2_15, .int py2_16, .int py2_17]))] := hD
    have b_10 : iv (-2147483648) (-1) a1 := iv_l1 c_2 (iv_top a1) (iv_c (0 : Int32) (a := 0) (b := 0) (by decide)) (by decide)
    refine lv_if_eq (tgt := 16) hx hb dX9_lit_5 (by decide) (fun _ => ?_) (fun c_12 => absurd c_12 (by decide))
    refine lv_bipush (v := (-2)) hx hb dX9_lit_16 (by decide) ?_
    have hP := subP (ws' := [(y 0, .inr (9, [.ref (y 1), .int py0_1, .ref (y 2), .ref (y 10), .ref (y 19), .ref (y 25), .ref (y 26), .ref (y 30), .ref (y 31), .ref (y 32), o10, o11, .int py0_12, .int py0_13, .int py0_14])), (y 2, .inr (1, [.int py2_0, .int py2_1, .int py2_2, .int py2_3, .int py2_4, .int py2_5, .ref (y 3), .ref (y 4), .ref (y 5), .ref (y 6), .ref (y 7), .ref (y 8), .ref (y 9), .int py2_13, .int py2_14, .int py2_15, .int py2_16, .int py2_17])), (y 4, aI V 4 fy4)]) hP [1, 2, 0] rfl
    have hD := hD.sub (ws' := [(y 0, .inr (9, [.ref (y 1), .int py0_1, .ref (y 2), .ref (y 10), .ref (y 19), .ref (y 25), .ref (y 26), .ref (y 30), .ref (y 31), .ref (y 32), o10, o11, .int py0_12, .int py0_13, .int py0_14])), (y 2, .inr (1, [.int py2_0, .int py2_1, .int py2_2, .int py2_3, .int py2_4, .int py2_5, .ref (y 3), .ref (y 4), .ref (y 5), .ref (y 6), .ref (y 7), .ref (y 8), .ref (y 9), .int py2_13, .int py2_14, .int py2_15, .int py2_16, .int py2_17])), (y 4, aI V 4 fy4)]) [1, 2, 0] rfl rfl
    exact fiI hx hb hr hlk hK hP hD hS dX9_lit_18 (Nat.le_of_ble_eq_true rfl) (Nat.le_of_ble_eq_true rfl) (rfl)
  · have hP : va_P V.1 vwCl [(y 4, aI V 4 fy4), (y 0, .inr (9, [.ref (y 1), .int py0_1, .ref (y 2), .ref (y 10), .ref (y 19), .ref (y 25), .ref (y 26), .ref (y 30), .ref (y 31), .ref (y 32), o10, o11, .int py0_12, .int py0_13, .int py0_14])), (y 2, .inr (1, [.int py2_0, .int py2_1, .int py2_2, .int py2_3, .int py2_4, .int py2_5, .ref (y 3), .ref (y 4), .ref (y 5), .ref (y 6), .ref (y 7), .ref (y 8), .ref (y 9), .int py2_13, .int py2_14, .int py2_15, .int py2_16, .int py2_17]))] H := hP
    have hD : va_D A [(y 4, aI V 4 fy4), (y 0, .inr (9, [.ref (y 1), .int py0_1, .ref (y 2), .ref (y 10), .ref (y 19), .ref (y 25), .ref (y 26), .ref (y 30), .ref (y 31), .ref (y 32), o10, o11, .int py0_12, .int py0_13, .int py0_14])), (y 2, .inr (1, [.int py2_0, .int py2_1, .int py2_2, .int py2_3, .int py2_4, .int py2_5, .ref (y 3), .ref (y 4), .ref (y 5), .ref (y 6), .ref (y 7), .ref (y 8), .ref (y 9), .int py2_13, .int py2_14, .int py2_15, .int py2_16, .int py2_17]))] := hD
    have b_13 : iv 0 2147483647 a1 := iv_e2 (Int32.not_lt.mp c_4) (iv_c (0 : Int32) (a := 0) (b := 0) (by decide)) (iv_top a1) (by decide)
    refine lv_if_eq (tgt := 16) hx hb dX9_lit_5 (by decide) (fun _ => ?_) (fun c_15 => absurd c_15 (by decide))
    refine lv_bipush (v := (-2)) hx hb dX9_lit_16 (by decide) ?_
    have hP := subP (ws' := [(y 0, .inr (9, [.ref (y 1), .int py0_1, .ref (y 2), .ref (y 10), .ref (y 19), .ref (y 25), .ref (y 26), .ref (y 30), .ref (y 31), .ref (y 32), o10, o11, .int py0_12, .int py0_13, .int py0_14])), (y 2, .inr (1, [.int py2_0, .int py2_1, .int py2_2, .int py2_3, .int py2_4, .int py2_5, .ref (y 3), .ref (y 4), .ref (y 5), .ref (y 6), .ref (y 7), .ref (y 8), .ref (y 9), .int py2_13, .int py2_14, .int py2_15, .int py2_16, .int py2_17])), (y 4, aI V 4 fy4)]) hP [1, 2, 0] rfl
    have hD := hD.sub (ws' := [(y 0, .inr (9, [.ref (y 1), .int py0_1, .ref (y 2), .ref (y 10), .ref (y 19), .ref (y 25), .ref (y 26), .ref (y 30), .ref (y 31), .ref (y 32), o10, o11, .int py0_12, .int py0_13, .int py0_14])), (y 2, .inr (1, [.int py2_0, .int py2_1, .int py2_2, .int py2_3, .int py2_4, .int py2_5, .ref (y 3), .ref (y 4), .ref (y 5), .ref (y 6), .ref (y 7), .ref (y 8), .ref (y 9), .int py2_13, .int py2_14, .int py2_15, .int py2_16, .int py2_17])), (y 4, aI V 4 fy4)]) [1, 2, 0] rfl rfl
    exact fiI hx hb hr hlk hK hP hD hS dX9_lit_18 (Nat.le_of_ble_eq_true rfl) (Nat.le_of_ble_eq_true rfl) (rfl)
  · have hP : va_P V.1 vwCl [(y 4, aI V 4 fy4), (y 0, .inr (9, [.ref (y 1), .int py0_1, .ref (y 2), .ref (y 10), .ref (y 19), .ref (y 25), .ref (y 26), .ref (y 30), .ref (y 31), .ref (y 32), o10, o11, .int py0_12, .int py0_13, .int py0_14])), (y 2, .inr (1, [.int py2_0, .int py2_1, .int py2_2, .int py2_3, .int py2_4, .int py2_5, .ref (y 3), .ref (y 4), .ref (y 5), .ref (y 6), .ref (y 7), .ref (y 8), .ref (y 9), .int py2_13, .int py2_14, .int py2_15, .int py2_16, .int py2_17]))] H := hP
    have hD : va_D A [(y 4, aI V 4 fy4), (y 0, .inr (9, [.ref (y 1), .int py0_1, .ref (y 2), .ref (y 10), .ref (y 19), .ref (y 25), .ref (y 26), .ref (y 30), .ref (y 31), .ref (y 32), o10, o11, .int py0_12, .int py0_13, .int py0_14])), (y 2, .inr (1, [.int py2_0, .int py2_1, .int py2_2, .int py2_3, .int py2_4, .int py2_5, .ref (y 3), .ref (y 4), .ref (y 5), .ref (y 6), .ref (y 7), .ref (y 8), .ref (y 9), .int py2_13, .int py2_14, .int py2_15, .int py2_16, .int py2_17]))] := hD
    have b_16 : iv 0 2147483647 a1 := iv_e2 (Int32.not_lt.mp c_7) (iv_c (0 : Int32) (a := 0) (b := 0) (by decide)) (iv_top a1) (by decide)
    have b_17 : iv 0 3 a1 := iv_l1 (Int32.not_le.mp c_8) b_16 bpy2_1 (by decide)
    have b_18 : iv 1 4 py2_1 := iv_l2 (Int32.not_le.mp c_8) b_16 bpy2_1 (by decide)
    refine lv_if_eq (tgt := 16) hx hb dX9_lit_5 (by decide) (fun c_20 => absurd c_20 (by decide)) (fun _ => ?_)
    refine lv_aload_n hx hb dX9_lit_8 rfl (lv_at hl 0 rfl) ?_
    refine lv_iload_n hx hb dX9_lit_9 rfl (lv_at hl 1 rfl) ?_
    refine jnI (wr := []) (rnV (rest := []) ⟨hx, hb, hml, hown, hg⟩ (k_X9_litBy_0 l V y a1 fy4 py0_1 o10 o11 py0_12 py0_13 py0_14 py2_0 py2_1 py2_2 py2_3 py2_4 py2_5 py2_13 py2_14 py2_15 py2_16 py2_17 b_17 bpy0_1 bpy0_12 bpy0_13 (iv_w b_18 (by decide)) bpy2_2 bpy2_3 bpy2_4 bpy2_5 bpy2_13 bpy2_14 bpy2_15 bpy2_16 bpy2_17) mt_X9_litBy q_4_223 ⟨Nat.le_of_ble_eq_true rfl, Nat.le_of_ble_eq_true rfl⟩ hK hP hD hS hA hE [0, 1, 2] rfl rfl 1 rfl rfl rfl rfl hl.1 rfl (Nat.le_of_ble_eq_true rfl) dX9_lit_10 ⟨Nat.le_of_ble_eq_true rfl, Nat.le_of_ble_eq_true rfl⟩) hP hD hS hA [0, 1, 2] [] rfl rfl rfl (by decide) (fun r_21 w H locs hw hP hD hS => ?_)
    subst hw
    have hP : va_P V.1 vwCl [(y 4, aI V 4 fy4), (y 0, .inr (9, [.ref (y 1), .int py0_1, .ref (y 2), .ref (y 10), .ref (y 19), .ref (y 25), .ref (y 26), .ref (y 30), .ref (y 31), .ref (y 32), o10, o11, .int py0_12, .int py0_13, .int py0_14])), (y 2, .inr (1, [.int py2_0, .int py2_1, .int py2_2, .int py2_3, .int py2_4, .int py2_5, .ref (y 3), .ref (y 4), .ref (y 5), .ref (y 6), .ref (y 7), .ref (y 8), .ref (y 9), .int py2_13, .int py2_14, .int py2_15, .int py2_16, .int py2_17]))] H := hP
    have hD : va_D A [(y 4, aI V 4 fy4), (y 0, .inr (9, [.ref (y 1), .int py0_1, .ref (y 2), .ref (y 10), .ref (y 19), .ref (y 25), .ref (y 26), .ref (y 30), .ref (y 31), .ref (y 32), o10, o11, .int py0_12, .int py0_13, .int py0_14])), (y 2, .inr (1, [.int py2_0, .int py2_1, .int py2_2, .int py2_3, .int py2_4, .int py2_5, .ref (y 3), .ref (y 4), .ref (y 5), .ref (y 6), .ref (y 7), .ref (y 8), .ref (y 9), .int py2_13, .int py2_14, .int py2_15, .int py2_16, .int py2_17]))] := hD
    refine lv_goto (tgt := 18) hx hb dX9_lit_13 (by decide) ?_
    have hP := subP (ws' := [(y 0, .inr (9, [.ref (y 1), .int py0_1, .ref (y 2), .ref (y 10), .ref (y 19), .ref (y 25), .ref (y 26), .ref (y 30), .ref (y 31), .ref (y 32), o10, o11, .int py0_12, .int py0_13, .int py0_14])), (y 2, .inr (1, [.int py2_0, .int py2_1, .int py2_2, .int py2_3, .int py2_4, .int py2_5, .ref (y 3), .ref (y 4), .ref (y 5), .ref (y 6), .ref (y 7), .ref (y 8), .ref (y 9), .int py2_13, .int py2_14, .int py2_15, .int py2_16, .int py2_17])), (y 4, aI V 4 fy4)]) hP [1, 2, 0] rfl
    have hD := hD.sub (ws' := [(y 0, .inr (9, [.ref (y 1), .int py0_1, .ref (y 2), .ref (y 10), .ref (y 19), .ref (y 25), .ref (y 26), .ref (y 30), .ref (y 31), .ref (y 32), o10, o11, .int py0_12, .int py0_13, .int py0_14])), (y 2, .inr (1, [.int py2_0, .int py2_1, .int py2_2, .int py2_3, .int py2_4, .int py2_5, .ref (y 3), .ref (y 4), .ref (y 5), .ref (y 6), .ref (y 7), .ref (y 8), .ref (y 9), .int py2_13, .int py2_14, .int py2_15, .int py2_16, .int py2_17])), (y 4, aI V 4 fy4)]) [1, 2, 0] rfl rfl
    exact fiI hx hb hr hlk hK hP hD hS dX9_lit_18 (Nat.le_of_ble_eq_true rfl) (Nat.le_of_ble_eq_true rfl) (rfl)
