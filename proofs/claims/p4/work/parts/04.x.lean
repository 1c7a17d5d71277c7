theorem dX4_behind_0 : decode cX4_behind 0 = .ok (.iconst 0, 1) := by decide +kernel
theorem dX4_behind_1 : decode cX4_behind 1 = .ok (.istore 4, 2) := by decide +kernel
theorem dX4_behind_3 : decode cX4_behind 3 = .ok (.iconst 0, 1) := by decide +kernel
theorem dX4_behind_4 : decode cX4_behind 4 = .ok (.istore 5, 2) := by decide +kernel
theorem dX4_behind_6 : decode cX4_behind 6 = .ok (.iconst 0, 1) := by decide +kernel
theorem dX4_behind_7 : decode cX4_behind 7 = .ok (.istore 6, 2) := by decide +kernel
theorem dX4_behind_9 : decode cX4_behind 9 = .ok (.iload 6, 2) := by decide +kernel
theorem dX4_behind_11 : decode cX4_behind 11 = .ok (.aload_n 0, 1) := by decide +kernel
theorem dX4_behind_12 : decode cX4_behind 12 = .ok (.getfield 27, 3) := by decide +kernel
theorem q_1_39 : Cond.fieldLink "BeaconDelay$Laws" 37 "BeaconDelay$Coast" "hills" "I" ∈ gw := gw_1 (i := 39) (by decide +kernel) rfl
theorem dX4_behind_15 : decode cX4_behind 15 = .ok (.getfield 37, 3) := by decide +kernel
theorem dX4_behind_18 : decode cX4_behind 18 = .ok (.if_icmp .ge 71, 3) := by decide +kernel
theorem dX4_behind_89 : decode cX4_behind 89 = .ok (.iload 4, 2) := by decide +kernel
theorem dX4_behind_91 : decode cX4_behind 91 = .ok (.ireturn, 1) := by decide +kernel
theorem dX4_behind_21 : decode cX4_behind 21 = .ok (.iload_n 1, 1) := by decide +kernel
theorem dX4_behind_22 : decode cX4_behind 22 = .ok (.getstatic 43, 3) := by decide +kernel
theorem dX4_behind_25 : decode cX4_behind 25 = .ok (.iload 6, 2) := by decide +kernel
theorem dX4_behind_27 : decode cX4_behind 27 = .ok (.iaload, 1) := by decide +kernel
theorem dX4_behind_28 : decode cX4_behind 28 = .ok (.idiv, 1) := by decide +kernel
theorem dX4_behind_29 : decode cX4_behind 29 = .ok (.bipush 10, 2) := by decide +kernel
theorem dX4_behind_31 : decode cX4_behind 31 = .ok (.irem, 1) := by decide +kernel
theorem dX4_behind_32 : decode cX4_behind 32 = .ok (.istore 7, 2) := by decide +kernel
theorem dX4_behind_34 : decode cX4_behind 34 = .ok (.iload 6, 2) := by decide +kernel
theorem dX4_behind_36 : decode cX4_behind 36 = .ok (.iload_n 3, 1) := by decide +kernel
theorem dX4_behind_37 : decode cX4_behind 37 = .ok (.if_icmp .ne 7, 3) := by decide +kernel
theorem dX4_behind_44 : decode cX4_behind 44 = .ok (.iload 5, 2) := by decide +kernel
theorem dX4_behind_46 : decode cX4_behind 46 = .ok (.iconst 2, 1) := by decide +kernel
theorem dX4_behind_47 : decode cX4_behind 47 = .ok (.irem, 1) := by decide +kernel
theorem dX4_behind_48 : decode cX4_behind 48 = .ok (.istore 8, 2) := by decide +kernel
theorem dX4_behind_50 : decode cX4_behind 50 = .ok (.iload 4, 2) := by decide +kernel
theorem dX4_behind_52 : decode cX4_behind 52 = .ok (.aload_n 0, 1) := by decide +kernel
theorem dX4_behind_53 : decode cX4_behind 53 = .ok (.iload_n 2, 1) := by decide +kernel
theorem dX4_behind_54 : decode cX4_behind 54 = .ok (.iload 6, 2) := by decide +kernel
theorem dX4_behind_56 : decode cX4_behind 56 = .ok (.iload 7, 2) := by decide +kernel
theorem dX4_behind_58 : decode cX4_behind 58 = .ok (.iconst 2, 1) := by decide +kernel
theorem dX4_behind_59 : decode cX4_behind 59 = .ok (.idiv, 1) := by decide +kernel
theorem dX4_behind_60 : decode cX4_behind 60 = .ok (.iload 5, 2) := by decide +kernel
theorem dX4_behind_62 : decode cX4_behind 62 = .ok (.iconst 2, 1) := by decide +kernel
theorem dX4_behind_63 : decode cX4_behind 63 = .ok (.idiv, 1) := by decide +kernel
theorem dX4_behind_64 : decode cX4_behind 64 = .ok (.iload 8, 2) := by decide +kernel
theorem q_3_153 : Cond.code yX4_digitBehind prog_6_method_4_code 7 (some FieldType.int) ∈ gw := gw_3 (i := 153) (rfl) rfl
theorem q_3_151 : Cond.instanceMethod yX4_digitBehind ∈ gw := gw_3 (i := 151) (by decide +kernel) rfl
theorem q_3_152 : Cond.selects "BeaconDelay$Laws" yX4_digitBehind yX4_digitBehind ∈ gw := gw_3 (i := 152) (by decide +kernel) rfl
theorem mt_X4_digitBehind : MtV yX4_digitBehind cX4_digitBehind 7 (some .int) 5 := ⟨⟨q_3_153, q_1_4, by decide +kernel, by decide +kernel, by decide +kernel⟩, q_3_151, q_3_152⟩
theorem q_3_150 : Cond.methodLink "BeaconDelay$Laws" 46 yX4_digitBehind ∈ gw := gw_3 (i := 150) (by decide +kernel) rfl
theorem dX4_behind_66 : decode cX4_behind 66 = .ok (.invokevirtual 46, 3) := by decide +kernel
theorem dX4_behind_69 : decode cX4_behind 69 = .ok (.getstatic 43, 3) := by decide +kernel
theorem dX4_behind_72 : decode cX4_behind 72 = .ok (.iload 6, 2) := by decide +kernel
theorem dX4_behind_74 : decode cX4_behind 74 = .ok (.iaload, 1) := by decide +kernel
theorem dX4_behind_75 : decode cX4_behind 75 = .ok (.imul, 1) := by decide +kernel
theorem dX4_behind_76 : decode cX4_behind 76 = .ok (.iadd, 1) := by decide +kernel
theorem dX4_behind_77 : decode cX4_behind 77 = .ok (.istore 4, 2) := by decide +kernel
theorem dX4_behind_79 : decode cX4_behind 79 = .ok (.iload 7, 2) := by decide +kernel
theorem dX4_behind_81 : decode cX4_behind 81 = .ok (.istore 5, 2) := by decide +kernel
theorem dX4_behind_83 : decode cX4_behind 83 = .ok (.iinc 6 1, 3) := by decide +kernel
theorem dX4_behind_86 : decode cX4_behind 86 = .ok (.goto (-77), 3) := by decide +kernel
theorem dX4_behind_40 : decode cX4_behind 40 = .ok (.iconst 0, 1) := by decide +kernel
theorem dX4_behind_41 : decode cX4_behind 41 = .ok (.goto 7, 3) := by decide +kernel
set_option maxHeartbeats 4000000 in
set_option maxRecDepth 100000 in
theorem k_X4_behind_0 (l : Launch) (V : GV) (y : Nat → Nat) (a1 : Int32) (a2 : Int32) (a3 : Int32) (fy3 : Nat → Int32) (fy9 : Nat → Int32) (fy20 : Nat → Int32) (fy21 : Nat → Int32) (fy22 : Nat → Int32) (py2_0 : Int32) (py2_1 : Int32) (py2_2 : Int32) (py2_3 : Int32) (py2_4 : Int32) (py2_5 : Int32) (py2_13 : Int32) (py2_14 : Int32) (py2_15 : Int32) (py2_16 : Int32) (py2_17 : Int32) (bpy2_1 : iv 0 4 py2_1) (bpy2_2 : iv 0 4 py2_2) (bpy2_3 : iv 0 8 py2_3) (bpy2_13 : iv 0 900 py2_13) (bpy2_14 : iv 0 900 py2_14) (bpy2_15 : iv 0 900 py2_15) (bpy2_16 : iv 0 900 py2_16) (bpy2_17 : iv 0 900 py2_17) : Ct l V yX4_behind (.code yX4_behind cX4_behind 9 (some .int)) 5 [.ref (y 19), .int a1, .int a2, .int a3] [(y 3, aI V 4 fy3), (y 9, aI V 900 fy9), (y 19, .inr (4, [.ref (y 2), .ref (y 20), .ref (y 21), .ref (y 22), .ref (y 23), .ref (y 24)])), (y 20, aI V 2000 fy20), (y 21, aI V 6 fy21), (y 22, aI V 64 fy22), (y 2, .inr (1, [.int py2_0, .int py2_1, .int py2_2, .int py2_3, .int py2_4, .int py2_5, .ref (y 3), .ref (y 4), .ref (y 5), .ref (y 6), .ref (y 7), .ref (y 8), .ref (y 9), .int py2_13, .int py2_14, .int py2_15, .int py2_16, .int py2_17]))] 0 0 (QI V (fun (r : Int32) (w : va_W) => ∃ (g0 : Nat → Int32) (g1 : Nat → Int32) (g2 : Nat → Int32), w = [(y 3, aI V 4 fy3), (y 9, aI V 900 fy9), (y 19, .inr (4, [.ref (y 2), .ref (y 20), .ref (y 21), .ref (y 22), .ref (y 23), .ref (y 24)])), (y 20, aI V 2000 g0), (y 21, aI V 6 g1), (y 22, aI V 64 g2), (y 2, .inr (1, [.int py2_0, .int py2_1, .int py2_2, .int py2_3, .int py2_4, .int py2_5, .ref (y 3), .ref (y 4), .ref (y 5), .ref (y 6), .ref (y 7), .ref (y 8), .ref (y 9), .int py2_13, .int py2_14, .int py2_15, .int py2_16, .int py2_17]))])) := by
  refine Ct.of (by decide) (Nat.le_of_ble_eq_true rfl) (fun p e s m below meth c A ls hx hb hr hml hown hlk hnm hg hP hK hD hE hA hS hl => ?_)
  have hl : lv_has ls 9 [(0, .ref (y 19)), (1, .int a1), (2, .int a2), (3, .int a3)] := hl
  refine lv_iconst (v := 0) hx hb dX4_behind_0 (by decide) ?_
  refine lv_istore (lv' := [(4, .int 0), (0, .ref (y 19)), (1, .int a1), (2, .int a2), (3, .int a3)]) hx hb dX4_behind_1 hl (by decide) rfl (fun ls hl => ?_)
  refine lv_iconst (v := 0) hx hb dX4_behind_3 (by decide) ?_
  refine lv_istore (lv' := [(5, .int 0), (4, .int 0), (0, .ref (y 19)), (1, .int a1), (2, .int a2), (3, .int a3)]) hx hb dX4_behind_4 hl (by decide) rfl (fun ls hl => ?_)
  refine lv_iconst (v := 0) hx hb dX4_behind_6 (by decide) ?_
  refine lv_istore (lv' := [(6, .int 0), (5, .int 0), (4, .int 0), (0, .ref (y 19)), (1, .int a1), (2, .int a2), (3, .int a3)]) hx hb dX4_behind_7 hl (by decide) rfl (fun ls hl => ?_)
  refine loopF (X := fun (n_7 : Nat) (H : Heap) (locs : List Loc) (ls : Array Slot) => ∃ (u_1 : Int32) (u_2 : Int32) (u_3 : Int32) (f_4 : Nat → Int32) (f_5 : Nat → Int32) (f_6 : Nat → Int32), (iv 0 2147483647 u_1) ∧ n_7 = (2147483647 - (u_1 : Int32).toInt).toNat ∧ va_P V.1 vwCl [(y 3, aI V 4 fy3), (y 9, aI V 900 fy9), (y 19, .inr (4, [.ref (y 2), .ref (y 20), .ref (y 21), .ref (y 22), .ref (y 23), .ref (y 24)])), (y 20, aI V 2000 f_4), (y 21, aI V 6 f_5), (y 22, aI V 64 f_6), (y 2, .inr (1, [.int py2_0, .int py2_1, .int py2_2, .int py2_3, .int py2_4, .int py2_5, .ref (y 3), .ref (y 4), .ref (y 5), .ref (y 6), .ref (y 7), .ref (y 8), .ref (y 9), .int py2_13, .int py2_14, .int py2_15, .int py2_16, .int py2_17]))] H ∧ va_D A [(y 3, aI V 4 fy3), (y 9, aI V 900 fy9), (y 19, .inr (4, [.ref (y 2), .ref (y 20), .ref (y 21), .ref (y 22), .ref (y 23), .ref (y 24)])), (y 20, aI V 2000 f_4), (y 21, aI V 6 f_5), (y 22, aI V 64 f_6), (y 2, .inr (1, [.int py2_0, .int py2_1, .int py2_2, .int py2_3, .int py2_4, .int py2_5, .ref (y 3), .ref (y 4), .ref (y 5), .ref (y 6), .ref (y 7), .ref (y 8), .ref (y 9), .int py2_13, .int py2_14, .int py2_15, .int py2_16, .int py2_17]))] ∧ va_S A s.heap H locs ∧ lv_has ls 9 [(6, .int u_1), (5, .int u_2), (4, .int u_3), (0, .ref (y 19)), (1, .int a1), (2, .int a2), (3, .int a3)]) (g := fun ls => F0 m 9 ls []) (fun n_7 H locs ls hX ihn_7 => ?_) _ ⟨0, 0, 0, fy20, fy21, fy22, (iv_c (0 : Int32) (by decide)), rfl, hP, hD, hS, lv_sub hl [0, 1, 2, 3, 4, 5, 6] rfl⟩
  obtain ⟨u_1, u_2, u_3, f_4, f_5, f_6, bu_1, en_7, hP, hD, hS, hl⟩ := hX
  refine lv_iload hx hb dX4_behind_9 (lv_at hl 0 rfl) ?_
  refine lv_aload_n hx hb dX4_behind_11 rfl (lv_at hl 3 rfl) ?_
  refine va_get (ci := 4) (v := .ref (y 2)) (C := RX4) (T := TX4) (N := 6) hx hb hg inX4 hown hK hP 2 rfl rfl 0 (by decide) (hg _ q_1_171) (fun _ h9 => h9) rfl dX4_behind_12 ?_
  refine va_get (ci := 1) (v := .int py2_1) (C := RX1) (T := TX1) (N := 18) hx hb hg inX1 hown hK hP 6 rfl rfl 1 (by decide) (hg _ q_1_39) (fun _ h9 => h9) rfl dX4_behind_15 ?_
  refine lv_icmp_ge (tgt := 89) hx hb dX4_behind_18 (by decide) (fun c_8 => ?_) (fun c_8 => ?_)
  · refine lv_iload hx hb dX4_behind_89 (lv_at hl 2 rfl) ?_
    exact fiI hx hb hr hlk hK hP hD hS dX4_behind_91 (Nat.le_of_ble_eq_true rfl) (Nat.le_of_ble_eq_true rfl) (⟨f_4, f_5, f_6, rfl⟩)
  · have b_9 : iv 0 3 u_1 := iv_l1 (Int32.not_le.mp c_8) bu_1 bpy2_1 (by decide)
    have b_10 : iv 1 4 py2_1 := iv_l2 (Int32.not_le.mp c_8) bu_1 bpy2_1 (by decide)
    refine lv_iload_n hx hb dX4_behind_21 rfl (lv_at hl 4 rfl) ?_
    refine va_getsN (C := "BeaconDelay") (n := "POWER") (d := "[I") hx hb hE.1.1 hS hown (va_Nw.use rfl (hE.2.2.2.2.1 _ (show ("BeaconDelay$Laws", 43, "POWER", "[I") ∈ nF by decide))) (fun _ h9 => h9) dX4_behind_22 ?_
    refine lv_iload hx hb dX4_behind_25 (lv_at hl 0 rfl) ?_
    refine va_ti (v := .int (pw u_1.toNatClampNeg)) hx hb hE.1.2 hS (iv_in b_9 (by decide)) rfl dX4_behind_27 ?_
    refine lv_topi (fun x_11 ex_11 => ?_)
    have bx_11 : iv 1 10000 x_11 := by rw [ex_11]; exact pw_iv b_9 (by decide)
    refine lv_idiv hx hb dX4_behind_28 (iv_nz bx_11 (by decide)) ?_
    refine lv_topi (fun x_12 ex_12 => ?_)
    refine lv_bipush (v := 10) hx hb dX4_behind_29 (by decide) ?_
    refine lv_irem hx hb dX4_behind_31 (by decide) ?_
    refine lv_topi (fun x_13 ex_13 => ?_)
    refine lv_istore (lv' := [(7, .int x_13), (6, .int u_1), (5, .int u_2), (4, .int u_3), (0, .ref (y 19)), (1, .int a1), (2, .int a2), (3, .int a3)]) hx hb dX4_behind_32 hl (by decide) rfl (fun ls hl => ?_)
    refine lv_iload hx hb dX4_behind_34 (lv_at hl 1 rfl) ?_
    refine lv_iload_n hx hb dX4_behind_36 rfl (lv_at hl 7 rfl) ?_
    refine lv_icmp_ne (tgt := 44) hx hb dX4_behind_37 (by decide) (fun c_14 => ?_) (fun c_14 => ?_)
    · refine lv_iload hx hb dX4_behind_44 (lv_at hl 2 rfl) ?_
      refine lv_iconst (v := 2) hx hb dX4_behind_46 (by decide) ?_
      refine lv_irem hx hb dX4_behind_47 (by decide) ?_
      refine lv_topi (fun x_15 ex_15 => ?_)
      refine lv_istore (lv' := [(8, .int x_15), (7, .int x_13), (6, .int u_1), (5, .int u_2), (4, .int u_3), (0, .ref (y 19)), (1, .int a1), (2, .int a2), (3, .int a3)]) hx hb dX4_behind_48 hl (by decide) rfl (fun ls hl => ?_)
      refine lv_iload hx hb dX4_behind_50 (lv_at hl 4 rfl) ?_
      refine lv_aload_n hx hb dX4_behind_52 rfl (lv_at hl 5 rfl) ?_
      refine lv_iload_n hx hb dX4_behind_53 rfl (lv_at hl 7 rfl) ?_
      refine lv_iload hx hb dX4_behind_54 (lv_at hl 2 rfl) ?_
      refine lv_iload hx hb dX4_behind_56 (lv_at hl 1 rfl) ?_
      refine lv_iconst (v := 2) hx hb dX4_behind_58 (by decide) ?_
      refine lv_idiv hx hb dX4_behind_59 (by decide) ?_
      refine lv_topi (fun x_16 ex_16 => ?_)
      refine lv_iload hx hb dX4_behind_60 (lv_at hl 3 rfl) ?_
      refine lv_iconst (v := 2) hx hb dX4_behind_62 (by decide) ?_
      refine lv_idiv hx hb dX4_behind_63 (by decide) ?_
      refine lv_topi (fun x_17 ex_17 => ?_)
      refine lv_iload hx hb dX4_behind_64 (lv_at hl 0 rfl) ?_
      refine jnI (wr := []) (rnV (rest := [.int u_3]) ⟨hx, hb, hml, hown, hg⟩ (k_X4_digitBehind_0 l V y a2 u_1 x_16 x_17 x_15 fy3 fy9 f_4 f_5 f_6 py2_0 py2_1 py2_2 py2_3 py2_4 py2_5 py2_13 py2_14 py2_15 py2_16 py2_17 b_9 (iv_w b_10 (by decide)) bpy2_2 bpy2_3 bpy2_13 bpy2_14 bpy2_15 bpy2_16 bpy2_17) mt_X4_digitBehind q_3_150 ⟨Nat.le_of_ble_eq_true rfl, Nat.le_of_ble_eq_true rfl⟩ hK hP hD hS hA hE [0, 1, 2, 3, 4, 5, 6] rfl rfl 2 rfl rfl rfl rfl hl.1 rfl (Nat.le_of_ble_eq_true rfl) dX4_behind_66 ⟨Nat.le_of_ble_eq_true rfl, Nat.le_of_ble_eq_true rfl⟩) hP hD hS hA [0, 1, 2, 3, 4, 5, 6] [] rfl rfl rfl (by decide) (fun r_18 w H locs hw hP hD hS => ?_)
      obtain ⟨f_19, f_20, f_21, rfl⟩ := hw
      have hP : va_P V.1 vwCl [(y 3, aI V 4 fy3), (y 9, aI V 900 fy9), (y 19, .inr (4, [.ref (y 2), .ref (y 20), .ref (y 21), .ref (y 22), .ref (y 23), .ref (y 24)])), (y 20, aI V 2000 f_19), (y 21, aI V 6 f_20), (y 22, aI V 64 f_21), (y 2, .inr (1, [.int py2_0, .int py2_1, .int py2_2, .int py2_3, .int py2_4, .int py2_5, .ref (y 3), .ref (y 4), .ref (y 5), .ref (y 6), .ref (y 7), .ref (y 8), .ref (y 9), .int py2_13, .int py2_14, .int py2_15, .int py2_16, .int py2_17]))] H := hP
      have hD : va_D A [(y 3, aI V 4 fy3), (y 9, aI V 900 fy9), (y 19, .inr (4, [.ref (y 2), .ref (y 20), .ref (y 21), .ref (y 22), .ref (y 23), .ref (y 24)])), (y 20, aI V 2000 f_19), (y 21, aI V 6 f_20), (y 22, aI V 64 f_21), (y 2, .inr (1, [.int py2_0, .int py2_1, .int py2_2, .int py2_3, .int py2_4, .int py2_5, .ref (y 3), .ref (y 4), .ref (y 5), .ref (y 6), .ref (y 7), .ref (y 8), .ref (y 9), .int py2_13, .int py2_14, .int py2_15, .int py2_16, .int py2_17]))] := hD
      refine va_getsN (C := "BeaconDelay") (n := "POWER") (d := "[I") hx hb hE.1.1 hS hown (va_Nw.use rfl (hE.2.2.2.2.1 _ (show ("BeaconDelay$Laws", 43, "POWER", "[I") ∈ nF by decide))) (fun _ h9 => h9) dX4_behind_69 ?_
      refine lv_iload hx hb dX4_behind_72 (lv_at hl 2 rfl) ?_
      refine va_ti (v := .int (pw u_1.toNatClampNeg)) hx hb hE.1.2 hS (iv_in b_9 (by decide)) rfl dX4_behind_74 ?_
      refine lv_topi (fun x_22 ex_22 => ?_)
      have bx_22 : iv 1 10000 x_22 := by rw [ex_22]; exact pw_iv b_9 (by decide)
      refine lv_imul hx hb dX4_behind_75 ?_
      refine lv_topi (fun x_23 ex_23 => ?_)
      refine lv_iadd hx hb dX4_behind_76 ?_
      refine lv_topi (fun x_24 ex_24 => ?_)
      refine lv_istore (lv' := [(4, .int x_24), (8, .int x_15), (7, .int x_13), (6, .int u_1), (5, .int u_2), (0, .ref (y 19)), (1, .int a1), (2, .int a2), (3, .int a3)]) hx hb dX4_behind_77 hl (by decide) rfl (fun ls hl => ?_)
      refine lv_iload hx hb dX4_behind_79 (lv_at hl 2 rfl) ?_
      refine lv_istore (lv' := [(5, .int x_13), (4, .int x_24), (8, .int x_15), (7, .int x_13), (6, .int u_1), (0, .ref (y 19)), (1, .int a1), (2, .int a2), (3, .int a3)]) hx hb dX4_behind_81 hl (by decide) rfl (fun ls hl => ?_)
      obtain ⟨x_25, ex_25⟩ : ∃ z9 : Int32, z9 = u_1 + 1 := ⟨_, rfl⟩
      have bx_25 : iv 1 4 x_25 := by rw [ex_25]; exact iv_add b_9 (iv_c (1 : Int32) (a := 1) (b := 1) (by decide)) (by decide)
      refine lv_iinc (v := x_25) (lv' := [(6, .int x_25), (5, .int x_13), (4, .int x_24), (8, .int x_15), (7, .int x_13), (0, .ref (y 19)), (1, .int a1), (2, .int a2), (3, .int a3)]) hx hb dX4_behind_83 hl (k := 4) rfl (by rw [ex_25]; rfl) (by decide) rfl (fun ls hl => ?_)
      refine lv_goto (tgt := 9) hx hb dX4_behind_86 (by decide) ?_
      exact ihn_7 _ _ _ _ (by rw [en_7, ex_25]; exact mu_up b_9 (by decide)) ⟨x_25, x_13, x_24, f_19, f_20, f_21, (iv_w bx_25 (by decide)), rfl, hP, hD, hS, lv_sub hl [0, 1, 2, 5, 6, 7, 8] rfl⟩
    · have b_26 : iv 0 3 a3 := iv_q c_14.symm b_9
      refine lv_iconst (v := 0) hx hb dX4_behind_40 (by decide) ?_
      refine lv_goto (tgt := 48) hx hb dX4_behind_41 (by decide) ?_
      refine lv_istore (lv' := [(8, .int 0), (7, .int x_13), (6, .int u_1), (5, .int u_2), (4, .int u_3), (0, .ref (y 19)), (1, .int a1), (2, .int a2), (3, .int a3)]) hx hb dX4_behind_48 hl (by decide) rfl (fun ls hl => ?_)
      refine lv_iload hx hb dX4_behind_50 (lv_at hl 4 rfl) ?_
      refine lv_aload_n hx hb dX4_behind_52 rfl (lv_at hl 5 rfl) ?_
      refine lv_iload_n hx hb dX4_behind_53 rfl (lv_at hl 7 rfl) ?_
      refine lv_iload hx hb dX4_behind_54 (lv_at hl 2 rfl) ?_
      refine lv_iload hx hb dX4_behind_56 (lv_at hl 1 rfl) ?_
      refine lv_iconst (v := 2) hx hb dX4_behind_58 (by decide) ?_
      refine lv_idiv hx hb dX4_behind_59 (by decide) ?_
      refine lv_topi (fun x_27 ex_27 => ?_)
      refine lv_iload hx hb dX4_behind_60 (lv_at hl 3 rfl) ?_
      refine lv_iconst (v := 2) hx hb dX4_behind_62 (by decide) ?_
      refine lv_idiv hx hb dX4_behind_63 (by decide) ?_
      refine lv_topi (fun x_28 ex_28 => ?_)
      refine lv_iload hx hb dX4_behind_64 (lv_at hl 0 rfl) ?_
      refine jnI (wr := []) (rnV (rest := [.int u_3]) ⟨hx, hb, hml, hown, hg⟩ (k_X4_digitBehind_0 l V y a2 u_1 x_27 x_28 0 fy3 fy9 f_4 f_5 f_6 py2_0 py2_1 py2_2 py2_3 py2_4 py2_5 py2_13 py2_14 py2_15 py2_16 py2_17 b_9 (iv_w b_10 (by decide)) bpy2_2 bpy2_3 bpy2_13 bpy2_14 bpy2_15 bpy2_16 bpy2_17) mt_X4_digitBehind q_3_150 ⟨Nat.le_of_ble_eq_true rfl, Nat.le_of_ble_eq_true rfl⟩ hK hP hD hS hA hE [0, 1, 2, 3, 4, 5, 6] rfl rfl 2 rfl rfl rfl rfl hl.1 rfl (Nat.le_of_ble_eq_true rfl) dX4_behind_66 ⟨Nat.le_of_ble_eq_true rfl, Nat.le_of_ble_eq_true rfl⟩) hP hD hS hA [0, 1, 2, 3, 4, 5, 6] [] rfl rfl rfl (by decide) (fun r_29 w H locs hw hP hD hS => ?_)
      obtain ⟨f_30, f_31, f_32, rfl⟩ := hw
      have hP : va_P V.1 vwCl [(y 3, aI V 4 fy3), (y 9, aI V 900 fy9), (y 19, .inr (4, [.ref (y 2), .ref (y 20), .ref (y 21), .ref (y 22), .ref (y 23), .ref (y 24)])), (y 20, aI V 2000 f_30), (y 21, aI V 6 f_31), (y 22, aI V 64 f_32), (y 2, .inr (1, [.int py2_0, .int py2_1, .int py2_2, .int py2_3, .int py2_4, .int py2_5, .ref (y 3), .ref (y 4), .ref (y 5), .ref (y 6), .ref (y 7), .ref (y 8), .ref (y 9), .int py2_13, .int py2_14, .int py2_15, .int py2_16, .int py2_17]))] H := hP
      have hD : va_D A [(y 3, aI V 4 fy3), (y 9, aI V 900 fy9), (y 19, .inr (4, [.ref (y 2), .ref (y 20), .ref (y 21), .ref (y 22), .ref (y 23), .ref (y 24)])), (y 20, aI V 2000 f_30), (y 21, aI V 6 f_31), (y 22, aI V 64 f_32), (y 2, .inr (1, [.int py2_0, .int py2_1, .int py2_2, .int py2_3, .int py2_4, .int py2_5, .ref (y 3), .ref (y 4), .ref (y 5), .ref (y 6), .ref (y 7), .ref (y 8), .ref (y 9), .int py2_13, .int py2_14, .int py2_15, .int py2_16, .int py2_17]))] := hD
      refine va_getsN (C := "BeaconDelay") (n := "POWER") (d := "[I") hx hb hE.1.1 hS hown (va_Nw.use rfl (hE.2.2.2.2.1 _ (show ("BeaconDelay$Laws", 43, "POWER", "[I") ∈ nF by decide))) (fun _ h9 => h9) dX4_behind_69 ?_
      refine lv_iload hx hb dX4_behind_72 (lv_at hl 2 rfl) ?_
      refine va_ti (v := .int (pw u_1.toNatClampNeg)) hx hb hE.1.2 hS (iv_in b_9 (by decide)) rfl dX4_behind_74 ?_
      refine lv_topi (fun x_33 ex_33 => ?_)
      have bx_33 : iv 1 10000 x_33 := by rw [ex_33]; exact pw_iv b_9 (by decide)
      refine lv_imul hx hb dX4_behind_75 ?_
      refine lv_topi (fun x_34 ex_34 => ?_)
      refine lv_iadd hx hb dX4_behind_76 ?_
      refine lv_topi (fun x_35 ex_35 => ?_)
      refine lv_istore (lv' := [(4, .int x_35), (8, .int 0), (7, .int x_13), (6, .int u_1), (5, .int u_2), (0, .ref (y 19)), (1, .int a1), (2, .int a2), (3, .int a3)]) hx hb dX4_behind_77 hl (by decide) rfl (fun ls hl => ?_)
      refine lv_iload hx hb dX4_behind_79 (lv_at hl 2 rfl) ?_
      refine lv_istore (lv' := [(5, .int x_13), (4, .int x_35), (8, .int 0), (7, .int x_13), (6, .int u_1), (0, .ref (y 19)), (1, .int a1), (2, .int a2), (3, .int a3)]) hx hb dX4_behind_81 hl (by decide) rfl (fun ls hl => ?_)
      obtain ⟨x_36, ex_36⟩ : ∃ z9 : Int32, z9 = u_1 + 1 := ⟨_, rfl⟩
      have bx_36 : iv 1 4 x_36 := by rw [ex_36]; exact iv_add b_9 (iv_c (1 : Int32) (a := 1) (b := 1) (by decide)) (by decide)
      refine lv_iinc (v := x_36) (lv' := [(6, .int x_36), (5, .int x_13), (4, .int x_35), (8, .int 0), (7, .int x_13), (0, .ref (y 19)), (1, .int a1), (2, .int a2), (3, .int a3)]) hx hb dX4_behind_83 hl (k := 4) rfl (by rw [ex_36]; rfl) (by decide) rfl (fun ls hl => ?_)
      refine lv_goto (tgt := 9) hx hb dX4_behind_86 (by decide) ?_
      exact ihn_7 _ _ _ _ (by rw [en_7, ex_36]; exact mu_up b_9 (by decide)) ⟨x_36, x_13, x_35, f_30, f_31, f_32, (iv_w bx_36 (by decide)), rfl, hP, hD, hS, lv_sub hl [0, 1, 2, 5, 6, 7, 8] rfl⟩
theorem dX9_takes_0 : decode cX9_takes 0 = .ok (.aload_n 0, 1) := by decide +kernel
theorem dX9_takes_1 : decode cX9_takes 1 = .ok (.iload_n 2, 1) := by decide +kernel
theorem dX9_takes_2 : decode cX9_takes 2 = .ok (.invokevirtual 128, 3) := by decide +kernel
theorem dX9_takes_5 : decode cX9_takes 5 = .ok (.ifCond .ne 6, 3) := by decide +kernel
theorem dX9_takes_8 : decode cX9_takes 8 = .ok (.bipush (-2), 2) := by decide +kernel
theorem dX9_takes_10 : decode cX9_takes 10 = .ok (.ireturn, 1) := by decide +kernel
theorem dX9_takes_11 : decode cX9_takes 11 = .ok (.aload_n 0, 1) := by decide +kernel
theorem dX9_takes_12 : decode cX9_takes 12 = .ok (.iload_n 1, 1) := by decide +kernel
theorem dX9_takes_13 : decode cX9_takes 13 = .ok (.i2l, 1) := by decide +kernel
theorem q_3_144 : Cond.code yX9_isNight prog_1_method_12_code 3 (some FieldType.boolean) ∈ gw := gw_3 (i := 144) (rfl) rfl
theorem q_3_143 : Cond.instanceMethod yX9_isNight ∈ gw := gw_3 (i := 143) (by decide +kernel) rfl
theorem q_s_24 : Cond.selects "BeaconDelay" yX9_isNight yX9_isNight ∈ gw := gw_s (i := 24) (by decide +kernel) rfl
theorem mt_X9_isNight : MtV yX9_isNight cX9_isNight 3 (some .boolean) 1 := ⟨⟨q_3_144, q_1_1, by decide +kernel, by decide +kernel, by decide +kernel⟩, q_3_143, q_s_24⟩
theorem q_3_141 : Cond.methodLink "BeaconDelay" 151 yX9_isNight ∈ gw := gw_3 (i := 141) (by decide +kernel) rfl
theorem dX9_takes_14 : decode cX9_takes 14 = .ok (.invokevirtual 151, 3) := by decide +kernel
theorem dX9_takes_17 : decode cX9_takes 17 = .ok (.ifCond .eq 26, 3) := by decide +kernel
theorem dX9_takes_43 : decode cX9_takes 43 = .ok (.bipush (-5), 2) := by decide +kernel
theorem dX9_takes_45 : decode cX9_takes 45 = .ok (.ireturn, 1) := by decide +kernel
theorem dX9_takes_20 : decode cX9_takes 20 = .ok (.aload_n 0, 1) := by decide +kernel
theorem q_2_40 : Cond.fieldLink "BeaconDelay" 34 "BeaconDelay" "laws" "LBeaconDelay$Laws;" ∈ gw := gw_2 (i := 40) (by decide +kernel) rfl
theorem dX9_takes_21 : decode cX9_takes 21 = .ok (.getfield 34, 3) := by decide +kernel
theorem dX9_takes_24 : decode cX9_takes 24 = .ok (.aload_n 0, 1) := by decide +kernel
theorem dX9_takes_25 : decode cX9_takes 25 = .ok (.getfield 113, 3) := by decide +kernel
theorem dX9_takes_28 : decode cX9_takes 28 = .ok (.aload_n 0, 1) := by decide +kernel
theorem dX9_takes_29 : decode cX9_takes 29 = .ok (.getfield 116, 3) := by decide +kernel
theorem dX9_takes_32 : decode cX9_takes 32 = .ok (.iload_n 1, 1) := by decide +kernel
theorem q_3_148 : Cond.code yX4_behind prog_6_method_3_code 9 (some FieldType.int) ∈ gw := gw_3 (i := 148) (rfl) rfl
theorem q_3_146 : Cond.instanceMethod yX4_behind ∈ gw := gw_3 (i := 146) (by decide +kernel) rfl
theorem q_3_147 : Cond.selects "BeaconDelay$Laws" yX4_behind yX4_behind ∈ gw := gw_3 (i := 147) (by decide +kernel) rfl
theorem mt_X4_behind : MtV yX4_behind cX4_behind 9 (some .int) 3 := ⟨⟨q_3_148, q_1_4, by decide +kernel, by decide +kernel, by decide +kernel⟩, q_3_146, q_3_147⟩
theorem q_3_145 : Cond.methodLink "BeaconDelay" 155 yX4_behind ∈ gw := gw_3 (i := 145) (by decide +kernel) rfl
theorem dX9_takes_33 : decode cX9_takes 33 = .ok (.invokevirtual 155, 3) := by decide +kernel
theorem dX9_takes_36 : decode cX9_takes 36 = .ok (.iload_n 2, 1) := by decide +kernel
theorem dX9_takes_37 : decode cX9_takes 37 = .ok (.invokestatic 139, 3) := by decide +kernel
theorem dX9_takes_40 : decode cX9_takes 40 = .ok (.goto 5, 3) := by decide +kernel
set_option maxHeartbeats 4000000 in
set_option maxRecDepth 100000 in
theorem k_X9_takes_0 (l : Launch) (V : GV) (y : Nat → Nat) (a1 : Int32) (a2 : Int32) (py0_1 : Int32) (o10 : Value) (o11 : Value) (py0_12 : Int32) (py0_13 : Int32) (py0_14 : Int32) (py2_0 : Int32) (py2_1 : Int32) (py2_2 : Int32) (py2_3 : Int32) (py2_4 : Int32) (py2_5 : Int32) (py2_13 : Int32) (py2_14 : Int32) (py2_15 : Int32) (py2_16 : Int32) (py2_17 : Int32) (fy3 : Nat → Int32) (fy9 : Nat → Int32) (fy20 : Nat → Int32) (fy21 : Nat → Int32) (fy22 : Nat → Int32) (bpy0_1 : iv 0 900 py0_1) (bpy2_1 : iv 0 4 py2_1) (bpy2_2 : iv 0 4 py2_2) (bpy2_3 : iv 0 8 py2_3) (bpy2_13 : iv 0 900 py2_13) (bpy2_14 : iv 0 900 py2_14) (bpy2_15 : iv 0 900 py2_15) (bpy2_16 : iv 0 900 py2_16) (bpy2_17 : iv 0 900 py2_17) : Ct l V yX9_takes (.code yX9_takes cX9_takes 3 (some .int)) 6 [.ref (y 0), .int a1, .int a2] [(y 0, .inr (9, [.ref (y 1), .int py0_1, .ref (y 2), .ref (y 10), .ref (y 19), .ref (y 25), .ref (y 26), .ref (y 30), .ref (y 31), .ref (y 32), o10, o11, .int py0_12, .int py0_13, .int py0_14])), (y 2, .inr (1, [.int py2_0, .int py2_1, .int py2_2, .int py2_3, .int py2_4, .int py2_5, .ref (y 3), .ref (y 4), .ref (y 5), .ref (y 6), .ref (y 7), .ref (y 8), .ref (y 9), .int py2_13, .int py2_14, .int py2_15, .int py2_16, .int py2_17])), (y 3, aI V 4 fy3), (y 9, aI V 900 fy9), (y 19, .inr (4, [.ref (y 2), .ref (y 20), .ref (y 21), .ref (y 22), .ref (y 23), .ref (y 24)])), (y 20, aI V 2000 fy20), (y 21, aI V 6 fy21), (y 22, aI V 64 fy22)] 0 0 (QI V (fun (r : Int32) (w : va_W) => ∃ (g0 : Nat → Int32) (g1 : Nat → Int32) (g2 : Nat → Int32), w = [(y 0, .inr (9, [.ref (y 1), .int py0_1, .ref (y 2), .ref (y 10), .ref (y 19), .ref (y 25), .ref (y 26), .ref (y 30), .ref (y 31), .ref (y 32), o10, o11, .int py0_12, .int py0_13, .int py0_14])), (y 2, .inr (1, [.int py2_0, .int py2_1, .int py2_2, .int py2_3, .int py2_4, .int py2_5, .ref (y 3), .ref (y 4), .ref (y 5), .ref (y 6), .ref (y 7), .ref (y 8), .ref (y 9), .int py2_13, .int py2_14, .int py2_15, .int py2_16, .int py2_17])), (y 3, aI V 4 fy3), (y 9, aI V 900 fy9), (y 19, .inr (4, [.ref (y 2), .ref (y 20), .ref (y 21), .ref (y 22), .ref (y 23), .ref (y 24)])), (y 20, aI V 2000 g0), (y 21, aI V 6 g1), (y 22, aI V 64 g2)])) := by
  refine Ct.of (by decide) (Nat.le_of_ble_eq_true rfl) (fun p e s m below meth c A ls hx hb hr hml hown hlk hnm hg hP hK hD hE hA hS hl => ?_)
  have hl : lv_has ls 3 [(0, .ref (y 0)), (1, .int a1), (2, .int a2)] := hl
  refine lv_aload_n hx hb dX9_takes_0 rfl (lv_at hl 0 rfl) ?_
  refine lv_iload_n hx hb dX9_takes_1 rfl (lv_at hl 2 rfl) ?_
  refine jnI (wr := [(y 3, aI V 4 fy3), (y 9, aI V 900 fy9), (y 19, .inr (4, [.ref (y 2), .ref (y 20), .ref (y 21), .ref (y 22), .ref (y 23), .ref (y 24)])), (y 20, aI V 2000 fy20), (y 21, aI V 6 fy21), (y 22, aI V 64 fy22)]) (rnV (rest := []) ⟨hx, hb, hml, hown, hg⟩ (k_X9_isHill_0 l V y a2 py0_1 o10 o11 py0_12 py0_13 py0_14 py2_0 py2_1 py2_2 py2_3 py2_4 py2_5 py2_13 py2_14 py2_15 py2_16 py2_17 bpy0_1 bpy2_1 bpy2_2 bpy2_3 bpy2_13 bpy2_14 bpy2_15 bpy2_16 bpy2_17) mt_X9_isHill q_3_122 ⟨Nat.le_of_ble_eq_true rfl, Nat.le_of_ble_eq_true rfl⟩ hK hP hD hS hA hE [0, 1] rfl rfl 0 rfl rfl rfl rfl hl.1 rfl (Nat.le_of_ble_eq_true rfl) dX9_takes_2 ⟨Nat.le_of_ble_eq_true rfl, Nat.le_of_ble_eq_true rfl⟩) hP hD hS hA [0, 1] [2, 3, 4, 5, 6, 7] rfl rfl rfl (by decide) (fun r_1 w H locs hw hP hD hS => ?_)
  rcases hw with ⟨c_2, rfl, rfl⟩ | ⟨c_3, c_4, rfl, rfl⟩ | ⟨c_5, c_6, rfl, rfl⟩
  · have hP : va_P V.1 vwCl [(y 3, aI V 4 fy3), (y 9, aI V 900 fy9), (y 19, .inr (4, [.ref (y 2), .ref (y 20), .ref (y 21), .ref (y 22), .ref (y 23), .ref (y 24)])), (y 20, aI V 2000 fy20), (y 21, aI V 6 fy21), (y 22, aI V 64 fy22), (y 0, .inr (9, [.ref (y 1), .int py0_1, .ref (y 2), .ref (y 10), .ref (y 19), .ref (y 25), .ref (y 26), .ref (y 30), .ref (y 31), .ref (y 32), o10, o11, .int py0_12, .int py0_13, .int py0_14])), (y 2, .inr (1, [.int py2_0, .int py2_1, .int py2_2, .int py2_3, .int py2_4, .int py2_5, .ref (y 3), .ref (y 4), .ref (y 5), .ref (y 6), .ref (y 7), .ref (y 8), .ref (y 9), .int py2_13, .int py2_14, .int py2_15, .int py2_16, .int py2_17]))] H := hP
    have hD : va_D A [(y 3, aI V 4 fy3), (y 9, aI V 900 fy9), (y 19, .inr (4, [.ref (y 2), .ref (y 20), .ref (y 21), .ref (y 22), .ref (y 23), .ref (y 24)])), (y 20, aI V 2000 fy20), (y 21, aI V 6 fy21), (y 22, aI V 64 fy22), (y 0, .inr (9, [.ref (y 1), .int py0_1, .ref (y 2), .ref (y 10), .ref (y 19), .ref (y 25), .ref (y 26), .ref (y 30), .ref (y 31), .ref (y 32), o10, o11, .int py0_12, .int py0_13, .int py0_14])), (y 2, .inr (1, [.int py2_0, .int py2_1, .int py2_2, .int py2_3, .int py2_4, .int py2_5, .ref (y 3), .ref (y 4), .ref (y 5), .ref (y 6), .ref (y 7), .ref (y 8), .ref (y 9), .int py2_13, .int py2_14, .int py2_15, .int py2_16, .int py2_17]))] := hD
    have b_7 : iv (-2147483648) (-1) a2 := iv_l1 c_2 (iv_top a2) (iv_c (0 : Int32) (a := 0) (b := 0) (by decide)) (by decide)
    refine lv_if_ne (tgt := 11) hx hb dX9_takes_5 (by decide) (fun c_9 => absurd c_9 (by decide)) (fun _ => ?_)
    refine lv_bipush (v := (-2)) hx hb dX9_takes_8 (by decide) ?_
    have hP := subP (ws' := [(y 0, .inr (9, [.ref (y 1), .int py0_1, .ref (y 2), .ref (y 10), .ref (y 19), .ref (y 25), .ref (y 26), .ref (y 30), .ref (y 31), .ref (y 32), o10, o11, .int py0_12, .int py0_13, .int py0_14])), (y 2, .inr (1, [.int py2_0, .int py2_1, .int py2_2, .int py2_3, .int py2_4, .int py2_5, .ref (y 3), .ref (y 4), .ref (y 5), .ref (y 6), .ref (y 7), .ref (y 8), .ref (y 9), .int py2_13, .int py2_14, .int py2_15, .int py2_16, .int py2_17])), (y 3, aI V 4 fy3), (y 9, aI V 900 fy9), (y 19, .inr (4, [.ref (y 2), .ref (y 20), .ref (y 21), .ref (y 22), .ref (y 23), .ref (y 24)])), (y 20, aI V 2000 fy20), (y 21, aI V 6 fy21), (y 22, aI V 64 fy22)]) hP [6, 7, 0, 1, 2, 3, 4, 5] rfl
    have hD := hD.sub (ws' := [(y 0, .inr (9, [.ref (y 1), .int py0_1, .ref (y 2), .ref (y 10), .ref (y 19), .ref (y 25), .ref (y 26), .ref (y 30), .ref (y 31), .ref (y 32), o10, o11, .int py0_12, .int py0_13, .int py0_14])), (y 2, .inr (1, [.int py2_0, .int py2_1, .int py2_2, .int py2_3, .int py2_4, .int py2_5, .ref (y 3), .ref (y 4), .ref (y 5), .ref (y 6), .ref (y 7), .ref (y 8), .ref (y 9), .int py2_13, .int py2_14, .int py2_15, .int py2_16, .int py2_17])), (y 3, aI V 4 fy3), (y 9, aI V 900 fy9), (y 19, .inr (4, [.ref (y 2), .ref (y 20), .ref (y 21), .ref (y 22), .ref (y 23), .ref (y 24)])), (y 20, aI V 2000 fy20), (y 21, aI V 6 fy21), (y 22, aI V 64 fy22)]) [6, 7, 0, 1, 2, 3, 4, 5] rfl rfl
    exact fiI hx hb hr hlk hK hP hD hS dX9_takes_10 (Nat.le_of_ble_eq_true rfl) (Nat.le_of_ble_eq_true rfl) (⟨fy20, fy21, fy22, rfl⟩)
  · have hP : va_P V.1 vwCl [(y 3, aI V 4 fy3), (y 9, aI V 900 fy9), (y 19, .inr (4, [.ref (y 2), .ref (y 20), .ref (y 21), .ref (y 22), .ref (y 23), .ref (y 24)])), (y 20, aI V 2000 fy20), (y 21, aI V 6 fy21), (y 22, aI V 64 fy22), (y 0, .inr (9, [.ref (y 1), .int py0_1, .ref (y 2), .ref (y 10), .ref (y 19), .ref (y 25), .ref (y 26), .ref (y 30), .ref (y 31), .ref (y 32), o10, o11, .int py0_12, .int py0_13, .int py0_14])), (y 2, .inr (1, [.int py2_0, .int py2_1, .int py2_2, .int py2_3, .int py2_4, .int py2_5, .ref (y 3), .ref (y 4), .ref (y 5), .ref (y 6), .ref (y 7), .ref (y 8), .ref (y 9), .int py2_13, .int py2_14, .int py2_15, .int py2_16, .int py2_17]))] H := hP
    have hD : va_D A [(y 3, aI V 4 fy3), (y 9, aI V 900 fy9), (y 19, .inr (4, [.ref (y 2), .ref (y 20), .ref (y 21), .ref (y 22), .ref (y 23), .ref (y 24)])), (y 20, aI V 2000 fy20), (y 21, aI V 6 fy21), (y 22, aI V 64 fy22), (y 0, .inr (9, [.ref (y 1), .int py0_1, .ref (y 2), .ref (y 10), .ref (y 19), .ref (y 25), .ref (y 26), .ref (y 30), .ref (y 31), .ref (y 32), o10, o11, .int py0_12, .int py0_13, .int py0_14])), (y 2, .inr (1, [.int py2_0, .int py2_1, .int py2_2, .int py2_3, .int py2_4, .int py2_5, .ref (y 3), .ref (y 4), .ref (y 5), .ref (y 6), .ref (y 7), .ref (y 8), .ref (y 9), .int py2_13, .int py2_14, .int py2_15, .int py2_16, .int py2_17]))] := hD
    have b_10 : iv 0 2147483647 a2 := iv_e2 (Int32.not_lt.mp c_3) (iv_c (0 : Int32) (a := 0) (b := 0) (by decide)) (iv_top a2) (by decide)
    refine lv_if_ne (tgt := 11) hx hb dX9_takes_5 (by decide) (fun c_12 => absurd c_12 (by decide)) (fun _ => ?_)
    refine lv_bipush (v := (-2)) hx hb dX9_takes_8 (by decide) ?_
    have hP := subP (ws' := [(y 0, .inr (9, [.ref (y 1), .int py0_1, .ref (y 2), .ref (y 10), .ref (y 19), .ref (y 25), .ref (y 26), .ref (y 30), .ref (y 31), .ref (y 32), o10, o11, .int py0_12, .int py0_13, .int py0_14])), (y 2, .inr (1, [.int py2_0, .int py2_1, .int py2_2, .int py2_3, .int py2_4, .int py2_5, .ref (y 3), .ref (y 4), .ref (y 5), .ref (y 6), .ref (y 7), .ref (y 8), .ref (y 9), .int py2_13, .int py2_14, .int py2_15, .int py2_16, .int py2_17])), (y 3, aI V 4 fy3), (y 9, aI V 900 fy9), (y 19, .inr (4, [.ref (y 2), .ref (y 20), .ref (y 21), .ref (y 22), .ref (y 23), .ref (y 24)])), (y 20, aI V 2000 fy20), (y 21, aI V 6 fy21), (y 22, aI V 64 fy22)]) hP [6, 7, 0, 1, 2, 3, 4, 5] rfl
    have hD := hD.sub (ws' := [(y 0, .inr (9, [.ref (y 1), .int py0_1, .ref (y 2), .ref (y 10), .ref (y 19), .ref (y 25), .ref (y 26), .ref (y 30), .ref (y 31), .ref (y 32), o10, o11, .int py0_12, .int py0_13, .int py0_14])), (y 2, .inr (1, [.int py2_0, .int py2_1, .int py2_2, .int py2_3, .int py2_4, .int py2_5, .ref (y 3), .ref (y 4), .ref (y 5), .ref (y 6), .ref (y 7), .ref (y 8), .ref (y 9), .int py2_13, .int py2_14, .int py2_15, .int py2_16, .int py2_17])), (y 3, aI V 4 fy3), (y 9, aI V 900 fy9), (y 19, .inr (4, [.ref (y 2), .ref (y 20), .ref (y 21), .ref (y 22), .ref (y 23), .ref (y 24)])), (y 20, aI V 2000 fy20), (y 21, aI V 6 fy21), (y 22, aI V 64 fy22)]) [6, 7, 0, 1, 2, 3, 4, 5] rfl rfl
    exact fiI hx hb hr hlk hK hP hD hS dX9_takes_10 (Nat.le_of_ble_eq_true rfl) (Nat.le_of_ble_eq_true rfl) (⟨fy20, fy21, fy22, rfl⟩)
  · have hP : va_P V.1 vwCl [(y 3, aI V 4 fy3), (y 9, aI V 900 fy9), (y 19, .inr (4, [.ref (y 2), .ref (y 20), .ref (y 21), .ref (y 22), .ref (y 23), .ref (y 24)])), (y 20, aI V 2000 fy20), (y 21, aI V 6 fy21), (y 22, aI V 64 fy22), (y 0, .inr (9, [.ref (y 1), .int py0_1, .ref (y 2), .ref (y 10), .ref (y 19), .ref (y 25), .ref (y 26), .ref (y 30), .ref (y 31), .ref (y 32), o10, o11, .int py0_12, .int py0_13, .int py0_14])), (y 2, .inr (1, [.int py2_0, .int py2_1, .int py2_2, .int py2_3, .int py2_4, .int py2_5, .ref (y 3), .ref (y 4), .ref (y 5), .ref (y 6), .ref (y 7), .ref (y 8), .ref (y 9), .int py2_13, .int py2_14, .int py2_15, .int py2_16, .int py2_17]))] H := hP
    have hD : va_D A [(y 3, aI V 4 fy3), (y 9, aI V 900 fy9), (y 19, .inr (4, [.ref (y 2), .ref (y 20), .ref (y 21), .ref (y 22), .ref (y 23), .ref (y 24)])), (y 20, aI V 2000 fy20), (y 21, aI V 6 fy21), (y 22, aI V 64 fy22), (y 0, .inr (9, [.ref (y 1), .int py0_1, .ref (y 2), .ref (y 10), .ref (y 19), .ref (y 25), .ref (y 26), .ref (y 30), .ref (y 31), .ref (y 32), o10, o11, .int py0_12, .int py0_13, .int py0_14])), (y 2, .inr (1, [.int py2_0, .int py2_1, .int py2_2, .int py2_3, .int py2_4, .int py2_5, .ref (y 3), .ref (y 4), .ref (y 5), .ref (y 6), .ref (y 7), .ref (y 8), .ref (y 9), .int py2_13, .int py2_14, .int py2_15, .int py2_16, .int py2_17]))] := hD
    have b_13 : iv 0 2147483647 a2 := iv_e2 (Int32.not_lt.mp c_5) (iv_c (0 : Int32) (a := 0) (b := 0) (by decide)) (iv_top a2) (by decide)
    have b_14 : iv 0 3 a2 := iv_l1 (Int32.not_le.mp c_6) b_13 bpy2_1 (by decide)
    have b_15 : iv 1 4 py2_1 := iv_l2 (Int32.not_le.mp c_6) b_13 bpy2_1 (by decide)
    refine lv_if_ne (tgt := 11) hx hb dX9_takes_5 (by decide) (fun _ => ?_) (fun c_17 => absurd c_17 (by decide))
    refine lv_aload_n hx hb dX9_takes_11 rfl (lv_at hl 0 rfl) ?_
    refine lv_iload_n hx hb dX9_takes_12 rfl (lv_at hl 1 rfl) ?_
    refine lv_i2l hx hb dX9_takes_13 rfl ?_
    refine lv_topl (fun j_18 ej_18 => ?_)
    refine jnI (wr := [(y 3, aI V 4 fy3), (y 9, aI V 900 fy9), (y 19, .inr (4, [.ref (y 2), .ref (y 20), .ref (y 21), .ref (y 22), .ref (y 23), .ref (y 24)])), (y 20, aI V 2000 fy20), (y 21, aI V 6 fy21), (y 22, aI V 64 fy22)]) (rnV (rest := []) ⟨hx, hb, hml, hown, hg⟩ (k_X9_isNight_0 l V y j_18 py0_1 o10 o11 py0_12 py0_13 py0_14 py2_0 py2_1 py2_2 py2_3 py2_4 py2_5 py2_13 py2_14 py2_15 py2_16 py2_17 bpy0_1 (iv_w b_15 (by decide)) bpy2_2 bpy2_3 bpy2_13 bpy2_14 bpy2_15 bpy2_16 bpy2_17) mt_X9_isNight q_3_141 ⟨Nat.le_of_ble_eq_true rfl, Nat.le_of_ble_eq_true rfl⟩ hK hP hD hS hA hE [6, 7] rfl rfl 6 rfl rfl rfl rfl hl.1 rfl (Nat.le_of_ble_eq_true rfl) dX9_takes_14 ⟨Nat.le_of_ble_eq_true rfl, Nat.le_of_ble_eq_true rfl⟩) hP hD hS hA [6, 7] [0, 1, 2, 3, 4, 5] rfl rfl rfl (by decide) (fun r_19 w H locs hw hP hD hS => ?_)
    obtain ⟨br_19, rfl⟩ := hw
    have hP : va_P V.1 vwCl [(y 3, aI V 4 fy3), (y 9, aI V 900 fy9), (y 19, .inr (4, [.ref (y 2), .ref (y 20), .ref (y 21), .ref (y 22), .ref (y 23), .ref (y 24)])), (y 20, aI V 2000 fy20), (y 21, aI V 6 fy21), (y 22, aI V 64 fy22), (y 0, .inr (9, [.ref (y 1), .int py0_1, .ref (y 2), .ref (y 10), .ref (y 19), .ref (y 25), .ref (y 26), .ref (y 30), .ref (y 31), .ref (y 32), o10, o11, .int py0_12, .int py0_13, .int py0_14])), (y 2, .inr (1, [.int py2_0, .int py2_1, .int py2_2, .int py2_3, .int py2_4, .int py2_5, .ref (y 3), .ref (y 4), .ref (y 5), .ref (y 6), .ref (y 7), .ref (y 8), .ref (y 9), .int py2_13, .int py2_14, .int py2_15, .int py2_16, .int py2_17]))] H := hP
    have hD : va_D A [(y 3, aI V 4 fy3), (y 9, aI V 900 fy9), (y 19, .inr (4, [.ref (y 2), .ref (y 20), .ref (y 21), .ref (y 22), .ref (y 23), .ref (y 24)])), (y 20, aI V 2000 fy20), (y 21, aI V 6 fy21), (y 22, aI V 64 fy22), (y 0, .inr (9, [.ref (y 1), .int py0_1, .ref (y 2), .ref (y 10), .ref (y 19), .ref (y 25), .ref (y 26), .ref (y 30), .ref (y 31), .ref (y 32), o10, o11, .int py0_12, .int py0_13, .int py0_14])), (y 2, .inr (1, [.int py2_0, .int py2_1, .int py2_2, .int py2_3, .int py2_4, .int py2_5, .ref (y 3), .ref (y 4), .ref (y 5), .ref (y 6), .ref (y 7), .ref (y 8), .ref (y 9), .int py2_13, .int py2_14, .int py2_15, .int py2_16, .int py2_17]))] := hD
    refine lv_if_eq (tgt := 43) hx hb dX9_takes_17 (by decide) (fun c_20 => ?_) (fun c_20 => ?_)
    · have b_21 : iv 0 0 r_19 := iv_q c_20 (iv_c (0 : Int32) (a := 0) (b := 0) (by decide))
      refine lv_bipush (v := (-5)) hx hb dX9_takes_43 (by decide) ?_
      have hP := subP (ws' := [(y 0, .inr (9, [.ref (y 1), .int py0_1, .ref (y 2), .ref (y 10), .ref (y 19), .ref (y 25), .ref (y 26), .ref (y 30), .ref (y 31), .ref (y 32), o10, o11, .int py0_12, .int py0_13, .int py0_14])), (y 2, .inr (1, [.int py2_0, .int py2_1, .int py2_2, .int py2_3, .int py2_4, .int py2_5, .ref (y 3), .ref (y 4), .ref (y 5), .ref (y 6), .ref (y 7), .ref (y 8), .ref (y 9), .int py2_13, .int py2_14, .int py2_15, .int py2_16, .int py2_17])), (y 3, aI V 4 fy3), (y 9, aI V 900 fy9), (y 19, .inr (4, [.ref (y 2), .ref (y 20), .ref (y 21), .ref (y 22), .ref (y 23), .ref (y 24)])), (y 20, aI V 2000 fy20), (y 21, aI V 6 fy21), (y 22, aI V 64 fy22)]) hP [6, 7, 0, 1, 2, 3, 4, 5] rfl
      have hD := hD.sub (ws' := [(y 0, .inr (9, [.ref (y 1), .int py0_1, .ref (y 2), .ref (y 10), .ref (y 19), .ref (y 25), .ref (y 26), .ref (y 30), .ref (y 31), .ref (y 32), o10, o11, .int py0_12, .int py0_13, .int py0_14])), (y 2, .inr (1, [.int py2_0, .int py2_1, .int py2_2, .int py2_3, .int py2_4, .int py2_5, .ref (y 3), .ref (y 4), .ref (y 5), .ref (y 6), .ref (y 7), .ref (y 8), .ref (y 9), .int py2_13, .int py2_14, .int py2_15, .int py2_16, .int py2_17])), (y 3, aI V 4 fy3), (y 9, aI V 900 fy9), (y 19, .inr (4, [.ref (y 2), .ref (y 20), .ref (y 21), .ref (y 22), .ref (y 23), .ref (y 24)])), (y 20, aI V 2000 fy20), (y 21, aI V 6 fy21), (y 22, aI V 64 fy22)]) [6, 7, 0, 1, 2, 3, 4, 5] rfl rfl
      exact fiI hx hb hr hlk hK hP hD hS dX9_takes_45 (Nat.le_of_ble_eq_true rfl) (Nat.le_of_ble_eq_true rfl) (⟨fy20, fy21, fy22, rfl⟩)
    · have b_22 : iv 1 1 r_19 := iv_n0 c_20 br_19 (iv_c (0 : Int32) (a := 0) (b := 0) (by decide)) (by decide)
      refine lv_aload_n hx hb dX9_takes_20 rfl (lv_at hl 0 rfl) ?_
      refine va_get (ci := 9) (v := .ref (y 19)) (C := RX9) (T := TX9) (N := 15) hx hb hg inX9 hown hK hP 6 rfl rfl 4 (by decide) (hg _ q_2_40) (fun _ h9 => h9) rfl dX9_takes_21 ?_
      refine lv_aload_n hx hb dX9_takes_24 rfl (lv_at hl 0 rfl) ?_
      refine va_get (ci := 9) (v := .int py0_12) (C := RX9) (T := TX9) (N := 15) hx hb hg inX9 hown hK hP 6 rfl rfl 12 (by decide) (hg _ q_2_48) (fun _ h9 => h9) rfl dX9_takes_25 ?_
      refine lv_aload_n hx hb dX9_takes_28 rfl (lv_at hl 0 rfl) ?_
      refine va_get (ci := 9) (v := .int py0_13) (C := RX9) (T := TX9) (N := 15) hx hb hg inX9 hown hK hP 6 rfl rfl 13 (by decide) (hg _ q_2_49) (fun _ h9 => h9) rfl dX9_takes_29 ?_
      refine lv_iload_n hx hb dX9_takes_32 rfl (lv_at hl 1 rfl) ?_
      refine jnI (wr := [(y 0, .inr (9, [.ref (y 1), .int py0_1, .ref (y 2), .ref (y 10), .ref (y 19), .ref (y 25), .ref (y 26), .ref (y 30), .ref (y 31), .ref (y 32), o10, o11, .int py0_12, .int py0_13, .int py0_14]))]) (rnV (rest := []) ⟨hx, hb, hml, hown, hg⟩ (k_X4_behind_0 l V y py0_12 py0_13 a1 fy3 fy9 fy20 fy21 fy22 py2_0 py2_1 py2_2 py2_3 py2_4 py2_5 py2_13 py2_14 py2_15 py2_16 py2_17 (iv_w b_15 (by decide)) bpy2_2 bpy2_3 bpy2_13 bpy2_14 bpy2_15 bpy2_16 bpy2_17) mt_X4_behind q_3_145 ⟨Nat.le_of_ble_eq_true rfl, Nat.le_of_ble_eq_true rfl⟩ hK hP hD hS hA hE [0, 1, 2, 3, 4, 5, 7] rfl rfl 2 rfl rfl rfl rfl hl.1 rfl (Nat.le_of_ble_eq_true rfl) dX9_takes_33 ⟨Nat.le_of_ble_eq_true rfl, Nat.le_of_ble_eq_true rfl⟩) hP hD hS hA [0, 1, 2, 3, 4, 5, 7] [6] rfl rfl rfl (by decide) (fun r_23 w H locs hw hP hD hS => ?_)
      obtain ⟨f_24, f_25, f_26, rfl⟩ := hw
      have hP : va_P V.1 vwCl [(y 0, .inr (9, [.ref (y 1), .int py0_1, .ref (y 2), .ref (y 10), .ref (y 19), .ref (y 25), .ref (y 26), .ref (y 30), .ref (y 31), .ref (y 32), o10, o11, .int py0_12, .int py0_13, .int py0_14])), (y 3, aI V 4 fy3), (y 9, aI V 900 fy9), (y 19, .inr (4, [.ref (y 2), .ref (y 20), .ref (y 21), .ref (y 22), .ref (y 23), .ref (y 24)])), (y 20, aI V 2000 f_24), (y 21, aI V 6 f_25), (y 22, aI V 64 f_26), (y 2, .inr (1, [.int py2_0, .int py2_1, .int py2_2, .int py2_3, .int py2_4, .int py2_5, .ref (y 3), .ref (y 4), .ref (y 5), .ref (y 6), .ref (y 7), .ref (y 8), .ref (y 9), .int py2_13, .int py2_14, .int py2_15, .int py2_16, .int py2_17]))] H := hP
      have hD : va_D A [(y 0, .inr (9, [.ref (y 1), .int py0_1, .ref (y 2), .ref (y 10), .ref (y 19), .ref (y 25), .ref (y 26), .ref (y 30), .ref (y 31), .ref (y 32), o10, o11, .int py0_12, .int py0_13, .int py0_14])), (y 3, aI V 4 fy3), (y 9, aI V 900 fy9), (y 19, .inr (4, [.ref (y 2), .ref (y 20), .ref (y 21), .ref (y 22), .ref (y 23), .ref (y 24)])), (y 20, aI V 2000 f_24), (y 21, aI V 6 f_25), (y 22, aI V 64 f_26), (y 2, .inr (1, [.int py2_0, .int py2_1, .int py2_2, .int py2_3, .int py2_4, .int py2_5, .ref (y 3), .ref (y 4), .ref (y 5), .ref (y 6), .ref (y 7), .ref (y 8), .ref (y 9), .int py2_13, .int py2_14, .int py2_15, .int py2_16, .int py2_17]))] := hD
      refine lv_iload_n hx hb dX9_takes_36 rfl (lv_at hl 2 rfl) ?_
      refine jnI (wr := [(y 0, .inr (9, [.ref (y 1), .int py0_1, .ref (y 2), .ref (y 10), .ref (y 19), .ref (y 25), .ref (y 26), .ref (y 30), .ref (y 31), .ref (y 32), o10, o11, .int py0_12, .int py0_13, .int py0_14])), (y 3, aI V 4 fy3), (y 9, aI V 900 fy9), (y 19, .inr (4, [.ref (y 2), .ref (y 20), .ref (y 21), .ref (y 22), .ref (y 23), .ref (y 24)])), (y 20, aI V 2000 f_24), (y 21, aI V 6 f_25), (y 22, aI V 64 f_26), (y 2, .inr (1, [.int py2_0, .int py2_1, .int py2_2, .int py2_3, .int py2_4, .int py2_5, .ref (y 3), .ref (y 4), .ref (y 5), .ref (y 6), .ref (y 7), .ref (y 8), .ref (y 9), .int py2_13, .int py2_14, .int py2_15, .int py2_16, .int py2_17]))]) (rnS (rest := []) ⟨hx, hb, hml, hown, hg⟩ (k_X9_tookIn_0 l V r_23 a2 (iv_w b_14 (by decide))) mt_X9_tookIn q_3_130 ⟨Nat.le_of_ble_eq_true rfl, Nat.le_of_ble_eq_true rfl⟩ hK hP hD hS hA hE [] rfl rfl rfl hl.1 rfl (Nat.le_of_ble_eq_true rfl) dX9_takes_37 ⟨Nat.le_of_ble_eq_true rfl, Nat.le_of_ble_eq_true rfl⟩) hP hD hS hA [] [0, 1, 2, 3, 4, 5, 6, 7] rfl rfl rfl (by decide) (fun r_27 w H locs hw hP hD hS => ?_)
      subst hw
      have hP : va_P V.1 vwCl [(y 0, .inr (9, [.ref (y 1), .int py0_1, .ref (y 2), .ref (y 10), .ref (y 19), .ref (y 25), .ref (y 26), .ref (y 30), .ref (y 31), .ref (y 32), o10, o11, .int py0_12, .int py0_13, .int py0_14])), (y 3, aI V 4 fy3), (y 9, aI V 900 fy9), (y 19, .inr (4, [.ref (y 2), .ref (y 20), .ref (y 21), .ref (y 22), .ref (y 23), .ref (y 24)])), (y 20, aI V 2000 f_24), (y 21, aI V 6 f_25), (y 22, aI V 64 f_26), (y 2, .inr (1, [.int py2_0, .int py2_1, .int py2_2, .int py2_3, .int py2_4, .int py2_5, .ref (y 3), .ref (y 4), .ref (y 5), .ref (y 6), .ref (y 7), .ref (y 8), .ref (y 9), .int py2_13, .int py2_14, .int py2_15, .int py2_16, .int py2_17]))] H := hP
      have hD : va_D A [(y 0, .inr (9, [.ref (y 1), .int py0_1, .ref (y 2), .ref (y 10), .ref (y 19), .ref (y 25), .ref (y 26), .ref (y 30), .ref (y 31), .ref (y 32), o10, o11, .int py0_12, .int py0_13, .int py0_14])), (y 3, aI V 4 fy3), (y 9, aI V 900 fy9), (y 19, .inr (4, [.ref (y 2), .ref (y 20), .ref (y 21), .ref (y 22), .ref (y 23), .ref (y 24)])), (y 20, aI V 2000 f_24), (y 21, aI V 6 f_25), (y 22, aI V 64 f_26), (y 2, .inr (1, [.int py2_0, .int py2_1, .int py2_2, .int py2_3, .int py2_4, .int py2_5, .ref (y 3), .ref (y 4), .ref (y 5), .ref (y 6), .ref (y 7), .ref (y 8), .ref (y 9), .int py2_13, .int py2_14, .int py2_15, .int py2_16, .int py2_17]))] := hD
      refine lv_goto (tgt := 45) hx hb dX9_takes_40 (by decide) ?_
      have hP := subP (ws' := [(y 0, .inr (9, [.ref (y 1), .int py0_1, .ref (y 2), .ref (y 10), .ref (y 19), .ref (y 25), .ref (y 26), .ref (y 30), .ref (y 31), .ref (y 32), o10, o11, .int py0_12, .int py0_13, .int py0_14])), (y 2, .inr (1, [.int py2_0, .int py2_1, .int py2_2, .int py2_3, .int py2_4, .int py2_5, .ref (y 3), .ref (y 4), .ref (y 5), .ref (y 6), .ref (y 7), .ref (y 8), .ref (y 9), .int py2_13, .int py2_14, .int py2_15, .int py2_16, .int py2_17])), (y 3, aI V 4 fy3), (y 9, aI V 900 fy9), (y 19, .inr (4, [.ref (y 2), .ref (y 20), .ref (y 21), .ref (y 22), .ref (y 23), .ref (y 24)])), (y 20, aI V 2000 f_24), (y 21, aI V 6 f_25), (y 22, aI V 64 f_26)]) hP [0, 7, 1, 2, 3, 4, 5, 6] rfl
      have hD := hD.sub (ws' := [(y 0, .inr (9, [.ref (y 1), .int py0_1, .ref (y 2), .ref (y 10), .ref (y 19), .ref (y 25), .ref (y 26), .ref (y 30), .ref (y 31), .ref (y 32), o10, o11, .int py0_12, .int py0_13, .int py0_14])), (y 2, .inr (1, [.int py2_0, .int py2_1, .int py2_2, .int py2_3, .int py2_4, .int py2_5, .ref (y 3), .ref (y 4), .ref (y 5), .ref (y 6), .ref (y 7), .ref (y 8), .ref (y 9), .int py2_13, .int py2_14, .int py2_15, .int py2_16, .int py2_17])), (y 3, aI V 4 fy3), (y 9, aI V 900 fy9), (y 19, .inr (4, [.ref (y 2), .ref (y 20), .ref (y 21), .ref (y 22), .ref (y 23), .ref (y 24)])), (y 20, aI V 2000 f_24), (y 21, aI V 6 f_25), (y 22, aI V 64 f_26)]) [0, 7, 1, 2, 3, 4, 5, 6] rfl rfl
      exact fiI hx hb hr hlk hK hP hD hS dX9_takes_45 (Nat.le_of_ble_eq_true rfl) (Nat.le_of_ble_eq_true rfl) (⟨f_24, f_25, f_26, rfl⟩)
theorem dX9_by_0 : decode cX9_by 0 = .ok (.aload_n 0, 1) := by decide +kernel
theorem dX9_by_1 : decode cX9_by 1 = .ok (.iload_n 2, 1) := by decide +kernel
theorem dX9_by_2 : decode cX9_by 2 = .ok (.invokevirtual 128, 3) := by decide +kernel
theorem dX9_by_5 : decode cX9_by 5 = .ok (.ifCond .ne 6, 3) := by decide +kernel
theorem dX9_by_8 : decode cX9_by 8 = .ok (.bipush (-2), 2) := by decide +kernel
theorem dX9_by_10 : decode cX9_by 10 = .ok (.ireturn, 1) := by decide +kernel
theorem dX9_by_11 : decode cX9_by 11 = .ok (.aload_n 0, 1) := by decide +kernel
theorem dX9_by_12 : decode cX9_by 12 = .ok (.iload_n 1, 1) := by decide +kernel
theorem dX9_by_13 : decode cX9_by 13 = .ok (.i2l, 1) := by decide +kernel
theorem dX9_by_14 : decode cX9_by 14 = .ok (.invokevirtual 151, 3) := by decide +kernel
theorem dX9_by_17 : decode cX9_by 17 = .ok (.ifCond .eq 26, 3) := by decide +kernel
theorem dX9_by_43 : decode cX9_by 43 = .ok (.bipush (-5), 2) := by decide +kernel
theorem dX9_by_45 : decode cX9_by 45 = .ok (.ireturn, 1) := by decide +kernel
theorem dX9_by_20 : decode cX9_by 20 = .ok (.aload_n 0, 1) := by decide +kernel
theorem dX9_by_21 : decode cX9_by 21 = .ok (.getfield 34, 3) := by decide +kernel
theorem dX9_by_24 : decode cX9_by 24 = .ok (.aload_n 0, 1) := by decide +kernel
theorem dX9_by_25 : decode cX9_by 25 = .ok (.getfield 113, 3) := by decide +kernel
theorem dX9_by_28 : decode cX9_by 28 = .ok (.aload_n 0, 1) := by decide +kernel
theorem dX9_by_29 : decode cX9_by 29 = .ok (.getfield 116, 3) := by decide +kernel
theorem dX9_by_32 : decode cX9_by 32 = .ok (.iload_n 1, 1) := by decide +kernel
theorem dX9_by_33 : decode cX9_by 33 = .ok (.invokevirtual 155, 3) := by decide +kernel
theorem dX9_by_36 : decode cX9_by 36 = .ok (.iload_n 2, 1) := by decide +kernel
theorem dX9_by_37 : decode cX9_by 37 = .ok (.invokestatic 132, 3) := by decide +kernel
theorem dX9_by_40 : decode cX9_by 40 = .ok (.goto 5, 3) := by decide +kernel
set_option maxHeartbeats 4000000 in
set_option maxRecDepth 100000 in
theorem k_X9_by_0 (l : Launch) (V : GV) (y : Nat → Nat) (a1 : Int32) (a2 : Int32) (py0_1 : Int32) (o10 : Value) (o11 : Value) (py0_12 : Int32) (py0_13 : Int32) (py0_14 : Int32) (py2_0 : Int32) (py2_1 : Int32) (py2_2 : Int32) (py2_3 : Int32) (py2_4 : Int32) (py2_5 : Int32) (py2_13 : Int32) (py2_14 : Int32) (py2_15 : Int32) (py2_16 : Int32) (py2_17 : Int32) (fy3 : Nat → Int32) (fy9 : Nat → Int32) (fy20 : Nat → Int32) (fy21 : Nat → Int32) (fy22 : Nat → Int32) (bpy0_1 : iv 0 900 py0_1) (bpy2_1 : iv 0 4 py2_1) (bpy2_2 : iv 0 4 py2_2) (bpy2_3 : iv 0 8 py2_3) (bpy2_13 : iv 0 900 py2_13) (bpy2_14 : iv 0 900 py2_14) (bpy2_15 : iv 0 900 py2_15) (bpy2_16 : iv 0 900 py2_16) (bpy2_17 : iv 0 900 py2_17) : Ct l V yX9_by (.code yX9_by cX9_by 3 (some .int)) 6 [.ref (y 0), .int a1, .int a2] [(y 0, .inr (9, [.ref (y 1), .int py0_1, .ref (y 2), .ref (y 10), .ref (y 19), .ref (y 25), .ref (y 26), .ref (y 30), .ref (y 31), .ref (y 32), o10, o11, .int py0_12, .int py0_13, .int py0_14])), (y 2, .inr (1, [.int py2_0, .int py2_1, .int py2_2, .int py2_3, .int py2_4, .int py2_5, .ref (y 3), .ref (y 4), .ref (y 5), .ref (y 6), .ref (y 7), .ref (y 8), .ref (y 9), .int py2_13, .int py2_14, .int py2_15, .int py2_16, .int py2_17])), (y 3, aI V 4 fy3), (y 9, aI V 900 fy9), (y 19, .inr (4, [.ref (y 2), .ref (y 20), .ref (y 21), .ref (y 22), .ref (y 23), .ref (y 24)])), (y 20, aI V 2000 fy20), (y 21, aI V 6 fy21), (y 22, aI V 64 fy22)] 0 0 (QI V (fun (r : Int32) (w : va_W) => ∃ (g0 : Nat → Int32) (g1 : Nat → Int32) (g2 : Nat → Int32), w = [(y 0, .inr (9, [.ref (y 1), .int py0_1, .ref (y 2), .ref (y 10), .ref (y 19), .ref (y 25), .ref (y 26), .ref (y 30), .ref (y 31), .ref (y 32), o10, o11, .int py0_12, .int py0_13, .int py0_14])), (y 2, .inr (1, [.int py2_0, .int py2_1, .int py2_2, .int py2_3, .int py2_4, .int py2_5, .ref (y 3), .ref (y 4), .ref (y 5), .ref (y 6), .ref (y 7), .ref (y 8), .ref (y 9), .int py2_13, .int py2_14, .int py2_15, .int py2_16, .int py2_17])), (y 3, aI V 4 fy3), (y 9, aI V 900 fy9), (y 19, .inr (4, [.ref (y 2), .ref (y 20), .ref (y 21), .ref (y 22), .ref (y 23), .ref (y 24)])), (y 20, aI V 2000 g0), (y 21, aI V 6 g1), (y 22, aI V 64 g2)])) := by
  refine Ct.of (by decide) (Nat.le_of_ble_eq_true rfl) (fun p e s m below meth c A ls hx hb hr hml hown hlk hnm hg hP hK hD hE hA hS hl => ?_)
  have hl : lv_has ls 3 [(0, .ref (y 0)), (1, .int a1), (2, .int a2)] := hl
  refine lv_aload_n hx hb dX9_by_0 rfl (lv_at hl 0 rfl) ?_
  refine lv_iload_n hx hb dX9_by_1 rfl (lv_at hl 2 rfl) ?_
  refine jnI (wr := [(y 3, aI V 4 fy3), (y 9, aI V 900 fy9), (y 19, .inr (4, [.ref (y 2), .ref (y 20), .ref (y 21), .ref (y 22), .ref (y 23), .ref (y 24)])), (y 20, aI V 2000 fy20), (y 21, aI V 6 fy21), (y 22, aI V 64 fy22)]) (rnV (rest := []) ⟨hx, hb, hml, hown, hg⟩ (k_X9_isHill_0 l V y a2 py0_1 o10 o11 py0_12 py0_13 py0_14 py2_0 py2_1 py2_2 py2_3 py2_4 py2_5 py2_13 py2_14 py2_15 py2_16 py2_17 bpy0_1 bpy2_1 bpy2_2 bpy2_3 bpy2_13 bpy2_14 bpy2_15 bpy2_16 bpy2_17) mt_X9_isHill q_3_122 ⟨Nat.le_of_ble_eq_true rfl, Nat.le_of_ble_eq_true rfl⟩ hK hP hD hS hA hE [0, 1] rfl rfl 0 rfl rfl rfl rfl hl.1 rfl (Nat.le_of_ble_eq_true rfl) dX9_by_2 ⟨Nat.le_of_ble_eq_true rfl, Nat.le_of_ble_eq_true rfl⟩) hP hD hS hA [0, 1] [2, 3, 4, 5, 6, 7] rfl rfl rfl (by decide) (fun r_1 w H locs hw hP hD hS => ?_)
  rcases hw with ⟨c_2, rfl, rfl⟩ | ⟨c_3, c_4, rfl, rfl⟩ | ⟨c_5, c_6, rfl, rfl⟩
  · have hP : va_P V.1 vwCl [(y 3, aI V 4 fy3), (y 9, aI V 900 fy9), (y 19, .inr (4, [.ref (y 2), .ref (y 20), .ref (y 21), .ref (y 22), .ref (y 23), .ref (y 24)])), (y 20, aI V 2000 fy20), (y 21, aI V 6 fy21), (y 22, aI V 64 fy22), (y 0, .inr (9, [.ref (y 1), .int py0_1, .ref (y 2), .ref (y 10), .ref (y 19), .ref (y 25), .ref (y 26), .ref (y 30), .ref (y 31), .ref (y 32), o10, o11, .int py0_12, .int py0_13, .int py0_14])), (y 2, .inr (1, [.int py2_0, .int py2_1, .int py2_2, .int py2_3, .int py2_4, .int py2_5, .ref (y 3), .ref (y 4), .ref (y 5), .ref (y 6), .ref (y 7), .ref (y 8), .ref (y 9), .int py2_13, .int py2_14, .int py2_15, .int py2_16, .int py2_17]))] H := hP
    have hD : va_D A [(y 3, aI V 4 fy3), (y 9, aI V 900 fy9), (y 19, .inr (4, [.ref (y 2), .ref (y 20), .ref (y 21), .ref (y 22), .ref (y 23), .ref (y 24)])), (y 20, aI V 2000 fy20), (y 21, aI V 6 fy21), (y 22, aI V 64 fy22), (y 0, .inr (9, [.ref (y 1), .int py0_1, .ref (y 2), .ref (y 10), .ref (y 19), .ref (y 25), .ref (y 26), .ref (y 30), .ref (y 31), .ref (y 32), o10, o11, .int py0_12, .int py0_13, .int py0_14])), (y 2, .inr (1, [.int py2_0, .int py2_1, .int py2_2, .int py2_3, .int py2_4, .int py2_5, .ref (y 3), .ref (y 4), .ref (y 5), .ref (y 6), .ref (y 7), .ref (y 8), .ref (y 9), .int py2_13, .int py2_14, .int py2_15, .int py2_16, .int py2_17]))] := hD
    have b_7 : iv (-2147483648) (-1) a2 := iv_l1 c_2 (iv_top a2) (iv_c (0 : Int32) (a := 0) (b := 0) (by decide)) (by decide)
    refine lv_if_ne (tgt := 11) hx hb dX9_by_5 (by decide) (fun c_9 => absurd c_9 (by decide)) (fun _ => ?_)
    refine lv_bipush (v := (-2)) hx hb dX9_by_8 (by decide) ?_
    have hP := subP (ws' := [(y 0, .inr (9, [.ref (y 1), .int py0_1, .ref (y 2), .ref (y 10), .ref (y 19), .ref (y 25), .ref (y 26), .ref (y 30), .ref (y 31), .ref (y 32), o10, o11, .int py0_12, .int py0_13, .int py0_14])), (y 2, .inr (1, [.int py2_0, .int py2_1, .int py2_2, .int py2_3, .int py2_4, .int py2_5, .ref (y 3), .ref (y 4), .ref (y 5), .ref (y 6), .ref (y 7), .ref (y 8), .ref (y 9), .int py2_13, .int py2_14, .int py2_15, .int py2_16, .int py2_17])), (y 3, aI V 4 fy3), (y 9, aI V 900 fy9), (y 19, .inr (4, [.ref (y 2), .ref (y 20), .ref (y 21), .ref (y 22), .ref (y 23), .ref (y 24)])), (y 20, aI V 2000 fy20), (y 21, aI V 6 fy21), (y 22, aI V 64 fy22)]) hP [6, 7, 0, 1, 2, 3, 4, 5] rfl
    have hD := hD.sub (ws' := [(y 0, .inr (9, [.ref (y 1), .int py0_1, .ref (y 2), .ref (y 10), .ref (y 19), .ref (y 25), .ref (y 26), .ref (y 30), .ref (y 31), .ref (y 32), o10, o11, .int py0_12, .int py0_13, .int py0_14])), (y 2, .inr (1, [.int py2_0, .int py2_1, .int py2_2, .int py2_3, .int py2_4, .int py2_5, .ref (y 3), .ref (y 4), .ref (y 5), .ref (y 6), .ref (y 7), .ref (y 8), .ref (y 9), .int py2_13, .int py2_14, .int py2_15, .int py2_16, .int py2_17])), (y 3, aI V 4 fy3), (y 9, aI V 900 fy9), (y 19, .inr (4, [.ref (y 2), .ref (y 20), .ref (y 21), .ref (y 22), .ref (y 23), .ref (y 24)])), (y 20, aI V 2000 fy20), (y 21, aI V 6 fy21), (y 22, aI V 64 fy22)]) [6, 7, 0, 1, 2, 3, 4, 5] rfl rfl
    exact fiI hx hb hr hlk hK hP hD hS dX9_by_10 (Nat.le_of_ble_eq_true rfl) (Nat.le_of_ble_eq_true rfl) (⟨fy20, fy21, fy22, rfl⟩)
  · have hP : va_P V.1 vwCl [(y 3, aI V 4 fy3), (y 9, aI V 900 fy9), (y 19, .inr (4, [.ref (y 2), .ref (y 20), .ref (y 21), .ref (y 22), .ref (y 23), .ref (y 24)])), (y 20, aI V 2000 fy20), (y 21, aI V 6 fy21), (y 22, aI V 64 fy22), (y 0, .inr (9, [.ref (y 1), .int py0_1, .ref (y 2), .ref (y 10), .ref (y 19), .ref (y 25), .ref (y 26), .ref (y 30), .ref (y 31), .ref (y 32), o10, o11, .int py0_12, .int py0_13, .int py0_14])), (y 2, .inr (1, [.int py2_0, .int py2_1, .int py2_2, .int py2_3, .int py2_4, .int py2_5, .ref (y 3), .ref (y 4), .ref (y 5), .ref (y 6), .ref (y 7), .ref (y 8), .ref (y 9), .int py2_13, .int py2_14, .int py2_15, .int py2_16, .int py2_17]))] H := hP
    have hD : va_D A [(y 3, aI V 4 fy3), (y 9, aI V 900 fy9), (y 19, .inr (4, [.ref (y 2), .ref (y 20), .ref (y 21), .ref (y 22), .ref (y 23), .ref (y 24)])), (y 20, aI V 2000 fy20), (y 21, aI V 6 fy21), (y 22, aI V 64 fy22), (y 0, .inr (9, [.ref (y 1), .int py0_1, .ref (y 2), .ref (y 10), .ref (y 19), .ref (y 25), .ref (y 26), .ref (y 30), .ref (y 31), .ref (y 32), o10, o11, .int py0_12, .int py0_13, .int py0_14])), (y 2, .inr (1, [.int py2_0, .int py2_1, .int py2_2, .int py2_3, .int py2_4, .int py2_5, .ref (y 3), .ref (y 4), .ref (y 5), .ref (y 6), .ref (y 7), .ref (y 8), .ref (y 9), .int py2_13, .int py2_14, .int py2_15, .int py2_16, .int py2_17]))] := hD
    have b_10 : iv 0 2147483647 a2 := iv_e2 (Int32.not_lt.mp c_3) (iv_c (0 : Int32) (a := 0) (b := 0) (by decide)) (iv_top a2) (by decide)
    refine lv_if_ne (tgt := 11) hx hb dX9_by_5 (by decide) (fun c_12 => absurd c_12 (by decide)) (fun _ => ?_)
    refine lv_bipush (v := (-2)) hx hb dX9_by_8 (by decide) ?_
    have hP := subP (ws' := [(y 0, .inr (9, [.ref (y 1), .int py0_1, .ref (y 2), .ref (y 10), .ref (y 19), .ref (y 25), .ref (y 26), .ref (y 30), .ref (y 31), .ref (y 32), o10, o11, .int py0_12, .int py0_13, .int py0_14])), (y 2, .inr (1, [.int py2_0, .int py2_1, .int py2_2, .int py2_3, .int py2_4, .int py2_5, .ref (y 3), .ref (y 4), .ref (y 5), .ref (y 6), .ref (y 7), .ref (y 8), .ref (y 9), .int py2_13, .int py2_14, .int py2_15, .int py2_16, .int py2_17])), (y 3, aI V 4 fy3), (y 9, aI V 900 fy9), (y 19, .inr (4, [.ref (y 2), .ref (y 20), .ref (y 21), .ref (y 22), .ref (y 23), .ref (y 24)])), (y 20, aI V 2000 fy20), (y 21, aI V 6 fy21), (y 22, aI V 64 fy22)]) hP [6, 7, 0, 1, 2, 3, 4, 5] rfl
    have hD := hD.sub (ws' := [(y 0, .inr (9, [.ref (y 1), .int py0_1, .ref (y 2), .ref (y 10), .ref (y 19), .ref (y 25), .ref (y 26), .ref (y 30), .ref (y 31), .ref (y 32), o10, o11, .int py0_12, .int py0_13, .int py0_14])), (y 2, .inr (1, [.int py2_0, .int py2_1, .int py2_2, .int py2_3, .int py2_4, .int py2_5, .ref (y 3), .ref (y 4), .ref (y 5), .ref (y 6), .ref (y 7), .ref (y 8), .ref (y 9), .int py2_13, .int py2_14, .int py2_15, .int py2_16, .int py2_17])), (y 3, aI V 4 fy3), (y 9, aI V 900 fy9), (y 19, .inr (4, [.ref (y 2), .ref (y 20), .ref (y 21), .ref (y 22), .ref (y 23), .ref (y 24)])), (y 20, aI V 2000 fy20), (y 21, aI V 6 fy21), (y 22, aI V 64 fy22)]) [6, 7, 0, 1, 2, 3, 4, 5] rfl rfl
    exact fiI hx hb hr hlk hK hP hD hS dX9_by_10 (Nat.le_of_ble_eq_true rfl) (Nat.le_of_ble_eq_true rfl) (⟨fy20, fy21, fy22, rfl⟩)
  · have hP : va_P V.1 vwCl [(y 3, aI V 4 fy3), (y 9, aI V 900 fy9), (y 19, .inr (4, [.ref (y 2), .ref (y 20), .ref (y 21), .ref (y 22), .ref (y 23), .ref (y 24)])), (y 20, aI V 2000 fy20), (y 21, aI V 6 fy21), (y 22, aI V 64 fy22), (y 0, .inr (9, [.ref (y 1), .int py0_1, .ref (y 2), .ref (y 10), .ref (y 19), .ref (y 25), .ref (y 26), .ref (y 30), .ref (y 31), .ref (y 32), o10, o11, .int py0_12, .int py0_13, .int py0_14])), (y 2, .inr (1, [.int py2_0, .int py2_1, .int py2_2, .int py2_3, .int py2_4, .int py2_5, .ref (y 3), .ref (y 4), .ref (y 5), .ref (y 6), .ref (y 7), .ref (y 8), .ref (y 9), .int py2_13, .int py2_14, .int py2_15, .int py2_16, .int py2_17]))] H := hP
    have hD : va_D A [(y 3, aI V 4 fy3), (y 9, aI V 900 fy9), (y 19, .inr (4, [.ref (y 2), .ref (y 20), .ref (y 21), .ref (y 22), .ref (y 23), .ref (y 24)])), (y 20, aI V 2000 fy20), (y 21, aI V 6 fy21), (y 22, aI V 64 fy22), (y 0, .inr (9, [.ref (y 1), .int py0_1, .ref (y 2), .ref (y 10), .ref (y 19), .ref (y 25), .ref (y 26), .ref (y 30), .ref (y 31), .ref (y 32), o10, o11, .int py0_12, .int py0_13, .int py0_14])), (y 2, .inr (1, [.int py2_0, .int py2_1, .int py2_2, .int py2_3, .int py2_4, .int py2_5, .ref (y 3), .ref (y 4), .ref (y 5), .ref (y 6), .ref (y 7), .ref (y 8), .ref (y 9), .int py2_13, .int py2_14, .int py2_15, .int py2_16, .int py2_17]))] := hD
    have b_13 : iv 0 2147483647 a2 := iv_e2 (Int32.not_lt.mp c_5) (iv_c (0 : Int32) (a := 0) (b := 0) (by decide)) (iv_top a2) (by decide)
    have b_14 : iv 0 3 a2 := iv_l1 (Int32.not_le.mp c_6) b_13 bpy2_1 (by decide)
    have b_15 : iv 1 4 py2_1 := iv_l2 (Int32.not_le.mp c_6) b_13 bpy2_1 (by decide)
    refine lv_if_ne (tgt := 11) hx hb dX9_by_5 (by decide) (fun _ => ?_) (fun c_17 => absurd c_17 (by decide))
    refine lv_aload_n hx hb dX9_by_11 rfl (lv_at hl 0 rfl) ?_
    refine lv_iload_n hx hb dX9_by_12 rfl (lv_at hl 1 rfl) ?_
    refine lv_i2l hx hb dX9_by_13 rfl ?_
    refine lv_topl (fun j_18 ej_18 => ?_)
    refine jnI (wr := [(y 3, aI V 4 fy3), (y 9, aI V 900 fy9), (y 19, .inr (4, [.ref (y 2), .ref (y 20), .ref (y 21), .ref (y 22), .ref (y 23), .ref (y 24)])), (y 20, aI V 2000 fy20), (y 21, aI V 6 fy21), (y 22, aI V 64 fy22)]) (rnV (rest := []) ⟨hx, hb, hml, hown, hg⟩ (k_X9_isNight_0 l V y j_18 py0_1 o10 o11 py0_12 py0_13 py0_14 py2_0 py2_1 py2_2 py2_3 py2_4 py2_5 py2_13 py2_14 py2_15 py2_16 py2_17 bpy0_1 (iv_w b_15 (by decide)) bpy2_2 bpy2_3 bpy2_13 bpy2_14 bpy2_15 bpy2_16 bpy2_17) mt_X9_isNight q_3_141 ⟨Nat.le_of_ble_eq_true rfl, Nat.le_of_ble_eq_true rfl⟩ hK hP hD hS hA hE [6, 7] rfl rfl 6 rfl rfl rfl rfl hl.1 rfl (Nat.le_of_ble_eq_true rfl) dX9_by_14 ⟨Nat.le_of_ble_eq_true rfl, Nat.le_of_ble_eq_true rfl⟩) hP hD hS hA [6, 7] [0, 1, 2, 3, 4, 5] rfl rfl rfl (by decide) (fun r_19 w H locs hw hP hD hS => ?_)
    obtain ⟨br_19, rfl⟩ := hw
    have hP : va_P V.1 vwCl [(y 3, aI V 4 fy3), (y 9, aI V 900 fy9), (y 19, .inr (4, [.ref (y 2), .ref (y 20), .ref (y 21), .ref (y 22), .ref (y 23), .ref (y 24)])), (y 20, aI V 2000 fy20), (y 21, aI V 6 fy21), (y 22, aI V 64 fy22), (y 0, .inr (9, [.ref (y 1), .int py0_1, .ref (y 2), .ref (y 10), .ref (y 19), .ref (y 25), .ref (y 26), .ref (y 30), .ref (y 31), .ref (y 32), o10, o11, .int py0_12, .int py0_13, .int py0_14])), (y 2, .inr (1, [.int py2_0, .int py2_1, .int py2_2, .int py2_3, .int py2_4, .int py2_5, .ref (y 3), .ref (y 4), .ref (y 5), .ref (y 6), .ref (y 7), .ref (y 8), .ref (y 9), .int py2_13, .int py2_14, .int py2_15, .int py2_16, .int py2_17]))] H := hP
    have hD : va_D A [(y 3, aI V 4 fy3), (y 9, aI V 900 fy9), (y 19, .inr (4, [.ref (y 2), .ref (y 20), .ref (y 21), .ref (y 22), .ref (y 23), .ref (y 24)])), (y 20, aI V 2000 fy20), (y 21, aI V 6 fy21), (y 22, aI V 64 fy22), (y 0, .inr (9, [.ref (y 1), .int py0_1, .ref (y 2), .ref (y 10), .ref (y 19), .ref (y 25), .ref (y 26), .ref (y 30), .ref (y 31), .ref (y 32), o10, o11, .int py0_12, .int py0_13, .int py0_14])), (y 2, .inr (1, [.int py2_0, .int py2_1, .int py2_2, .int py2_3, .int py2_4, .int py2_5, .ref (y 3), .ref (y 4), .ref (y 5), .ref (y 6), .ref (y 7), .ref (y 8), .ref (y 9), .int py2_13, .int py2_14, .int py2_15, .int py2_16, .int py2_17]))] := hD
    refine lv_if_eq (tgt := 43) hx hb dX9_by_17 (by decide) (fun c_20 => ?_) (fun c_20 => ?_)
    · have b_21 : iv 0 0 r_19 := iv_q c_20 (iv_c (0 : Int32) (a := 0) (b := 0) (by decide))
      refine lv_bipush (v := (-5)) hx hb dX9_by_43 (by decide) ?_
      have hP := subP (ws' := [(y 0, .inr (9, [.ref (y 1), .int py0_1, .ref (y 2), .ref (y 10), .ref (y 19), .ref (y 25), .ref (y 26), .ref (y 30), .ref (y 31), .ref (y 32), o10, o11, .int py0_12, .int py0_13, .int py0_14])), (y 2, .inr (1, [.int py2_0, .int py2_1, .int py2_2, .int py2_3, .int py2_4, .int py2_5, .ref (y 3), .ref (y 4), .ref (y 5), .ref (y 6), .ref (y 7), .ref (y 8), .ref (y 9), .int py2_13, .int py2_14, .int py2_15, .int py2_16, .int py2_17])), (y 3, aI V 4 fy3), (y 9, aI V 900 fy9), (y 19, .inr (4, [.ref (y 2), .ref (y 20), .ref (y 21), .ref (y 22), .ref (y 23), .ref (y 24)])), (y 20, aI V 2000 fy20), (y 21, aI V 6 fy21), (y 22, aI V 64 fy22)]) hP [6, 7, 0, 1, 2, 3, 4, 5] rfl
      have hD := hD.sub (ws' := [(y 0, .inr (9, [.ref (y 1), .int py0_1, .ref (y 2), .ref (y 10), .ref (y 19), .ref (y 25), .ref (y 26), .ref (y 30), .ref (y 31), .ref (y 32), o10, o11, .int py0_12, .int py0_13, .int py0_14])), (y 2, .inr (1, [.int py2_0, .int py2_1, .int py2_2, .int py2_3, .int py2_4, .int py2_5, .ref (y 3), .ref (y 4), .ref (y 5), .ref (y 6), .ref (y 7), .ref (y 8), .ref (y 9), .int py2_13, .int py2_14, .int py2_15, .int py2_16, .int py2_17])), (y 3, aI V 4 fy3), (y 9, aI V 900 fy9), (y 19, .inr (4, [.ref (y 2), .ref (y 20), .ref (y 21), .ref (y 22), .ref (y 23), .ref (y 24)])), (y 20, aI V 2000 fy20), (y 21, aI V 6 fy21), (y 22, aI V 64 fy22)]) [6, 7, 0, 1, 2, 3, 4, 5] rfl rfl
      exact fiI hx hb hr hlk hK hP hD hS dX9_by_45 (Nat.le_of_ble_eq_true rfl) (Nat.le_of_ble_eq_true rfl) (⟨fy20, fy21, fy22, rfl⟩)
    · have b_22 : iv 1 1 r_19 := iv_n0 c_20 br_19 (iv_c (0 : Int32) (a := 0) (b := 0) (by decide)) (by decide)
      refine lv_aload_n hx hb dX9_by_20 rfl (lv_at hl 0 rfl) ?_
      refine va_get (ci := 9) (v := .ref (y 19)) (C := RX9) (T := TX9) (N := 15) hx hb hg inX9 hown hK hP 6 rfl rfl 4 (by decide) (hg _ q_2_40) (fun _ h9 => h9) rfl dX9_by_21 ?_
      refine lv_aload_n hx hb dX9_by_24 rfl (lv_at hl 0 rfl) ?_
      refine va_get (ci := 9) (v := .int py0_12) (C := RX9) (T := TX9) (N := 15) hx hb hg inX9 hown hK hP 6 rfl rfl 12 (by decide) (hg _ q_2_48) (fun _ h9 => h9) rfl dX9_by_25 ?_
      refine lv_aload_n hx hb dX9_by_28 rfl (lv_at hl 0 rfl) ?_
      refine va_get (ci := 9) (v := .int py0_13) (C := RX9) (T := TX9) (N := 15) hx hb hg inX9 hown hK hP 6 rfl rfl 13 (by decide) (hg _ q_2_49) (fun _ h9 => h9) rfl dX9_by_29 ?_
      refine lv_iload_n hx hb dX9_by_32 rfl (lv_at hl 1 rfl) ?_
      refine jnI (wr := [(y 0, .inr (9, [.ref (y 1), .int py0_1, .ref (y 2), .ref (y 10), .ref (y 19), .ref (y 25), .ref (y 26), .ref (y 30), .ref (y 31), .ref (y 32), o10, o11, .int py0_12, .int py0_13, .int py0_14]))]) (rnV (rest := []) ⟨hx, hb, hml, hown, hg⟩ (k_X4_behind_0 l V y py0_12 py0_13 a1 fy3 fy9 fy20 fy21 fy22 py2_0 py2_1 py2_2 py2_3 py2_4 py2_5 py2_13 py2_14 py2_15 py2_16 py2_17 (iv_w b_15 (by decide)) bpy2_2 bpy2_3 bpy2_13 bpy2_14 bpy2_15 bpy2_16 bpy2_17) mt_X4_behind q_3_145 ⟨Nat.le_of_ble_eq_true rfl, Nat.le_of_ble_eq_true rfl⟩ hK hP hD hS hA hE [0, 1, 2, 3, 4, 5, 7] rfl rfl 2 rfl rfl rfl rfl hl.1 rfl (Nat.le_of_ble_eq_true rfl) dX9_by_33 ⟨Nat.le_of_ble_eq_true rfl, Nat.le_of_ble_eq_true rfl⟩) hP hD hS hA [0, 1, 2, 3, 4, 5, 7] [6] rfl rfl rfl (by decide) (fun r_23 w H locs hw hP hD hS => ?_)
      obtain ⟨f_24, f_25, f_26, rfl⟩ := hw
      have hP : va_P V.1 vwCl [(y 0, .inr (9, [.ref (y 1), .int py0_1, .ref (y 2), .ref (y 10), .ref (y 19), .ref (y 25), .ref (y 26), .ref (y 30), .ref (y 31), .ref (y 32), o10, o11, .int py0_12, .int py0_13, .int py0_14])), (y 3, aI V 4 fy3), (y 9, aI V 900 fy9), (y 19, .inr (4, [.ref (y 2), .ref (y 20), .ref (y 21), .ref (y 22), .ref (y 23), .ref (y 24)])), (y 20, aI V 2000 f_24), (y 21, aI V 6 f_25), (y 22, aI V 64 f_26), (y 2, .inr (1, [.int py2_0, .int py2_1, .int py2_2, .int py2_3, .int py2_4, .int py2_5, .ref (y 3), .ref (y 4), .ref (y 5), .ref (y 6), .ref (y 7), .ref (y 8), .ref (y 9), .int py2_13, .int py2_14, .int py2_15, .int py2_16, .int py2_17]))] H := hP
      have hD : va_D A [(y 0, .inr (9, [.ref (y 1), .int py0_1, .ref (y 2), .ref (y 10), .ref (y 19), .ref (y 25), .ref (y 26), .ref (y 30), .ref (y 31), .ref (y 32), o10, o11, .int py0_12, .int py0_13, .int py0_14])), (y 3, aI V 4 fy3), (y 9, aI V 900 fy9), (y 19, .inr (4, [.ref (y 2), .ref (y 20), .ref (y 21), .ref (y 22), .ref (y 23), .ref (y 24)])), (y 20, aI V 2000 f_24), (y 21, aI V 6 f_25), (y 22, aI V 64 f_26), (y 2, .inr (1, [.int py2_0, .int py2_1, .int py2_2, .int py2_3, .int py2_4, .int py2_5, .ref (y 3), .ref (y 4), .ref (y 5), .ref (y 6), .ref (y 7), .ref (y 8), .ref (y 9), .int py2_13, .int py2_14, .int py2_15, .int py2_16, .int py2_17]))] := hD
      refine lv_iload_n hx hb dX9_by_36 rfl (lv_at hl 2 rfl) ?_
      refine jnI (wr := [(y 0, .inr (9, [.ref (y 1), .int py0_1, .ref (y 2), .ref (y 10), .ref (y 19), .ref (y 25), .ref (y 26), .ref (y 30), .ref (y 31), .ref (y 32), o10, o11, .int py0_12, .int py0_13, .int py0_14])), (y 3, aI V 4 fy3), (y 9, aI V 900 fy9), (y 19, .inr (4, [.ref (y 2), .ref (y 20), .ref (y 21), .ref (y 22), .ref (y 23), .ref (y 24)])), (y 20, aI V 2000 f_24), (y 21, aI V 6 f_25), (y 22, aI V 64 f_26), (y 2, .inr (1, [.int py2_0, .int py2_1, .int py2_2, .int py2_3, .int py2_4, .int py2_5, .ref (y 3), .ref (y 4), .ref (y 5), .ref (y 6), .ref (y 7), .ref (y 8), .ref (y 9), .int py2_13, .int py2_14, .int py2_15, .int py2_16, .int py2_17]))]) (rnS (rest := []) ⟨hx, hb, hml, hown, hg⟩ (k_X9_stackIn_0 l V r_23 a2 (iv_w b_14 (by decide))) mt_X9_stackIn q_3_126 ⟨Nat.le_of_ble_eq_true rfl, Nat.le_of_ble_eq_true rfl⟩ hK hP hD hS hA hE [] rfl rfl rfl hl.1 rfl (Nat.le_of_ble_eq_true rfl) dX9_by_37 ⟨Nat.le_of_ble_eq_true rfl, Nat.le_of_ble_eq_true rfl⟩) hP hD hS hA [] [0, 1, 2, 3, 4, 5, 6, 7] rfl rfl rfl (by decide) (fun r_27 w H locs hw hP hD hS => ?_)
      subst hw
      have hP : va_P V.1 vwCl [(y 0, .inr (9, [.ref (y 1), .int py0_1, .ref (y 2), .ref (y 10), .ref (y 19), .ref (y 25), .ref (y 26), .ref (y 30), .ref (y 31), .ref (y 32), o10, o11, .int py0_12, .int py0_13, .int py0_14])), (y 3, aI V 4 fy3), (y 9, aI V 900 fy9), (y 19, .inr (4, [.ref (y 2), .ref (y 20), .ref (y 21), .ref (y 22), .ref (y 23), .ref (y 24)])), (y 20, aI V 2000 f_24), (y 21, aI V 6 f_25), (y 22, aI V 64 f_26), (y 2, .inr (1, [.int py2_0, .int py2_1, .int py2_2, .int py2_3, .int py2_4, .int py2_5, .ref (y 3), .ref (y 4), .ref (y 5), .ref (y 6), .ref (y 7), .ref (y 8), .ref (y 9), .int py2_13, .int py2_14, .int py2_15, .int py2_16, .int py2_17]))] H := hP
      have hD : va_D A [(y 0, .inr (9, [.ref (y 1), .int py0_1, .ref (y 2), .ref (y 10), .ref (y 19), .ref (y 25), .ref (y 26), .ref (y 30), .ref (y 31), .ref (y 32), o10, o11, .int py0_12, .int py0_13, .int py0_14])), (y 3, aI V 4 fy3), (y 9, aI V 900 fy9), (y 19, .inr (4, [.ref (y 2), .ref (y 20), .ref (y 21), .ref (y 22), .ref (y 23), .ref (y 24)])), (y 20, aI V 2000 f_24), (y 21, aI V 6 f_25), (y 22, aI V 64 f_26), (y 2, .inr (1, [.int py2_0, .int py2_1, .int py2_2, .int py2_3, .int py2_4, .int py2_5, .ref (y 3), .ref (y 4), .ref (y 5), .ref (y 6), .ref (y 7), .ref (y 8), .ref (y 9), .int py2_13, .int py2_14, .int py2_15, .int py2_16, .int py2_17]))] := hD
      refine lv_goto (tgt := 45) hx hb dX9_by_40 (by decide) ?_
      have hP := subP (ws' := [(y 0, .inr (9, [.ref (y 1), .int py0_1, .ref (y 2), .ref (y 10), .ref (y 19), .ref (y 25), .ref (y 26), .ref (y 30), .ref (y 31), .ref (y 32), o10, o11, .int py0_12, .int py0_13, .int py0_14])), (y 2, .inr (1, [.int py2_0, .int py2_1, .int py2_2, .int py2_3, .int py2_4, .int py2_5, .ref (y 3), .ref (y 4), .ref (y 5), .ref (y 6), .ref (y 7), .ref (y 8), .ref (y 9), .int py2_13, .int py2_14, .int py2_15, .int py2_16, .int py2_17])), (y 3, aI V 4 fy3), (y 9, aI V 900 fy9), (y 19, .inr (4, [.ref (y 2), .ref (y 20), .ref (y 21), .ref (y 22), .ref (y 23), .ref (y 24)])), (y 20, aI V 2000 f_24), (y 21, aI V 6 f_25), (y 22, aI V 64 f_26)]) hP [0, 7, 1, 2, 3, 4, 5, 6] rfl
      have hD := hD.sub (ws' := [(y 0, .inr (9, [.ref (y 1), .int py0_1, .ref (y 2), .ref (y 10), .ref (y 19), .ref (y 25), .ref (y 26), .ref (y 30), .ref (y 31), .ref (y 32), o10, o11, .int py0_12, .int py0_13, .int py0_14])), (y 2, .inr (1, [.int py2_0, .int py2_1, .int py2_2, .int py2_3, .int py2_4, .int py2_5, .ref (y 3), .ref (y 4), .ref (y 5), .ref (y 6), .ref (y 7), .ref (y 8), .ref (y 9), .int py2_13, .int py2_14, .int py2_15, .int py2_16, .int py2_17])), (y 3, aI V 4 fy3), (y 9, aI V 900 fy9), (y 19, .inr (4, [.ref (y 2), .ref (y 20), .ref (y 21), .ref (y 22), .ref (y 23), .ref (y 24)])), (y 20, aI V 2000 f_24), (y 21, aI V 6 f_25), (y 22, aI V 64 f_26)]) [0, 7, 1, 2, 3, 4, 5, 6] rfl rfl
      exact fiI hx hb hr hlk hK hP hD hS dX9_by_45 (Nat.le_of_ble_eq_true rfl) (Nat.le_of_ble_eq_true rfl) (⟨f_24, f_25, f_26, rfl⟩)
theorem dX5_forgetEldest_0 : decode cX5_forgetEldest 0 = .ok (.aload_n 0, 1) := by decide +kernel
theorem dX5_forgetEldest_1 : decode cX5_forgetEldest 1 = .ok (.iconst 1, 1) := by decide +kernel
theorem dX5_forgetEldest_2 : decode cX5_forgetEldest 2 = .ok (.aload_n 0, 1) := by decide +kernel
theorem dX5_forgetEldest_3 : decode cX5_forgetEldest 3 = .ok (.iconst 0, 1) := by decide +kernel
theorem dX5_forgetEldest_4 : decode cX5_forgetEldest 4 = .ok (.bipush 9, 2) := by decide +kernel
theorem q_3_184 : Cond.methodLink "BeaconDelay$Past" 29 arraycopyName ∈ gw := gw_3 (i := 184) (by decide +kernel) rfl
theorem q_3_102 : Cond.native arraycopyName ∈ gw := gw_3 (i := 102) (by decide +kernel) rfl
theorem q_3_101 : Cond.static arraycopyName ∈ gw := gw_3 (i := 101) (by decide +kernel) rfl
theorem q_1_16 : Cond.initialized "java/lang/System" ∈ gw := gw_1 (i := 16) (by decide +kernel) rfl
theorem dX5_forgetEldest_6 : decode cX5_forgetEldest 6 = .ok (.invokestatic 29, 3) := by decide +kernel
theorem dX5_forgetEldest_9 : decode cX5_forgetEldest 9 = .ok (.return_, 1) := by decide +kernel
set_option maxHeartbeats 4000000 in
set_option maxRecDepth 100000 in
theorem k_X5_forgetEldest_0 (l : Launch) (V : GV) (y : Nat → Nat) (fy27 : Nat → Int32) : Ct l V yX5_forgetEldest (.code yX5_forgetEldest cX5_forgetEldest 1 none) 3 [.ref (y 27)] [(y 27, aI V 10 fy27)] 0 0 (QV V (fun (w : va_W) => ∃ (g0 : Nat → Int32), w = [(y 27, aI V 10 g0)])) := by
  refine Ct.of (by decide) (Nat.le_of_ble_eq_true rfl) (fun p e s m below meth c A ls hx hb hr hml hown hlk hnm hg hP hK hD hE hA hS hl => ?_)
  have hl : lv_has ls 1 [(0, .ref (y 27))] := hl
  refine lv_aload_n hx hb dX5_forgetEldest_0 rfl (lv_at hl 0 rfl) ?_
  refine lv_iconst (v := 1) hx hb dX5_forgetEldest_1 (by decide) ?_
  refine lv_aload_n hx hb dX5_forgetEldest_2 rfl (lv_at hl 0 rfl) ?_
  refine lv_iconst (v := 0) hx hb dX5_forgetEldest_3 (by decide) ?_
  refine lv_bipush (v := 9) hx hb dX5_forgetEldest_4 (by decide) ?_
  refine va_copyi hx hb (hml.trans hl.1.symm) hown (hg _ q_3_184) (hg _ q_3_102) (hg _ q_3_101) (hg _ q_1_16) hK hP hD hS 0 0 0 0 rfl rfl rfl rfl rfl (by decide) (by decide) (by decide) (by decide) (by decide) (fun _ _ => rfl) (Nat.le_of_ble_eq_true rfl) (by decide +kernel) dX5_forgetEldest_6 (fun H locs hP hD hS => ?_)
  obtain ⟨f_1, hP, hD⟩ : ∃ f_1 : Nat → Int32, va_P V.1 vwCl [(y 27, aI V 10 f_1)] H ∧ va_D A [(y 27, aI V 10 f_1)] := ⟨_, hP, hD⟩
  exact fiV hx hb hr hlk hK hP hD hS dX5_forgetEldest_9 (Nat.le_of_ble_eq_true rfl) (Nat.le_of_ble_eq_true rfl) (⟨f_1, rfl⟩)
set_option maxHeartbeats 4000000 in
set_option maxRecDepth 100000 in
theorem k_X5_forgetEldest_1 (l : Launch) (V : GV) (y : Nat → Nat) (fy28 : Nat → Int32) : Ct l V yX5_forgetEldest (.code yX5_forgetEldest cX5_forgetEldest 1 none) 3 [.ref (y 28)] [(y 28, aI V 10 fy28)] 0 0 (QV V (fun (w : va_W) => ∃ (g0 : Nat → Int32), w = [(y 28, aI V 10 g0)])) := by
  refine Ct.of (by decide) (Nat.le_of_ble_eq_true rfl) (fun p e s m below meth c A ls hx hb hr hml hown hlk hnm hg hP hK hD hE hA hS hl => ?_)
  have hl : lv_has ls 1 [(0, .ref (y 28))] := hl
  refine lv_aload_n hx hb dX5_forgetEldest_0 rfl (lv_at hl 0 rfl) ?_
  refine lv_iconst (v := 1) hx hb dX5_forgetEldest_1 (by decide) ?_
  refine lv_aload_n hx hb dX5_forgetEldest_2 rfl (lv_at hl 0 rfl) ?_
  refine lv_iconst (v := 0) hx hb dX5_forgetEldest_3 (by decide) ?_
  refine lv_bipush (v := 9) hx hb dX5_forgetEldest_4 (by decide) ?_
  refine va_copyi hx hb (hml.trans hl.1.symm) hown (hg _ q_3_184) (hg _ q_3_102) (hg _ q_3_101) (hg _ q_1_16) hK hP hD hS 0 0 0 0 rfl rfl rfl rfl rfl (by decide) (by decide) (by decide) (by decide) (by decide) (fun _ _ => rfl) (Nat.le_of_ble_eq_true rfl) (by decide +kernel) dX5_forgetEldest_6 (fun H locs hP hD hS => ?_)
  obtain ⟨f_1, hP, hD⟩ : ∃ f_1 : Nat → Int32, va_P V.1 vwCl [(y 28, aI V 10 f_1)] H ∧ va_D A [(y 28, aI V 10 f_1)] := ⟨_, hP, hD⟩
  exact fiV hx hb hr hlk hK hP hD hS dX5_forgetEldest_9 (Nat.le_of_ble_eq_true rfl) (Nat.le_of_ble_eq_true rfl) (⟨f_1, rfl⟩)
set_option maxHeartbeats 4000000 in
set_option maxRecDepth 100000 in
theorem k_X5_forgetEldest_2 (l : Launch) (V : GV) (y : Nat → Nat) (fy29 : Nat → Int32) : Ct l V yX5_forgetEldest (.code yX5_forgetEldest cX5_forgetEldest 1 none) 3 [.ref (y 29)] [(y 29, aI V 10 fy29)] 0 0 (QV V (fun (w : va_W) => ∃ (g0 : Nat → Int32), w = [(y 29, aI V 10 g0)])) := by
  refine Ct.of (by decide) (Nat.le_of_ble_eq_true rfl) (fun p e s m below meth c A ls hx hb hr hml hown hlk hnm hg hP hK hD hE hA hS hl => ?_)
  have hl : lv_has ls 1 [(0, .ref (y 29))] := hl
  refine lv_aload_n hx hb dX5_forgetEldest_0 rfl (lv_at hl 0 rfl) ?_
  refine lv_iconst (v := 1) hx hb dX5_forgetEldest_1 (by decide) ?_
  refine lv_aload_n hx hb dX5_forgetEldest_2 rfl (lv_at hl 0 rfl) ?_
  refine lv_iconst (v := 0) hx hb dX5_forgetEldest_3 (by decide) ?_
  refine lv_bipush (v := 9) hx hb dX5_forgetEldest_4 (by decide) ?_
  refine va_copyi hx hb (hml.trans hl.1.symm) hown (hg _ q_3_184) (hg _ q_3_102) (hg _ q_3_101) (hg _ q_1_16) hK hP hD hS 0 0 0 0 rfl rfl rfl rfl rfl (by decide) (by decide) (by decide) (by decide) (by decide) (fun _ _ => rfl) (Nat.le_of_ble_eq_true rfl) (by decide +kernel) dX5_forgetEldest_6 (fun H locs hP hD hS => ?_)
  obtain ⟨f_1, hP, hD⟩ : ∃ f_1 : Nat → Int32, va_P V.1 vwCl [(y 29, aI V 10 f_1)] H ∧ va_D A [(y 29, aI V 10 f_1)] := ⟨_, hP, hD⟩
  exact fiV hx hb hr hlk hK hP hD hS dX5_forgetEldest_9 (Nat.le_of_ble_eq_true rfl) (Nat.le_of_ble_eq_true rfl) (⟨f_1, rfl⟩)
theorem dX5_keep_0 : decode cX5_keep 0 = .ok (.aload_n 0, 1) := by decide +kernel
theorem q_1_217 : Cond.fieldLink "BeaconDelay$Past" 21 "BeaconDelay$Past" "count" "I" ∈ gw := gw_1 (i := 217) (by decide +kernel) rfl
theorem dX5_keep_1 : decode cX5_keep 1 = .ok (.getfield 21, 3) := by decide +kernel
theorem dX5_keep_4 : decode cX5_keep 4 = .ok (.bipush 10, 2) := by decide +kernel
theorem dX5_keep_6 : decode cX5_keep 6 = .ok (.if_icmp .ne 34, 3) := by decide +kernel
theorem dX5_keep_40 : decode cX5_keep 40 = .ok (.aload_n 0, 1) := by decide +kernel
theorem q_1_211 : Cond.fieldLink "BeaconDelay$Past" 9 "BeaconDelay$Past" "standing" "[I" ∈ gw := gw_1 (i := 211) (by decide +kernel) rfl
theorem dX5_keep_41 : decode cX5_keep 41 = .ok (.getfield 9, 3) := by decide +kernel
theorem dX5_keep_44 : decode cX5_keep 44 = .ok (.aload_n 0, 1) := by decide +kernel
theorem dX5_keep_45 : decode cX5_keep 45 = .ok (.getfield 21, 3) := by decide +kernel
theorem dX5_keep_48 : decode cX5_keep 48 = .ok (.iload_n 1, 1) := by decide +kernel
theorem dX5_keep_49 : decode cX5_keep 49 = .ok (.iastore, 1) := by decide +kernel
theorem dX5_keep_50 : decode cX5_keep 50 = .ok (.aload_n 0, 1) := by decide +kernel
theorem q_1_213 : Cond.fieldLink "BeaconDelay$Past" 15 "BeaconDelay$Past" "weather" "[I" ∈ gw := gw_1 (i := 213) (by decide +kernel) rfl
theorem dX5_keep_51 : decode cX5_keep 51 = .ok (.getfield 15, 3) := by decide +kernel
theorem dX5_keep_54 : decode cX5_keep 54 = .ok (.aload_n 0, 1) := by decide +kernel
theorem dX5_keep_55 : decode cX5_keep 55 = .ok (.getfield 21, 3) := by decide +kernel
theorem dX5_keep_58 : decode cX5_keep 58 = .ok (.iload_n 2, 1) := by decide +kernel
theorem dX5_keep_59 : decode cX5_keep 59 = .ok (.iastore, 1) := by decide +kernel
theorem dX5_keep_60 : decode cX5_keep 60 = .ok (.aload_n 0, 1) := by decide +kernel
theorem q_1_215 : Cond.fieldLink "BeaconDelay$Past" 18 "BeaconDelay$Past" "nights" "[I" ∈ gw := gw_1 (i := 215) (by decide +kernel) rfl
theorem dX5_keep_61 : decode cX5_keep 61 = .ok (.getfield 18, 3) := by decide +kernel
theorem dX5_keep_64 : decode cX5_keep 64 = .ok (.aload_n 0, 1) := by decide +kernel
theorem dX5_keep_65 : decode cX5_keep 65 = .ok (.getfield 21, 3) := by decide +kernel
theorem dX5_keep_68 : decode cX5_keep 68 = .ok (.iload_n 3, 1) := by decide +kernel
theorem dX5_keep_69 : decode cX5_keep 69 = .ok (.iastore, 1) := by decide +kernel
theorem dX5_keep_70 : decode cX5_keep 70 = .ok (.aload_n 0, 1) := by decide +kernel
theorem dX5_keep_71 : decode cX5_keep 71 = .ok (.dup, 1) := by decide +kernel
theorem dX5_keep_72 : decode cX5_keep 72 = .ok (.getfield 21, 3) := by decide +kernel
theorem dX5_keep_75 : decode cX5_keep 75 = .ok (.iconst 1, 1) := by decide +kernel
theorem dX5_keep_76 : decode cX5_keep 76 = .ok (.iadd, 1) := by decide +kernel
theorem dX5_keep_77 : decode cX5_keep 77 = .ok (.putfield 21, 3) := by decide +kernel
theorem dX5_keep_80 : decode cX5_keep 80 = .ok (.return_, 1) := by decide +kernel
theorem dX5_keep_9 : decode cX5_keep 9 = .ok (.aload_n 0, 1) := by decide +kernel
theorem dX5_keep_10 : decode cX5_keep 10 = .ok (.getfield 9, 3) := by decide +kernel
theorem q_3_183 : Cond.code yX5_forgetEldest prog_7_method_3_code 1 none ∈ gw := gw_3 (i := 183) (rfl) rfl
theorem q_1_6 : Cond.initialized "BeaconDelay$Past" ∈ gw := gw_1 (i := 6) (by decide +kernel) rfl
theorem q_3_182 : Cond.static yX5_forgetEldest ∈ gw := gw_3 (i := 182) (by decide +kernel) rfl
theorem mt_X5_forgetEldest : MtS yX5_forgetEldest cX5_forgetEldest 1 none 1 := ⟨⟨q_3_183, q_1_6, by decide +kernel, by decide +kernel, by decide +kernel⟩, q_3_182⟩
theorem q_3_181 : Cond.methodLink "BeaconDelay$Past" 25 yX5_forgetEldest ∈ gw := gw_3 (i := 181) (by decide +kernel) rfl
theorem dX5_keep_13 : decode cX5_keep 13 = .ok (.invokestatic 25, 3) := by decide +kernel
theorem dX5_keep_16 : decode cX5_keep 16 = .ok (.aload_n 0, 1) := by decide +kernel
theorem dX5_keep_17 : decode cX5_keep 17 = .ok (.getfield 15, 3) := by decide +kernel
theorem dX5_keep_20 : decode cX5_keep 20 = .ok (.invokestatic 25, 3) := by decide +kernel
theorem dX5_keep_23 : decode cX5_keep 23 = .ok (.aload_n 0, 1) := by decide +kernel
theorem dX5_keep_24 : decode cX5_keep 24 = .ok (.getfield 18, 3) := by decide +kernel
theorem dX5_keep_27 : decode cX5_keep 27 = .ok (.invokestatic 25, 3) := by decide +kernel
theorem dX5_keep_30 : decode cX5_keep 30 = .ok (.aload_n 0, 1) := by decide +kernel
theorem dX5_keep_31 : decode cX5_keep 31 = .ok (.dup, 1) := by decide +kernel
theorem dX5_keep_32 : decode cX5_keep 32 = .ok (.getfield 21, 3) := by decide +kernel
theorem dX5_keep_35 : decode cX5_keep 35 = .ok (.iconst 1, 1) := by decide +kernel
theorem dX5_keep_36 : decode cX5_keep 36 = .ok (.isub, 1) := by decide +kernel
theorem dX5_keep_37 : decode cX5_keep 37 = .ok (.putfield 21, 3) := by decide +kernel
set_option maxHeartbeats 4000000 in
set_option maxRecDepth 100000 in
theorem k_X5_keep_0 (l : Launch) (V : GV) (y : Nat → Nat) (a1 : Int32) (a2 : Int32) (a3 : Int32) (py26_3 : Int32) (fy27 : Nat → Int32) (fy28 : Nat → Int32) (fy29 : Nat → Int32) (bpy26_3 : iv 0 10 py26_3) : Ct l V yX5_keep (.code yX5_keep cX5_keep 4 none) 4 [.ref (y 26), .int a1, .int a2, .int a3] [(y 26, .inr (5, [.ref (y 27), .ref (y 28), .ref (y 29), .int py26_3])), (y 27, aI V 10 fy27), (y 28, aI V 10 fy28), (y 29, aI V 10 fy29)] 0 0 (QV V (fun (w : va_W) => ∃ (v0 : Int32) (g1 : Nat → Int32) (g2 : Nat → Int32) (g3 : Nat → Int32), iv 0 10 v0 ∧ w = [(y 26, .inr (5, [.ref (y 27), .ref (y 28), .ref (y 29), .int v0])), (y 27, aI V 10 g1), (y 28, aI V 10 g2), (y 29, aI V 10 g3)])) := by
  refine Ct.of (by decide) (Nat.le_of_ble_eq_true rfl) (fun p e s m below meth c A ls hx hb hr hml hown hlk hnm hg hP hK hD hE hA hS hl => ?_)
  have hl : lv_has ls 4 [(0, .ref (y 26)), (1, .int a1), (2, .int a2), (3, .int a3)] := hl
  refine lv_aload_n hx hb dX5_keep_0 rfl (lv_at hl 0 rfl) ?_
  refine va_get (ci := 5) (v := .int py26_3) (C := RX5) (T := TX5) (N := 4) hx hb hg inX5 hown hK hP 0 rfl rfl 3 (by decide) (hg _ q_1_217) (fun _ h9 => h9) rfl dX5_keep_1 ?_
  refine lv_bipush (v := 10) hx hb dX5_keep_4 (by decide) ?_
  refine lv_icmp_ne (tgt := 40) hx hb dX5_keep_6 (by decide) (fun c_1 => ?_) (fun c_1 => ?_)
  · have b_2 : iv 0 9 py26_3 := iv_n1 c_1 bpy26_3 (iv_c (10 : Int32) (a := 10) (b := 10) (by decide)) (by decide)
    refine lv_aload_n hx hb dX5_keep_40 rfl (lv_at hl 0 rfl) ?_
    refine va_get (ci := 5) (v := .ref (y 27)) (C := RX5) (T := TX5) (N := 4) hx hb hg inX5 hown hK hP 0 rfl rfl 0 (by decide) (hg _ q_1_211) (fun _ h9 => h9) rfl dX5_keep_41 ?_
    refine lv_aload_n hx hb dX5_keep_44 rfl (lv_at hl 0 rfl) ?_
    refine va_get (ci := 5) (v := .int py26_3) (C := RX5) (T := TX5) (N := 4) hx hb hg inX5 hown hK hP 0 rfl rfl 3 (by decide) (hg _ q_1_217) (fun _ h9 => h9) rfl dX5_keep_45 ?_
    refine lv_iload_n hx hb dX5_keep_48 rfl (lv_at hl 1 rfl) ?_
    refine va_iast hx hb hK hP hD hS 1 0 rfl rfl (iv_in b_2 (by decide)) dX5_keep_49 (fun H locs hP hD hS => ?_)
    obtain ⟨f_3, hP, hD⟩ : ∃ f_3 : Nat → Int32, va_P V.1 vwCl [(y 26, .inr (5, [.ref (y 27), .ref (y 28), .ref (y 29), .int py26_3])), (y 27, aI V 10 f_3), (y 28, aI V 10 fy28), (y 29, aI V 10 fy29)] H ∧ va_D A [(y 26, .inr (5, [.ref (y 27), .ref (y 28), .ref (y 29), .int py26_3])), (y 27, aI V 10 f_3), (y 28, aI V 10 fy28), (y 29, aI V 10 fy29)] := ⟨_, hP, hD⟩
    refine lv_aload_n hx hb dX5_keep_50 rfl (lv_at hl 0 rfl) ?_
    refine va_get (ci := 5) (v := .ref (y 28)) (C := RX5) (T := TX5) (N := 4) hx hb hg inX5 hown hK hP 0 rfl rfl 1 (by decide) (hg _ q_1_213) (fun _ h9 => h9) rfl dX5_keep_51 ?_
    refine lv_aload_n hx hb dX5_keep_54 rfl (lv_at hl 0 rfl) ?_
    refine va_get (ci := 5) (v := .int py26_3) (C := RX5) (T := TX5) (N := 4) hx hb hg inX5 hown hK hP 0 rfl rfl 3 (by decide) (hg _ q_1_217) (fun _ h9 => h9) rfl dX5_keep_55 ?_
    refine lv_iload_n hx hb dX5_keep_58 rfl (lv_at hl 2 rfl) ?_
    refine va_iast hx hb hK hP hD hS 2 0 rfl rfl (iv_in b_2 (by decide)) dX5_keep_59 (fun H locs hP hD hS => ?_)
    obtain ⟨f_4, hP, hD⟩ : ∃ f_4 : Nat → Int32, va_P V.1 vwCl [(y 26, .inr (5, [.ref (y 27), .ref (y 28), .ref (y 29), .int py26_3])), (y 27, aI V 10 f_3), (y 28, aI V 10 f_4), (y 29, aI V 10 fy29)] H ∧ va_D A [(y 26, .inr (5, [.ref (y 27), .ref (y 28), .ref (y 29), .int py26_3])), (y 27, aI V 10 f_3), (y 28, aI V 10 f_4), (y 29, aI V 10 fy29)] := ⟨_, hP, hD⟩
    refine lv_aload_n hx hb dX5_keep_60 rfl (lv_at hl 0 rfl) ?_
    refine va_get (ci := 5) (v := .ref (y 29)) (C := RX5) (T := TX5) (N := 4) hx hb hg inX5 hown hK hP 0 rfl rfl 2 (by decide) (hg _ q_1_215) (fun _ h9 => h9) rfl dX5_keep_61 ?_
    refine lv_aload_n hx hb dX5_keep_64 rfl (lv_at hl 0 rfl) ?_
    refine va_get (ci := 5) (v := .int py26_3) (C := RX5) (T := TX5) (N := 4) hx hb hg inX5 hown hK hP 0 rfl rfl 3 (by decide) (hg _ q_1_217) (fun _ h9 => h9) rfl dX5_keep_65 ?_
    refine lv_iload_n hx hb dX5_keep_68 rfl (lv_at hl 3 rfl) ?_
    refine va_iast hx hb hK hP hD hS 3 0 rfl rfl (iv_in b_2 (by decide)) dX5_keep_69 (fun H locs hP hD hS => ?_)
    obtain ⟨f_5, hP, hD⟩ : ∃ f_5 : Nat → Int32, va_P V.1 vwCl [(y 26, .inr (5, [.ref (y 27), .ref (y 28), .ref (y 29), .int py26_3])), (y 27, aI V 10 f_3), (y 28, aI V 10 f_4), (y 29, aI V 10 f_5)] H ∧ va_D A [(y 26, .inr (5, [.ref (y 27), .ref (y 28), .ref (y 29), .int py26_3])), (y 27, aI V 10 f_3), (y 28, aI V 10 f_4), (y 29, aI V 10 f_5)] := ⟨_, hP, hD⟩
    refine lv_aload_n hx hb dX5_keep_70 rfl (lv_at hl 0 rfl) ?_
    refine lv_dup hx hb dX5_keep_71 rfl ?_
    refine va_get (ci := 5) (v := .int py26_3) (C := RX5) (T := TX5) (N := 4) hx hb hg inX5 hown hK hP 0 rfl rfl 3 (by decide) (hg _ q_1_217) (fun _ h9 => h9) rfl dX5_keep_72 ?_
    refine lv_iconst (v := 1) hx hb dX5_keep_75 (by decide) ?_
    refine lv_iadd hx hb dX5_keep_76 ?_
    refine lv_topi (fun x_6 ex_6 => ?_)
    have bx_6 : iv 1 10 x_6 := by rw [ex_6]; exact iv_add b_2 (iv_c (1 : Int32) (a := 1) (b := 1) (by decide)) (by decide)
    refine va_put (ci := 5) (v := .int x_6) (ty := .int) (C := RX5) (T := TX5) (N := 4) hx hb hg inX5 tyX5 tyX5_ok nmX5 hown hK hP hD hS 0 rfl rfl 3 (by decide) (hg _ q_1_217) (fun _ h9 => h9) rfl (by decide +kernel) rfl rfl (Nat.le_of_ble_eq_true rfl) dX5_keep_77 (fun H locs hP hD hS => ?_)
    have hP : va_P V.1 vwCl [(y 26, .inr (5, [.ref (y 27), .ref (y 28), .ref (y 29), .int x_6])), (y 27, aI V 10 f_3), (y 28, aI V 10 f_4), (y 29, aI V 10 f_5)] H := hP
    have hD : va_D A [(y 26, .inr (5, [.ref (y 27), .ref (y 28), .ref (y 29), .int x_6])), (y 27, aI V 10 f_3), (y 28, aI V 10 f_4), (y 29, aI V 10 f_5)] := hD
    exact fiV hx hb hr hlk hK hP hD hS dX5_keep_80 (Nat.le_of_ble_eq_true rfl) (Nat.le_of_ble_eq_true rfl) (⟨x_6, f_3, f_4, f_5, (iv_w bx_6 (by decide)), rfl⟩)
  · have b_7 : iv 10 10 py26_3 := iv_q c_1 (iv_c (10 : Int32) (a := 10) (b := 10) (by decide))
    refine lv_aload_n hx hb dX5_keep_9 rfl (lv_at hl 0 rfl) ?_
    refine va_get (ci := 5) (v := .ref (y 27)) (C := RX5) (T := TX5) (N := 4) hx hb hg inX5 hown hK hP 0 rfl rfl 0 (by decide) (hg _ q_1_211) (fun _ h9 => h9) rfl dX5_keep_10 ?_
    refine jnV (wr := [(y 26, .inr (5, [.ref (y 27), .ref (y 28), .ref (y 29), .int py26_3])), (y 28, aI V 10 fy28), (y 29, aI V 10 fy29)]) (rnS (rest := []) ⟨hx, hb, hml, hown, hg⟩ (k_X5_forgetEldest_0 l V y fy27) mt_X5_forgetEldest q_3_181 ⟨Nat.le_of_ble_eq_true rfl, Nat.le_of_ble_eq_true rfl⟩ hK hP hD hS hA hE [1] rfl rfl rfl hl.1 rfl (Nat.le_of_ble_eq_true rfl) dX5_keep_13 ⟨Nat.le_of_ble_eq_true rfl, Nat.le_of_ble_eq_true rfl⟩) hP hD hS hA [1] [0, 2, 3] rfl rfl rfl (by decide) (fun  w H locs hw hP hD hS => ?_)
    obtain ⟨f_8, rfl⟩ := hw
    have hP : va_P V.1 vwCl [(y 26, .inr (5, [.ref (y 27), .ref (y 28), .ref (y 29), .int py26_3])), (y 28, aI V 10 fy28), (y 29, aI V 10 fy29), (y 27, aI V 10 f_8)] H := hP
    have hD : va_D A [(y 26, .inr (5, [.ref (y 27), .ref (y 28), .ref (y 29), .int py26_3])), (y 28, aI V 10 fy28), (y 29, aI V 10 fy29), (y 27, aI V 10 f_8)] := hD
    refine lv_aload_n hx hb dX5_keep_16 rfl (lv_at hl 0 rfl) ?_
    refine va_get (ci := 5) (v := .ref (y 28)) (C := RX5) (T := TX5) (N := 4) hx hb hg inX5 hown hK hP 0 rfl rfl 1 (by decide) (hg _ q_1_213) (fun _ h9 => h9) rfl dX5_keep_17 ?_
    refine jnV (wr := [(y 26, .inr (5, [.ref (y 27), .ref (y 28), .ref (y 29), .int py26_3])), (y 29, aI V 10 fy29), (y 27, aI V 10 f_8)]) (rnS (rest := []) ⟨hx, hb, hml, hown, hg⟩ (k_X5_forgetEldest_1 l V y fy28) mt_X5_forgetEldest q_3_181 ⟨Nat.le_of_ble_eq_true rfl, Nat.le_of_ble_eq_true rfl⟩ hK hP hD hS hA hE [1] rfl rfl rfl hl.1 rfl (Nat.le_of_ble_eq_true rfl) dX5_keep_20 ⟨Nat.le_of_ble_eq_true rfl, Nat.le_of_ble_eq_true rfl⟩) hP hD hS hA [1] [0, 2, 3] rfl rfl rfl (by decide) (fun  w H locs hw hP hD hS => ?_)
    obtain ⟨f_9, rfl⟩ := hw
    have hP : va_P V.1 vwCl [(y 26, .inr (5, [.ref (y 27), .ref (y 28), .ref (y 29), .int py26_3])), (y 29, aI V 10 fy29), (y 27, aI V 10 f_8), (y 28, aI V 10 f_9)] H := hP
    have hD : va_D A [(y 26, .inr (5, [.ref (y 27), .ref (y 28), .ref (y 29), .int py26_3])), (y 29, aI V 10 fy29), (y 27, aI V 10 f_8), (y 28, aI V 10 f_9)] := hD
    refine lv_aload_n hx hb dX5_keep_23 rfl (lv_at hl 0 rfl) ?_
    refine va_get (ci := 5) (v := .ref (y 29)) (C := RX5) (T := TX5) (N := 4) hx hb hg inX5 hown hK hP 0 rfl rfl 2 (by decide) (hg _ q_1_215) (fun _ h9 => h9) rfl dX5_keep_24 ?_
    refine jnV (wr := [(y 26, .inr (5, [.ref (y 27), .ref (y 28), .ref (y 29), .int py26_3])), (y 27, aI V 10 f_8), (y 28, aI V 10 f_9)]) (rnS (rest := []) ⟨hx, hb, hml, hown, hg⟩ (k_X5_forgetEldest_2 l V y fy29) mt_X5_forgetEldest q_3_181 ⟨Nat.le_of_ble_eq_true rfl, Nat.le_of_ble_eq_true rfl⟩ hK hP hD hS hA hE [1] rfl rfl rfl hl.1 rfl (Nat.le_of_ble_eq_true rfl) dX5_keep_27 ⟨Nat.le_of_ble_eq_true rfl, Nat.le_of_ble_eq_true rfl⟩) hP hD hS hA [1] [0, 2, 3] rfl rfl rfl (by decide) (fun  w H locs hw hP hD hS => ?_)
    obtain ⟨f_10, rfl⟩ := hw
    have hP : va_P V.1 vwCl [(y 26, .inr (5, [.ref (y 27), .ref (y 28), .ref (y 29), .int py26_3])), (y 27, aI V 10 f_8), (y 28, aI V 10 f_9), (y 29, aI V 10 f_10)] H := hP
    have hD : va_D A [(y 26, .inr (5, [.ref (y 27), .ref (y 28), .ref (y 29), .int py26_3])), (y 27, aI V 10 f_8), (y 28, aI V 10 f_9), (y 29, aI V 10 f_10)] := hD
    refine lv_aload_n hx hb dX5_keep_30 rfl (lv_at hl 0 rfl) ?_
    refine lv_dup hx hb dX5_keep_31 rfl ?_
    refine va_get (ci := 5) (v := .int py26_3) (C := RX5) (T := TX5) (N := 4) hx hb hg inX5 hown hK hP 0 rfl rfl 3 (by decide) (hg _ q_1_217) (fun _ h9 => h9) rfl dX5_keep_32 ?_
    refine lv_iconst (v := 1) hx hb dX5_keep_35 (by decide) ?_
    refine lv_isub hx hb dX5_keep_36 ?_
    refine lv_topi (fun x_11 ex_11 => ?_)
    have bx_11 : iv 9 9 x_11 := by rw [ex_11]; exact iv_sub b_7 (iv_c (1 : Int32) (a := 1) (b := 1) (by decide)) (by decide)
    refine va_put (ci := 5) (v := .int x_11) (ty := .int) (C := RX5) (T := TX5) (N := 4) hx hb hg inX5 tyX5 tyX5_ok nmX5 hown hK hP hD hS 0 rfl rfl 3 (by decide) (hg _ q_1_217) (fun _ h9 => h9) rfl (by decide +kernel) rfl rfl (Nat.le_of_ble_eq_true rfl) dX5_keep_37 (fun H locs hP hD hS => ?_)
    have hP : va_P V.1 vwCl [(y 26, .inr (5, [.ref (y 27), .ref (y 28), .ref (y 29), .int x_11])), (y 27, aI V 10 f_8), (y 28, aI V 10 f_9), (y 29, aI V 10 f_10)] H := hP
    have hD : va_D A [(y 26, .inr (5, [.ref (y 27), .ref (y 28), .ref (y 29), .int x_11])), (y 27, aI V 10 f_8), (y 28, aI V 10 f_9), (y 29, aI V 10 f_10)] := hD
    refine lv_aload_n hx hb dX5_keep_40 rfl (lv_at hl 0 rfl) ?_
    refine va_get (ci := 5) (v := .ref (y 27)) (C := RX5) (T := TX5) (N := 4) hx hb hg inX5 hown hK hP 0 rfl rfl 0 (by decide) (hg _ q_1_211) (fun _ h9 => h9) rfl dX5_keep_41 ?_
    refine lv_aload_n hx hb dX5_keep_44 rfl (lv_at hl 0 rfl) ?_
    refine va_get (ci := 5) (v := .int x_11) (C := RX5) (T := TX5) (N := 4) hx hb hg inX5 hown hK hP 0 rfl rfl 3 (by decide) (hg _ q_1_217) (fun _ h9 => h9) rfl dX5_keep_45 ?_
    refine lv_iload_n hx hb dX5_keep_48 rfl (lv_at hl 1 rfl) ?_
    refine va_iast hx hb hK hP hD hS 1 0 rfl rfl (iv_in bx_11 (by decide)) dX5_keep_49 (fun H locs hP hD hS => ?_)
    obtain ⟨f_12, hP, hD⟩ : ∃ f_12 : Nat → Int32, va_P V.1 vwCl [(y 26, .inr (5, [.ref (y 27), .ref (y 28), .ref (y 29), .int x_11])), (y 27, aI V 10 f_12), (y 28, aI V 10 f_9), (y 29, aI V 10 f_10)] H ∧ va_D A [(y 26, .inr (5, [.ref (y 27), .ref (y 28), .ref (y 29), .int x_11])), (y 27, aI V 10 f_12), (y 28, aI V 10 f_9), (y 29, aI V 10 f_10)] := ⟨_, hP, hD⟩
    refine lv_aload_n hx hb dX5_keep_50 rfl (lv_at hl 0 rfl) ?_
    refine va_get (ci := 5) (v := .ref (y 28)) (C := RX5) (T := TX5) (N := 4) hx hb hg inX5 hown hK hP 0 rfl rfl 1 (by decide) (hg _ q_1_213) (fun _ h9 => h9) rfl dX5_keep_51 ?_
    refine lv_aload_n hx hb dX5_keep_54 rfl (lv_at hl 0 rfl) ?_
    refine va_get (ci := 5) (v := .int x_11) (C := RX5) (T := TX5) (N := 4) hx hb hg inX5 hown hK hP 0 rfl rfl 3 (by decide) (hg _ q_1_217) (fun _ h9 => h9) rfl dX5_keep_55 ?_
    refine lv_iload_n hx hb dX5_keep_58 rfl (lv_at hl 2 rfl) ?_
    refine va_iast hx hb hK hP hD hS 2 0 rfl rfl (iv_in bx_11 (by decide)) dX5_keep_59 (fun H locs hP hD hS => ?_)
    obtain ⟨f_13, hP, hD⟩ : ∃ f_13 : Nat → Int32, va_P V.1 vwCl [(y 26, .inr (5, [.ref (y 27), .ref (y 28), .ref (y 29), .int x_11])), (y 27, aI V 10 f_12), (y 28, aI V 10 f_13), (y 29, aI V 10 f_10)] H ∧ va_D A [(y 26, .inr (5, [.ref (y 27), .ref (y 28), .ref (y 29), .int x_11])), (y 27, aI V 10 f_12), (y 28, aI V 10 f_13), (y 29, aI V 10 f_10)] := ⟨_, hP, hD⟩
    refine lv_aload_n hx hb dX5_keep_60 rfl (lv_at hl 0 rfl) ?_
    refine va_get (ci := 5) (v := .ref (y 29)) (C := RX5) (T := TX5) (N := 4) hx hb hg inX5 hown hK hP 0 rfl rfl 2 (by decide) (hg _ q_1_215) (fun _ h9 => h9) rfl dX5_keep_61 ?_
    refine lv_aload_n hx hb dX5_keep_64 rfl (lv_at hl 0 rfl) ?_
    refine va_get (ci := 5) (v := .int x_11) (C := RX5) (T := TX5) (N := 4) hx hb hg inX5 hown hK hP 0 rfl rfl 3 (by decide) (hg _ q_1_217) (fun _ h9 => h9) rfl dX5_keep_65 ?_
    refine lv_iload_n hx hb dX5_keep_68 rfl (lv_at hl 3 rfl) ?_
    refine va_iast hx hb hK hP hD hS 3 0 rfl rfl (iv_in bx_11 (by decide)) dX5_keep_69 (fun H locs hP hD hS => ?_)
    obtain ⟨f_14, hP, hD⟩ : ∃ f_14 : Nat → Int32, va_P V.1 vwCl [(y 26, .inr (5, [.ref (y 27), .ref (y 28), .ref (y 29), .int x_11])), (y 27, aI V 10 f_12), (y 28, aI V 10 f_13), (y 29, aI V 10 f_14)] H ∧ va_D A [(y 26, .inr (5, [.ref (y 27), .ref (y 28), .ref (y 29), .int x_11])), (y 27, aI V 10 f_12), (y 28, aI V 10 f_13), (y 29, aI V 10 f_14)] := ⟨_, hP, hD⟩
    refine lv_aload_n hx hb dX5_keep_70 rfl (lv_at hl 0 rfl) ?_
    refine lv_dup hx hb dX5_keep_71 rfl ?_
    refine va_get (ci := 5) (v := .int x_11) (C := RX5) (T := TX5) (N := 4) hx hb hg inX5 hown hK hP 0 rfl rfl 3 (by decide) (hg _ q_1_217) (fun _ h9 => h9) rfl dX5_keep_72 ?_
    refine lv_iconst (v := 1) hx hb dX5_keep_75 (by decide) ?_
    refine lv_iadd hx hb dX5_keep_76 ?_
    refine lv_topi (fun x_15 ex_15 => ?_)
    have bx_15 : iv 10 10 x_15 := by rw [ex_15]; exact iv_add bx_11 (iv_c (1 : Int32) (a := 1) (b := 1) (by decide)) (by decide)
    refine va_put (ci := 5) (v := .int x_15) (ty := .int) (C := RX5) (T := TX5) (N := 4) hx hb hg inX5 tyX5 tyX5_ok nmX5 hown hK hP hD hS 0 rfl rfl 3 (by decide) (hg _ q_1_217) (fun _ h9 => h9) rfl (by decide +kernel) rfl rfl (Nat.le_of_ble_eq_true rfl) dX5_keep_77 (fun H locs hP hD hS => ?_)
    have hP : va_P V.1 vwCl [(y 26, .inr (5, [.ref (y 27), .ref (y 28), .ref (y 29), .int x_15])), (y 27, aI V 10 f_12), (y 28, aI V 10 f_13), (y 29, aI V 10 f_14)] H := hP
    have hD : va_D A [(y 26, .inr (5, [.ref (y 27), .ref (y 28), .ref (y 29), .int x_15])), (y 27, aI V 10 f_12), (y 28, aI V 10 f_13), (y 29, aI V 10 f_14)] := hD
    exact fiV hx hb hr hlk hK hP hD hS dX5_keep_80 (Nat.le_of_ble_eq_true rfl) (Nat.le_of_ble_eq_true rfl) (⟨x_15, f_12, f_13, f_14, (iv_w bx_15 (by decide)), rfl⟩)
theorem dX9_whyNoStealing_0 : decode cX9_whyNoStealing 0 = .ok (.aload_n 0, 1) := by decide +kernel
theorem dX9_whyNoStealing_1 : decode cX9_whyNoStealing 1 = .ok (.iload_n 1, 1) := by decide +kernel
theorem dX9_whyNoStealing_2 : decode cX9_whyNoStealing 2 = .ok (.invokevirtual 128, 3) := by decide +kernel
theorem dX9_whyNoStealing_5 : decode cX9_whyNoStealing 5 = .ok (.ifCond .ne 5, 3) := by decide +kernel
theorem dX9_whyNoStealing_8 : decode cX9_whyNoStealing 8 = .ok (.iconst 1, 1) := by decide +kernel
theorem dX9_whyNoStealing_9 : decode cX9_whyNoStealing 9 = .ok (.ireturn, 1) := by decide +kernel
theorem dX9_whyNoStealing_10 : decode cX9_whyNoStealing 10 = .ok (.aload_n 0, 1) := by decide +kernel
theorem dX9_whyNoStealing_11 : decode cX9_whyNoStealing 11 = .ok (.getfield 113, 3) := by decide +kernel
theorem dX9_whyNoStealing_14 : decode cX9_whyNoStealing 14 = .ok (.iload_n 1, 1) := by decide +kernel
theorem dX9_whyNoStealing_15 : decode cX9_whyNoStealing 15 = .ok (.invokestatic 132, 3) := by decide +kernel
theorem dX9_whyNoStealing_18 : decode cX9_whyNoStealing 18 = .ok (.ifCond .ne 7, 3) := by decide +kernel
theorem dX9_whyNoStealing_25 : decode cX9_whyNoStealing 25 = .ok (.iconst 0, 1) := by decide +kernel
theorem dX9_whyNoStealing_26 : decode cX9_whyNoStealing 26 = .ok (.ireturn, 1) := by decide +kernel
theorem dX9_whyNoStealing_21 : decode cX9_whyNoStealing 21 = .ok (.iconst 2, 1) := by decide +kernel
theorem dX9_whyNoStealing_22 : decode cX9_whyNoStealing 22 = .ok (.goto 4, 3) := by decide +kernel
set_option maxHeartbeats 4000000 in
set_option maxRecDepth 100000 in
theorem k_X9_whyNoStealing_0 (l : Launch) (V : GV) (y : Nat → Nat) (a1 : Int32) (py0_1 : Int32) (o10 : Value) (o11 : Value) (py0_12 : Int32) (py0_13 : Int32) (py0_14 : Int32) (py2_0 : Int32) (py2_1 : Int32) (py2_2 : Int32) (py2_3 : Int32) (py2_4 : Int32) (py2_5 : Int32) (py2_13 : Int32) (py2_14 : Int32) (py2_15 : Int32) (py2_16 : Int32) (py2_17 : Int32) (bpy0_1 : iv 0 900 py0_1) (bpy2_1 : iv 0 4 py2_1) (bpy2_2 : iv 0 4 py2_2) (bpy2_3 : iv 0 8 py2_3) (bpy2_13 : iv 0 900 py2_13) (bpy2_14 : iv 0 900 py2_14) (bpy2_15 : iv 0 900 py2_15) (bpy2_16 : iv 0 900 py2_16) (bpy2_17 : iv 0 900 py2_17) : Ct l V yX9_whyNoStealing (.code yX9_whyNoStealing cX9_whyNoStealing 2 (some .int)) 2 [.ref (y 0), .int a1] [(y 0, .inr (9, [.ref (y 1), .int py0_1, .ref (y 2), .ref (y 10), .ref (y 19), .ref (y 25), .ref (y 26), .ref (y 30), .ref (y 31), .ref (y 32), o10, o11, .int py0_12, .int py0_13, .int py0_14])), (y 2, .inr (1, [.int py2_0, .int py2_1, .int py2_2, .int py2_3, .int py2_4, .int py2_5, .ref (y 3), .ref (y 4), .ref (y 5), .ref (y 6), .ref (y 7), .ref (y 8), .ref (y 9), .int py2_13, .int py2_14, .int py2_15, .int py2_16, .int py2_17]))] 0 0 (QI V (fun (r : Int32) (w : va_W) => ((a1 < 0) ∧ r = 1 ∧ w = [(y 0, .inr (9, [.ref (y 1), .int py0_1, .ref (y 2), .ref (y 10), .ref (y 19), .ref (y 25), .ref (y 26), .ref (y 30), .ref (y 31), .ref (y 32), o10, o11, .int py0_12, .int py0_13, .int py0_14])), (y 2, .inr (1, [.int py2_0, .int py2_1, .int py2_2, .int py2_3, .int py2_4, .int py2_5, .ref (y 3), .ref (y 4), .ref (y 5), .ref (y 6), .ref (y 7), .ref (y 8), .ref (y 9), .int py2_13, .int py2_14, .int py2_15, .int py2_16, .int py2_17]))]) ∨ ((¬ a1 < 0) ∧ (py2_1 ≤ a1) ∧ r = 1 ∧ w = [(y 0, .inr (9, [.ref (y 1), .int py0_1, .ref (y 2), .ref (y 10), .ref (y 19), .ref (y 25), .ref (y 26), .ref (y 30), .ref (y 31), .ref (y 32), o10, o11, .int py0_12, .int py0_13, .int py0_14])), (y 2, .inr (1, [.int py2_0, .int py2_1, .int py2_2, .int py2_3, .int py2_4, .int py2_5, .ref (y 3), .ref (y 4), .ref (y 5), .ref (y 6), .ref (y 7), .ref (y 8), .ref (y 9), .int py2_13, .int py2_14, .int py2_15, .int py2_16, .int py2_17]))]) ∨ ((¬ a1 < 0) ∧ (¬ py2_1 ≤ a1) ∧ r = 0 ∧ w = [(y 0, .inr (9, [.ref (y 1), .int py0_1, .ref (y 2), .ref (y 10), .ref (y 19), .ref (y 25), .ref (y 26), .ref (y 30), .ref (y 31), .ref (y 32), o10, o11, .int py0_12, .int py0_13, .int py0_14])), (y 2, .inr (1, [.int py2_0, .int py2_1, .int py2_2, .int py2_3, .int py2_4, .int py2_5, .ref (y 3), .ref (y 4), .ref (y 5), .ref (y 6), .ref (y 7), .ref (y 8), .ref (y 9), .int py2_13, .int py2_14, .int py2_15, .int py2_16, .int py2_17]))]) ∨ ((¬ a1 < 0) ∧ (¬ py2_1 ≤ a1) ∧ r = 2 ∧ w = [(y 0, .inr (9, [.ref (y 1), .int py0_1, .ref (y 2), .ref (y 10), .ref (y 19), .ref (y 25), .ref (y 26), .ref (y 30), .ref (y 31), .ref (y 32), o10, o11, .int py0_12, .int py0_13, .int py0_14])), (y 2, .inr (1, [.int py2_0, .int py2_1, .int py2_2, .int py2_3, .int py2_4, .int py2_5, .ref (y 3), .ref (y 4), .ref (y 5), .ref (y 6), .ref (y 7), .ref (y 8), .ref (y 9), .int py2_13, .int py2_14, .int py2_15, .int py2_16, .int py2_17]))]))) := by
  refine Ct.of (by decide) (Nat.le_of_ble_eq_true rfl) (fun p e s m below meth c A ls hx hb hr hml hown hlk hnm hg hP hK hD hE hA hS hl => ?_)
  have hl : lv_has ls 2 [(0, .ref (y 0)), (1, .int a1)] := hl
  refine lv_aload_n hx hb dX9_whyNoStealing_0 rfl (lv_at hl 0 rfl) ?_
  refine lv_iload_n hx hb dX9_whyNoStealing_1 rfl (lv_at hl 1 rfl) ?_
  refine jnI (wr := []) (rnV (rest := []) ⟨hx, hb, hml, hown, hg⟩ (k_X9_isHill_0 l V y a1 py0_1 o10 o11 py0_12 py0_13 py0_14 py2_0 py2_1 py2_2 py2_3 py2_4 py2_5 py2_13 py2_14 py2_15 py2_16 py2_17 bpy0_1 bpy2_1 bpy2_2 bpy2_3 bpy2_13 bpy2_14 bpy2_15 bpy2_16 bpy2_17) mt_X9_isHill q_3_122 ⟨Nat.le_of_ble_eq_true rfl, Nat.le_of_ble_eq_true rfl⟩ hK hP hD hS hA hE [0, 1] rfl rfl 0 rfl rfl rfl rfl hl.1 rfl (Nat.le_of_ble_eq_true rfl) dX9_whyNoStealing_2 ⟨Nat.le_of_ble_eq_true rfl, Nat.le_of_ble_eq_true rfl⟩) hP hD hS hA [0, 1] [] rfl rfl rfl (by decide) (fun r_1 w H locs hw hP hD hS => ?_)
  rcases hw with ⟨c_2, rfl, rfl⟩ | ⟨c_3, c_4, rfl, rfl⟩ | ⟨c_5, c_6, rfl, rfl⟩
  · have hP : va_P V.1 vwCl [(y 0, .inr (9, [.ref (y 1), .int py0_1, .ref (y 2), .ref (y 10), .ref (y 19), .ref (y 25), .ref (y 26), .ref (y 30), .ref (y 31), .ref (y 32), o10, o11, .int py0_12, .int py0_13, .int py0_14])), (y 2, .inr (1, [.int py2_0, .int py2_1, .int py2_2, .int py2_3, .int py2_4, .int py2_5, .ref (y 3), .ref (y 4), .ref (y 5), .ref (y 6), .ref (y 7), .ref (y 8), .ref (y 9), .int py2_13, .int py2_14, .int py2_15, .int py2_16, .int py2_17]))] H := hP
    have hD : va_D A [(y 0, .inr (9, [.ref (y 1), .int py0_1, .ref (y 2), .ref (y 10), .ref (y 19), .ref (y 25), .ref (y 26), .ref (y 30), .ref (y 31), .ref (y 32), o10, o11, .int py0_12, .int py0_13, .int py0_14])), (y 2, .inr (1, [.int py2_0, .int py2_1, .int py2_2, .int py2_3, .int py2_4, .int py2_5, .ref (y 3), .ref (y 4), .ref (y 5), .ref (y 6), .ref (y 7), .ref (y 8), .ref (y 9), .int py2_13, .int py2_14, .int py2_15, .int py2_16, .int py2_17]))] := hD
    have b_7 : iv (-2147483648) (-1) a1 := iv_l1 c_2 (iv_top a1) (iv_c (0 : Int32) (a := 0) (b := 0) (by decide)) (by decide)
    refine lv_if_ne (tgt := 10) hx hb dX9_whyNoStealing_5 (by decide) (fun c_9 => absurd c_9 (by decide)) (fun _ => ?_)
    refine lv_iconst (v := 1) hx hb dX9_whyNoStealing_8 (by decide) ?_
    exact fiI hx hb hr hlk hK hP hD hS dX9_whyNoStealing_9 (Nat.le_of_ble_eq_true rfl) (Nat.le_of_ble_eq_true rfl) (Or.inl ⟨c_2, rfl, rfl⟩)
  · have hP : va_P V.1 vwCl [(y 0, .inr (9, [.ref (y 1), .int py0_1, .ref (y 2), .ref (y 10), .ref (y 19), .ref (y 25), .ref (y 26), .ref (y 30), .ref (y 31), .ref (y 32), o10, o11, .int py0_12, .int py0_13, .int py0_14])), (y 2, .inr (1, [.int py2_0, .int py2_1, .int py2_2, .int py2_3, .int py2_4, .int py2_5, .ref (y 3), .ref (y 4), .ref (y 5), .ref (y 6), .ref (y 7), .ref (y 8), .ref (y 9), .int py2_13, .int py2_14, .int py2_15, .int py2_16, .int py2_17]))] H := hP
    have hD : va_D A [(y 0, .inr (9, [.ref (y 1), .int py0_1, .ref (y 2), .ref (y 10), .ref (y 19), .ref (y 25), .ref (y 26), .ref (y 30), .ref (y 31), .ref (y 32), o10, o11, .int py0_12, .int py0_13, .int py0_14])), (y 2, .inr (1, [.int py2_0, .int py2_1, .int py2_2, .int py2_3, .int py2_4, .int py2_5, .ref (y 3), .ref (y 4), .ref (y 5), .ref (y 6), .ref (y 7), .ref (y 8), .ref (y 9), .int py2_13, .int py2_14, .int py2_15, .int py2_16, .int py2_17]))] := hD
    have b_10 : iv 0 2147483647 a1 := iv_e2 (Int32.not_lt.mp c_3) (iv_c (0 : Int32) (a := 0) (b := 0) (by decide)) (iv_top a1) (by decide)
    refine lv_if_ne (tgt := 10) hx hb dX9_whyNoStealing_5 (by decide) (fun c_12 => absurd c_12 (by decide)) (fun _ => ?_)
    refine lv_iconst (v := 1) hx hb dX9_whyNoStealing_8 (by decide) ?_
    exact fiI hx hb hr hlk hK hP hD hS dX9_whyNoStealing_9 (Nat.le_of_ble_eq_true rfl) (Nat.le_of_ble_eq_true rfl) (Or.inr (Or.inl ⟨c_3, c_4, rfl, rfl⟩))
  · have hP : va_P V.1 vwCl [(y 0, .inr (9, [.ref (y 1), .int py0_1, .ref (y 2), .ref (y 10), .ref (y 19), .ref (y 25), .ref (y 26), .ref (y 30), .ref (y 31), .ref (y 32), o10, o11, .int py0_12, .int py0_13, .int py0_14])), (y 2, .inr (1, [.int py2_0, .int py2_1, .int py2_2, .int py2_3, .int py2_4, .int py2_5, .ref (y 3), .ref (y 4), .ref (y 5), .ref (y 6), .ref (y 7), .ref (y 8), .ref (y 9), .int py2_13, .int py2_14, .int py2_15, .int py2_16, .int py2_17]))] H := hP
    have hD : va_D A [(y 0, .inr (9, [.ref (y 1), .int py0_1, .ref (y 2), .ref (y 10), .ref (y 19), .ref (y 25), .ref (y 26), .ref (y 30), .ref (y 31), .ref (y 32), o10, o11, .int py0_12, .int py0_13, .int py0_14])), (y 2, .inr (1, [.int py2_0, .int py2_1, .int py2_2, .int py2_3, .int py2_4, .int py2_5, .ref (y 3), .ref (y 4), .ref (y 5), .ref (y 6), .ref (y 7), .ref (y 8), .ref (y 9), .int py2_13, .int py2_14, .int py2_15, .int py2_16, .int py2_17]))] := hD
    have b_13 : iv 0 2147483647 a1 := iv_e2 (Int32.not_lt.mp c_5) (iv_c (0 : Int32) (a := 0) (b := 0) (by decide)) (iv_top a1) (by decide)
    have b_14 : iv 0 3 a1 := iv_l1 (Int32.not_le.mp c_6) b_13 bpy2_1 (by decide)
    have b_15 : iv 1 4 py2_1 := iv_l2 (Int32.not_le.mp c_6) b_13 bpy2_1 (by decide)
    refine lv_if_ne (tgt := 10) hx hb dX9_whyNoStealing_5 (by decide) (fun _ => ?_) (fun c_17 => absurd c_17 (by decide))
    refine lv_aload_n hx hb dX9_whyNoStealing_10 rfl (lv_at hl 0 rfl) ?_
    refine va_get (ci := 9) (v := .int py0_12) (C := RX9) (T := TX9) (N := 15) hx hb hg inX9 hown hK hP 0 rfl rfl 12 (by decide) (hg _ q_2_48) (fun _ h9 => h9) rfl dX9_whyNoStealing_11 ?_
    refine lv_iload_n hx hb dX9_whyNoStealing_14 rfl (lv_at hl 1 rfl) ?_
    refine jnI (wr := [(y 0, .inr (9, [.ref (y 1), .int py0_1, .ref (y 2), .ref (y 10), .ref (y 19), .ref (y 25), .ref (y 26), .ref (y 30), .ref (y 31), .ref (y 32), o10, o11, .int py0_12, .int py0_13, .int py0_14])), (y 2, .inr (1, [.int py2_0, .int py2_1, .int py2_2, .int py2_3, .int py2_4, .int py2_5, .ref (y 3), .ref (y 4), .ref (y 5), .ref (y 6), .ref (y 7), .ref (y 8), .ref (y 9), .int py2_13, .int py2_14, .int py2_15, .int py2_16, .int py2_17]))]) (rnS (rest := []) ⟨hx, hb, hml, hown, hg⟩ (k_X9_stackIn_0 l V py0_12 a1 (iv_w b_14 (by decide))) mt_X9_stackIn q_3_126 ⟨Nat.le_of_ble_eq_true rfl, Nat.le_of_ble_eq_true rfl⟩ hK hP hD hS hA hE [] rfl rfl rfl hl.1 rfl (Nat.le_of_ble_eq_true rfl) dX9_whyNoStealing_15 ⟨Nat.le_of_ble_eq_true rfl, Nat.le_of_ble_eq_true rfl⟩) hP hD hS hA [] [0, 1] rfl rfl rfl (by decide) (fun r_18 w H locs hw hP hD hS => ?_)
    subst hw
    have hP : va_P V.1 vwCl [(y 0, .inr (9, [.ref (y 1), .int py0_1, .ref (y 2), .ref (y 10), .ref (y 19), .ref (y 25), .ref (y 26), .ref (y 30), .ref (y 31), .ref (y 32), o10, o11, .int py0_12, .int py0_13, .int py0_14])), (y 2, .inr (1, [.int py2_0, .int py2_1, .int py2_2, .int py2_3, .int py2_4, .int py2_5, .ref (y 3), .ref (y 4), .ref (y 5), .ref (y 6), .ref (y 7), .ref (y 8), .ref (y 9), .int py2_13, .int py2_14, .int py2_15, .int py2_16, .int py2_17]))] H := hP
    have hD : va_D A [(y 0, .inr (9, [.ref (y 1), .int py0_1, .ref (y 2), .ref (y 10), .ref (y 19), .ref (y 25), .ref (y 26), .ref (y 30), .ref (y 31), .ref (y 32), o10, o11, .int py0_12, .int py0_13, .int py0_14])), (y 2, .inr (1, [.int py2_0, .int py2_1, .int py2_2, .int py2_3, .int py2_4, .int py2_5, .ref (y 3), .ref (y 4), .ref (y 5), .ref (y 6), .ref (y 7), .ref (y 8), .ref (y 9), .int py2_13, .int py2_14, .int py2_15, .int py2_16, .int py2_17]))] := hD
    refine lv_if_ne (tgt := 25) hx hb dX9_whyNoStealing_18 (by decide) (fun c_19 => ?_) (fun c_19 => ?_)
    · refine lv_iconst (v := 0) hx hb dX9_whyNoStealing_25 (by decide) ?_
      exact fiI hx hb hr hlk hK hP hD hS dX9_whyNoStealing_26 (Nat.le_of_ble_eq_true rfl) (Nat.le_of_ble_eq_true rfl) (Or.inr (Or.inr (Or.inl ⟨c_5, c_6, rfl, rfl⟩)))
    · have b_20 : iv 0 0 r_18 := iv_q c_19 (iv_c (0 : Int32) (a := 0) (b := 0) (by decide))
      refine lv_iconst (v := 2) hx hb dX9_whyNoStealing_21 (by decide) ?_
      refine lv_goto (tgt := 26) hx hb dX9_whyNoStealing_22 (by decide) ?_
      exact fiI hx hb hr hlk hK hP hD hS dX9_whyNoStealing_26 (Nat.le_of_ble_eq_true rfl) (Nat.le_of_ble_eq_true rfl) (Or.inr (Or.inr (Or.inr (⟨c_5, c_6, rfl, rfl⟩))))
theorem dX9_takeByHand_0 : decode cX9_takeByHand 0 = .ok (.aload_n 0, 1) := by decide +kernel
theorem dX9_takeByHand_1 : decode cX9_takeByHand 1 = .ok (.getfield 113, 3) := by decide +kernel
theorem dX9_takeByHand_4 : decode cX9_takeByHand 4 = .ok (.iload_n 1, 1) := by decide +kernel
theorem dX9_takeByHand_5 : decode cX9_takeByHand 5 = .ok (.invokestatic 132, 3) := by decide +kernel
theorem dX9_takeByHand_8 : decode cX9_takeByHand 8 = .ok (.iconst 2, 1) := by decide +kernel
theorem dX9_takeByHand_9 : decode cX9_takeByHand 9 = .ok (.imul, 1) := by decide +kernel
theorem dX9_takeByHand_10 : decode cX9_takeByHand 10 = .ok (.aload_n 0, 1) := by decide +kernel
theorem dX9_takeByHand_11 : decode cX9_takeByHand 11 = .ok (.getfield 113, 3) := by decide +kernel
theorem dX9_takeByHand_14 : decode cX9_takeByHand 14 = .ok (.iload_n 1, 1) := by decide +kernel
theorem dX9_takeByHand_15 : decode cX9_takeByHand 15 = .ok (.invokestatic 139, 3) := by decide +kernel
theorem dX9_takeByHand_18 : decode cX9_takeByHand 18 = .ok (.iadd, 1) := by decide +kernel
theorem dX9_takeByHand_19 : decode cX9_takeByHand 19 = .ok (.istore_n 2, 1) := by decide +kernel
theorem dX9_takeByHand_20 : decode cX9_takeByHand 20 = .ok (.aload_n 0, 1) := by decide +kernel
theorem dX9_takeByHand_21 : decode cX9_takeByHand 21 = .ok (.getfield 113, 3) := by decide +kernel
theorem dX9_takeByHand_24 : decode cX9_takeByHand 24 = .ok (.iload_n 1, 1) := by decide +kernel
theorem dX9_takeByHand_25 : decode cX9_takeByHand 25 = .ok (.invokestatic 132, 3) := by decide +kernel
theorem dX9_takeByHand_28 : decode cX9_takeByHand 28 = .ok (.iconst 1, 1) := by decide +kernel
theorem dX9_takeByHand_29 : decode cX9_takeByHand 29 = .ok (.isub, 1) := by decide +kernel
theorem dX9_takeByHand_30 : decode cX9_takeByHand 30 = .ok (.iconst 2, 1) := by decide +kernel
theorem dX9_takeByHand_31 : decode cX9_takeByHand 31 = .ok (.imul, 1) := by decide +kernel
theorem dX9_takeByHand_32 : decode cX9_takeByHand 32 = .ok (.iconst 1, 1) := by decide +kernel
theorem dX9_takeByHand_33 : decode cX9_takeByHand 33 = .ok (.iadd, 1) := by decide +kernel
theorem dX9_takeByHand_34 : decode cX9_takeByHand 34 = .ok (.istore_n 3, 1) := by decide +kernel
theorem dX9_takeByHand_35 : decode cX9_takeByHand 35 = .ok (.aload_n 0, 1) := by decide +kernel
theorem dX9_takeByHand_36 : decode cX9_takeByHand 36 = .ok (.dup, 1) := by decide +kernel
theorem dX9_takeByHand_37 : decode cX9_takeByHand 37 = .ok (.getfield 113, 3) := by decide +kernel
theorem dX9_takeByHand_40 : decode cX9_takeByHand 40 = .ok (.iload_n 3, 1) := by decide +kernel
theorem dX9_takeByHand_41 : decode cX9_takeByHand 41 = .ok (.iload_n 2, 1) := by decide +kernel
theorem dX9_takeByHand_42 : decode cX9_takeByHand 42 = .ok (.isub, 1) := by decide +kernel
theorem dX9_takeByHand_43 : decode cX9_takeByHand 43 = .ok (.getstatic 162, 3) := by decide +kernel
theorem dX9_takeByHand_46 : decode cX9_takeByHand 46 = .ok (.iload_n 1, 1) := by decide +kernel
theorem dX9_takeByHand_47 : decode cX9_takeByHand 47 = .ok (.iaload, 1) := by decide +kernel
theorem dX9_takeByHand_48 : decode cX9_takeByHand 48 = .ok (.imul, 1) := by decide +kernel
theorem dX9_takeByHand_49 : decode cX9_takeByHand 49 = .ok (.iadd, 1) := by decide +kernel
theorem dX9_takeByHand_50 : decode cX9_takeByHand 50 = .ok (.putfield 113, 3) := by decide +kernel
theorem dX9_takeByHand_53 : decode cX9_takeByHand 53 = .ok (.return_, 1) := by decide +kernel
set_option maxHeartbeats 4000000 in
set_option maxRecDepth 100000 in
theorem k_X9_takeByHand_0 (l : Launch) (V : GV) (y : Nat → Nat) (a1 : Int32) (py0_1 : Int32) (o10 : Value) (o11 : Value) (py0_12 : Int32) (py0_13 : Int32) (py0_14 : Int32) (ba1 : iv 0 3 a1) (bpy0_1 : iv 0 900 py0_1) : Ct l V yX9_takeByHand (.code yX9_takeByHand cX9_takeByHand 4 none) 2 [.ref (y 0), .int a1] [(y 0, .inr (9, [.ref (y 1), .int py0_1, .ref (y 2), .ref (y 10), .ref (y 19), .ref (y 25), .ref (y 26), .ref (y 30), .ref (y 31), .ref (y 32), o10, o11, .int py0_12, .int py0_13, .int py0_14]))] 0 0 (QV V (fun (w : va_W) => ∃ (v0 : Int32), w = [(y 0, .inr (9, [.ref (y 1), .int py0_1, .ref (y 2), .ref (y 10), .ref (y 19), .ref (y 25), .ref (y 26), .ref (y 30), .ref (y 31), .ref (y 32), o10, o11, .int v0, .int py0_13, .int py0_14]))])) := by
  refine Ct.of (by decide) (Nat.le_of_ble_eq_true rfl) (fun p e s m below meth c A ls hx hb hr hml hown hlk hnm hg hP hK hD hE hA hS hl => ?_)
  have hl : lv_has ls 4 [(0, .ref (y 0)), (1, .int a1)] := hl
  refine lv_aload_n hx hb dX9_takeByHand_0 rfl (lv_at hl 0 rfl) ?_
  refine va_get (ci := 9) (v := .int py0_12) (C := RX9) (T := TX9) (N := 15) hx hb hg inX9 hown hK hP 0 rfl rfl 12 (by decide) (hg _ q_2_48) (fun _ h9 => h9) rfl dX9_takeByHand_1 ?_
  refine lv_iload_n hx hb dX9_takeByHand_4 rfl (lv_at hl 1 rfl) ?_
  refine jnI (wr := [(y 0, .inr (9, [.ref (y 1), .int py0_1, .ref (y 2), .ref (y 10), .ref (y 19), .ref (y 25), .ref (y 26), .ref (y 30), .ref (y 31), .ref (y 32), o10, o11, .int py0_12, .int py0_13, .int py0_14]))]) (rnS (rest := []) ⟨hx, hb, hml, hown, hg⟩ (k_X9_stackIn_0 l V py0_12 a1 (iv_w ba1 (by decide))) mt_X9_stackIn q_3_126 ⟨Nat.le_of_ble_eq_true rfl, Nat.le_of_ble_eq_true rfl⟩ hK hP hD hS hA hE [] rfl rfl rfl hl.1 rfl (Nat.le_of_ble_eq_true rfl) dX9_takeByHand_5 ⟨Nat.le_of_ble_eq_true rfl, Nat.le_of_ble_eq_true rfl⟩) hP hD hS hA [] [0] rfl rfl rfl (by decide) (fun r_1 w H locs hw hP hD hS => ?_)
  subst hw
  have hP : va_P V.1 vwCl [(y 0, .inr (9, [.ref (y 1), .int py0_1, .ref (y 2), .ref (y 10), .ref (y 19), .ref (y 25), .ref (y 26), .ref (y 30), .ref (y 31), .ref (y 32), o10, o11, .int py0_12, .int py0_13, .int py0_14]))] H := hP
  have hD : va_D A [(y 0, .inr (9, [.ref (y 1), .int py0_1, .ref (y 2), .ref (y 10), .ref (y 19), .ref (y 25), .ref (y 26), .ref (y 30), .ref (y 31), .ref (y 32), o10, o11, .int py0_12, .int py0_13, .int py0_14]))] := hD
  refine lv_iconst (v := 2) hx hb dX9_takeByHand_8 (by decide) ?_
  refine lv_imul hx hb dX9_takeByHand_9 ?_
  refine lv_topi (fun x_2 ex_2 => ?_)
  refine lv_aload_n hx hb dX9_takeByHand_10 rfl (lv_at hl 0 rfl) ?_
  refine va_get (ci := 9) (v := .int py0_12) (C := RX9) (T := TX9) (N := 15) hx hb hg inX9 hown hK hP 0 rfl rfl 12 (by decide) (hg _ q_2_48) (fun _ h9 => h9) rfl dX9_takeByHand_11 ?_
  refine lv_iload_n hx hb dX9_takeByHand_14 rfl (lv_at hl 1 rfl) ?_
  refine jnI (wr := [(y 0, .inr (9, [.ref (y 1), .int py0_1, .ref (y 2), .ref (y 10), .ref (y 19), .ref (y 25), .ref (y 26), .ref (y 30), .ref (y 31), .ref (y 32), o10, o11, .int py0_12, .int py0_13, .int py0_14]))]) (rnS (rest := [.int x_2]) ⟨hx, hb, hml, hown, hg⟩ (k_X9_tookIn_0 l V py0_12 a1 (iv_w ba1 (by decide))) mt_X9_tookIn q_3_130 ⟨Nat.le_of_ble_eq_true rfl, Nat.le_of_ble_eq_true rfl⟩ hK hP hD hS hA hE [] rfl rfl rfl hl.1 rfl (Nat.le_of_ble_eq_true rfl) dX9_takeByHand_15 ⟨Nat.le_of_ble_eq_true rfl, Nat.le_of_ble_eq_true rfl⟩) hP hD hS hA [] [0] rfl rfl rfl (by decide) (fun r_3 w H locs hw hP hD hS => ?_)
  subst hw
  have hP : va_P V.1 vwCl [(y 0, .inr (9, [.ref (y 1), .int py0_1, .ref (y 2), .ref (y 10), .ref (y 19), .ref (y 25), .ref (y 26), .ref (y 30), .ref (y 31), .ref (y 32), o10, o11, .int py0_12, .int py0_13, .int py0_14]))] H := hP
  have hD : va_D A [(y 0, .inr (9, [.ref (y 1), .int py0_1, .ref (y 2), .ref (y 10), .ref (y 19), .ref (y 25), .ref (y 26), .ref (y 30), .ref (y 31), .ref (y 32), o10, o11, .int py0_12, .int py0_13, .int py0_14]))] := hD
  refine lv_iadd hx hb dX9_takeByHand_18 ?_
  refine lv_topi (fun x_4 ex_4 => ?_)
  refine lv_istore_n (lv' := [(2, .int x_4), (0, .ref (y 0)), (1, .int a1)]) hx hb dX9_takeByHand_19 rfl hl (by decide) rfl (fun ls hl => ?_)
  refine lv_aload_n hx hb dX9_takeByHand_20 rfl (lv_at hl 1 rfl) ?_
  refine va_get (ci := 9) (v := .int py0_12) (C := RX9) (T := TX9) (N := 15) hx hb hg inX9 hown hK hP 0 rfl rfl 12 (by decide) (hg _ q_2_48) (fun _ h9 => h9) rfl dX9_takeByHand_21 ?_
  refine lv_iload_n hx hb dX9_takeByHand_24 rfl (lv_at hl 2 rfl) ?_
  refine jnI (wr := [(y 0, .inr (9, [.ref (y 1), .int py0_1, .ref (y 2), .ref (y 10), .ref (y 19), .ref (y 25), .ref (y 26), .ref (y 30), .ref (y 31), .ref (y 32), o10, o11, .int py0_12, .int py0_13, .int py0_14]))]) (rnS (rest := []) ⟨hx, hb, hml, hown, hg⟩ (k_X9_stackIn_0 l V py0_12 a1 (iv_w ba1 (by decide))) mt_X9_stackIn q_3_126 ⟨Nat.le_of_ble_eq_true rfl, Nat.le_of_ble_eq_true rfl⟩ hK hP hD hS hA hE [] rfl rfl rfl hl.1 rfl (Nat.le_of_ble_eq_true rfl) dX9_takeByHand_25 ⟨Nat.le_of_ble_eq_true rfl, Nat.le_of_ble_eq_true rfl⟩) hP hD hS hA [] [0] rfl rfl rfl (by decide) (fun r_5 w H locs hw hP hD hS => ?_)
  subst hw
  have hP : va_P V.1 vwCl [(y 0, .inr (9, [.ref (y 1), .int py0_1, .ref (y 2), .ref (y 10), .ref (y 19), .ref (y 25), .ref (y 26), .ref (y 30), .ref (y 31), .ref (y 32), o10, o11, .int py0_12, .int py0_13, .int py0_14]))] H := hP
  have hD : va_D A [(y 0, .inr (9, [.ref (y 1), .int py0_1, .ref (y 2), .ref (y 10), .ref (y 19), .ref (y 25), .ref (y 26), .ref (y 30), .ref (y 31), .ref (y 32), o10, o11, .int py0_12, .int py0_13, .int py0_14]))] := hD
  refine lv_iconst (v := 1) hx hb dX9_takeByHand_28 (by decide) ?_
  refine lv_isub hx hb dX9_takeByHand_29 ?_
  refine lv_topi (fun x_6 ex_6 => ?_)
  refine lv_iconst (v := 2) hx hb dX9_takeByHand_30 (by decide) ?_
  refine lv_imul hx hb dX9_takeByHand_31 ?_
  refine lv_topi (fun x_7 ex_7 => ?_)
  refine lv_iconst (v := 1) hx hb dX9_takeByHand_32 (by decide) ?_
  refine lv_iadd hx hb dX9_takeByHand_33 ?_
  refine lv_topi (fun x_8 ex_8 => ?_)
  refine lv_istore_n (lv' := [(3, .int x_8), (2, .int x_4), (0, .ref (y 0)), (1, .int a1)]) hx hb dX9_takeByHand_34 rfl hl (by decide) rfl (fun ls hl => ?_)
  refine lv_aload_n hx hb dX9_takeByHand_35 rfl (lv_at hl 2 rfl) ?_
  refine lv_dup hx hb dX9_takeByHand_36 rfl ?_
  refine va_get (ci := 9) (v := .int py0_12) (C := RX9) (T := TX9) (N := 15) hx hb hg inX9 hown hK hP 0 rfl rfl 12 (by decide) (hg _ q_2_48) (fun _ h9 => h9) rfl dX9_takeByHand_37 ?_
  refine lv_iload_n hx hb dX9_takeByHand_40 rfl (lv_at hl 0 rfl) ?_
  refine lv_iload_n hx hb dX9_takeByHand_41 rfl (lv_at hl 1 rfl) ?_
  refine lv_isub hx hb dX9_takeByHand_42 ?_
  refine lv_topi (fun x_9 ex_9 => ?_)
  refine va_gets hx hb hE.1.1 hS hown (hg _ q_3_129) (fun _ h9 => h9) dX9_takeByHand_43 ?_
  refine lv_iload_n hx hb dX9_takeByHand_46 rfl (lv_at hl 3 rfl) ?_
  refine va_ti (v := .int (pw a1.toNatClampNeg)) hx hb hE.1.2 hS (iv_in ba1 (by decide)) rfl dX9_takeByHand_47 ?_
  refine lv_topi (fun x_10 ex_10 => ?_)
  have bx_10 : iv 1 10000 x_10 := by rw [ex_10]; exact pw_iv ba1 (by decide)
  refine lv_imul hx hb dX9_takeByHand_48 ?_
  refine lv_topi (fun x_11 ex_11 => ?_)
  refine lv_iadd hx hb dX9_takeByHand_49 ?_
  refine lv_topi (fun x_12 ex_12 => ?_)
  refine va_put (ci := 9) (v := .int x_12) (ty := .int) (C := RX9) (T := TX9) (N := 15) hx hb hg inX9 tyX9 tyX9_ok nmX9 hown hK hP hD hS 0 rfl rfl 12 (by decide) (hg _ q_2_48) (fun _ h9 => h9) rfl (by decide +kernel) rfl rfl (Nat.le_of_ble_eq_true rfl) dX9_takeByHand_50 (fun H locs hP hD hS => ?_)
  have hP : va_P V.1 vwCl [(y 0, .inr (9, [.ref (y 1), .int py0_1, .ref (y 2), .ref (y 10), .ref (y 19), .ref (y 25), .ref (y 26), .ref (y 30), .ref (y 31), .ref (y 32), o10, o11, .int x_12, .int py0_13, .int py0_14]))] H := hP
  have hD : va_D A [(y 0, .inr (9, [.ref (y 1), .int py0_1, .ref (y 2), .ref (y 10), .ref (y 19), .ref (y 25), .ref (y 26), .ref (y 30), .ref (y 31), .ref (y 32), o10, o11, .int x_12, .int py0_13, .int py0_14]))] := hD
  exact fiV hx hb hr hlk hK hP hD hS dX9_takeByHand_53 (Nat.le_of_ble_eq_true rfl) (Nat.le_of_ble_eq_true rfl) (⟨x_12, rfl⟩)
theorem dX9_tryDeed_0 : decode cX9_tryDeed 0 = .ok (.lload_n 1, 1) := by decide +kernel
theorem q_3_189 : Cond.constantLong "BeaconDelay" 192 (10 : Int64) ∈ gw := gw_3 (i := 189) (by decide +kernel) rfl
theorem dX9_tryDeed_1 : decode cX9_tryDeed 1 = .ok (.ldc2_w 192, 3) := by decide +kernel
theorem dX9_tryDeed_4 : decode cX9_tryDeed 4 = .ok (.lcmp, 1) := by decide +kernel
theorem dX9_tryDeed_5 : decode cX9_tryDeed 5 = .ok (.ifCond .lt 36, 3) := by decide +kernel
theorem dX9_tryDeed_41 : decode cX9_tryDeed 41 = .ok (.lload_n 1, 1) := by decide +kernel
theorem q_3_199 : Cond.constantLong "BeaconDelay" 196 (20 : Int64) ∈ gw := gw_3 (i := 199) (by decide +kernel) rfl
theorem dX9_tryDeed_42 : decode cX9_tryDeed 42 = .ok (.ldc2_w 196, 3) := by decide +kernel
theorem dX9_tryDeed_45 : decode cX9_tryDeed 45 = .ok (.lcmp, 1) := by decide +kernel
theorem dX9_tryDeed_46 : decode cX9_tryDeed 46 = .ok (.ifCond .lt 22, 3) := by decide +kernel
theorem dX9_tryDeed_68 : decode cX9_tryDeed 68 = .ok (.aload_n 0, 1) := by decide +kernel
theorem dX9_tryDeed_69 : decode cX9_tryDeed 69 = .ok (.lload_n 1, 1) := by decide +kernel
theorem dX9_tryDeed_70 : decode cX9_tryDeed 70 = .ok (.invokevirtual 151, 3) := by decide +kernel
theorem dX9_tryDeed_73 : decode cX9_tryDeed 73 = .ok (.ifCond .ne 5, 3) := by decide +kernel
theorem dX9_tryDeed_78 : decode cX9_tryDeed 78 = .ok (.aload_n 0, 1) := by decide +kernel
theorem dX9_tryDeed_79 : decode cX9_tryDeed 79 = .ok (.aload_n 0, 1) := by decide +kernel
theorem dX9_tryDeed_80 : decode cX9_tryDeed 80 = .ok (.getfield 34, 3) := by decide +kernel
theorem dX9_tryDeed_83 : decode cX9_tryDeed 83 = .ok (.aload_n 0, 1) := by decide +kernel
theorem dX9_tryDeed_84 : decode cX9_tryDeed 84 = .ok (.getfield 113, 3) := by decide +kernel
theorem dX9_tryDeed_87 : decode cX9_tryDeed 87 = .ok (.aload_n 0, 1) := by decide +kernel
theorem dX9_tryDeed_88 : decode cX9_tryDeed 88 = .ok (.getfield 116, 3) := by decide +kernel
theorem dX9_tryDeed_91 : decode cX9_tryDeed 91 = .ok (.lload_n 1, 1) := by decide +kernel
theorem dX9_tryDeed_92 : decode cX9_tryDeed 92 = .ok (.l2i, 1) := by decide +kernel
theorem dX9_tryDeed_93 : decode cX9_tryDeed 93 = .ok (.invokevirtual 155, 3) := by decide +kernel
theorem dX9_tryDeed_96 : decode cX9_tryDeed 96 = .ok (.putfield 113, 3) := by decide +kernel
theorem dX9_tryDeed_99 : decode cX9_tryDeed 99 = .ok (.aload_n 0, 1) := by decide +kernel
theorem dX9_tryDeed_100 : decode cX9_tryDeed 100 = .ok (.dup, 1) := by decide +kernel
theorem dX9_tryDeed_101 : decode cX9_tryDeed 101 = .ok (.getfield 119, 3) := by decide +kernel
theorem dX9_tryDeed_104 : decode cX9_tryDeed 104 = .ok (.iconst 1, 1) := by decide +kernel
theorem dX9_tryDeed_105 : decode cX9_tryDeed 105 = .ok (.iadd, 1) := by decide +kernel
theorem dX9_tryDeed_106 : decode cX9_tryDeed 106 = .ok (.putfield 119, 3) := by decide +kernel
theorem dX9_tryDeed_109 : decode cX9_tryDeed 109 = .ok (.iconst 0, 1) := by decide +kernel
theorem dX9_tryDeed_110 : decode cX9_tryDeed 110 = .ok (.ireturn, 1) := by decide +kernel
theorem dX9_tryDeed_76 : decode cX9_tryDeed 76 = .ok (.iconst 1, 1) := by decide +kernel
theorem dX9_tryDeed_77 : decode cX9_tryDeed 77 = .ok (.ireturn, 1) := by decide +kernel
theorem dX9_tryDeed_49 : decode cX9_tryDeed 49 = .ok (.lload_n 1, 1) := by decide +kernel
theorem q_3_200 : Cond.constantLong "BeaconDelay" 198 (29 : Int64) ∈ gw := gw_3 (i := 200) (by decide +kernel) rfl
theorem dX9_tryDeed_50 : decode cX9_tryDeed 50 = .ok (.ldc2_w 198, 3) := by decide +kernel
theorem dX9_tryDeed_53 : decode cX9_tryDeed 53 = .ok (.lcmp, 1) := by decide +kernel
theorem dX9_tryDeed_54 : decode cX9_tryDeed 54 = .ok (.ifCond .gt 14, 3) := by decide +kernel
theorem dX9_tryDeed_57 : decode cX9_tryDeed 57 = .ok (.aload_n 0, 1) := by decide +kernel
theorem dX9_tryDeed_58 : decode cX9_tryDeed 58 = .ok (.lload_n 1, 1) := by decide +kernel
theorem dX9_tryDeed_59 : decode cX9_tryDeed 59 = .ok (.l2i, 1) := by decide +kernel
theorem dX9_tryDeed_60 : decode cX9_tryDeed 60 = .ok (.bipush 20, 2) := by decide +kernel
theorem dX9_tryDeed_62 : decode cX9_tryDeed 62 = .ok (.isub, 1) := by decide +kernel
theorem dX9_tryDeed_63 : decode cX9_tryDeed 63 = .ok (.putfield 116, 3) := by decide +kernel
theorem dX9_tryDeed_66 : decode cX9_tryDeed 66 = .ok (.iconst 0, 1) := by decide +kernel
theorem dX9_tryDeed_67 : decode cX9_tryDeed 67 = .ok (.ireturn, 1) := by decide +kernel
theorem dX9_tryDeed_8 : decode cX9_tryDeed 8 = .ok (.lload_n 1, 1) := by decide +kernel
theorem q_3_190 : Cond.constantLong "BeaconDelay" 194 (19 : Int64) ∈ gw := gw_3 (i := 190) (by decide +kernel) rfl
theorem dX9_tryDeed_9 : decode cX9_tryDeed 9 = .ok (.ldc2_w 194, 3) := by decide +kernel
theorem dX9_tryDeed_12 : decode cX9_tryDeed 12 = .ok (.lcmp, 1) := by decide +kernel
theorem dX9_tryDeed_13 : decode cX9_tryDeed 13 = .ok (.ifCond .gt 28, 3) := by decide +kernel
theorem dX9_tryDeed_16 : decode cX9_tryDeed 16 = .ok (.aload_n 0, 1) := by decide +kernel
theorem dX9_tryDeed_17 : decode cX9_tryDeed 17 = .ok (.lload_n 1, 1) := by decide +kernel
theorem dX9_tryDeed_18 : decode cX9_tryDeed 18 = .ok (.l2i, 1) := by decide +kernel
theorem dX9_tryDeed_19 : decode cX9_tryDeed 19 = .ok (.bipush 10, 2) := by decide +kernel
theorem dX9_tryDeed_21 : decode cX9_tryDeed 21 = .ok (.isub, 1) := by decide +kernel
theorem q_3_194 : Cond.code yX9_whyNoStealing prog_1_method_24_code 2 (some FieldType.int) ∈ gw := gw_3 (i := 194) (rfl) rfl
theorem q_3_193 : Cond.instanceMethod yX9_whyNoStealing ∈ gw := gw_3 (i := 193) (by decide +kernel) rfl
theorem q_s_28 : Cond.selects "BeaconDelay" yX9_whyNoStealing yX9_whyNoStealing ∈ gw := gw_s (i := 28) (by decide +kernel) rfl
theorem mt_X9_whyNoStealing : MtV yX9_whyNoStealing cX9_whyNoStealing 2 (some .int) 1 := ⟨⟨q_3_194, q_1_1, by decide +kernel, by decide +kernel, by decide +kernel⟩, q_3_193, q_s_28⟩
theorem q_3_191 : Cond.methodLink "BeaconDelay" 177 yX9_whyNoStealing ∈ gw := gw_3 (i := 191) (by decide +kernel) rfl
theorem dX9_tryDeed_22 : decode cX9_tryDeed 22 = .ok (.invokevirtual 177, 3) := by decide +kernel
theorem dX9_tryDeed_25 : decode cX9_tryDeed 25 = .ok (.istore_n 3, 1) := by decide +kernel
theorem dX9_tryDeed_26 : decode cX9_tryDeed 26 = .ok (.iload_n 3, 1) := by decide +kernel
theorem dX9_tryDeed_27 : decode cX9_tryDeed 27 = .ok (.ifCond .ne 12, 3) := by decide +kernel
theorem dX9_tryDeed_39 : decode cX9_tryDeed 39 = .ok (.iload_n 3, 1) := by decide +kernel
theorem dX9_tryDeed_40 : decode cX9_tryDeed 40 = .ok (.ireturn, 1) := by decide +kernel
theorem dX9_tryDeed_30 : decode cX9_tryDeed 30 = .ok (.aload_n 0, 1) := by decide +kernel
theorem dX9_tryDeed_31 : decode cX9_tryDeed 31 = .ok (.lload_n 1, 1) := by decide +kernel
theorem dX9_tryDeed_32 : decode cX9_tryDeed 32 = .ok (.l2i, 1) := by decide +kernel
theorem dX9_tryDeed_33 : decode cX9_tryDeed 33 = .ok (.bipush 10, 2) := by decide +kernel
theorem dX9_tryDeed_35 : decode cX9_tryDeed 35 = .ok (.isub, 1) := by decide +kernel
theorem q_3_198 : Cond.code yX9_takeByHand prog_1_method_25_code 4 none ∈ gw := gw_3 (i := 198) (rfl) rfl
theorem q_3_197 : Cond.instanceMethod yX9_takeByHand ∈ gw := gw_3 (i := 197) (by decide +kernel) rfl
theorem q_s_29 : Cond.selects "BeaconDelay" yX9_takeByHand yX9_takeByHand ∈ gw := gw_s (i := 29) (by decide +kernel) rfl
theorem mt_X9_takeByHand : MtV yX9_takeByHand cX9_takeByHand 4 none 1 := ⟨⟨q_3_198, q_1_1, by decide +kernel, by decide +kernel, by decide +kernel⟩, q_3_197, q_s_29⟩
theorem q_3_195 : Cond.methodLink "BeaconDelay" 180 yX9_takeByHand ∈ gw := gw_3 (i := 195) (by decide +kernel) rfl
theorem dX9_tryDeed_36 : decode cX9_tryDeed 36 = .ok (.invokevirtual 180, 3) := by decide +kernel
set_option maxHeartbeats 4000000 in
set_option maxRecDepth 100000 in
theorem k_X9_tryDeed_0 (l : Launch) (V : GV) (y : Nat → Nat) (k1 : Int64) (fy3 : Nat → Int32) (fy9 : Nat → Int32) (fy20 : Nat → Int32) (fy21 : Nat → Int32) (fy22 : Nat → Int32) (py0_1 : Int32) (o10 : Value) (o11 : Value) (py0_12 : Int32) (py0_13 : Int32) (py0_14 : Int32) (py2_0 : Int32) (py2_1 : Int32) (py2_2 : Int32) (py2_3 : Int32) (py2_4 : Int32) (py2_5 : Int32) (py2_13 : Int32) (py2_14 : Int32) (py2_15 : Int32) (py2_16 : Int32) (py2_17 : Int32) (bpy0_1 : iv 0 900 py0_1) (bpy2_1 : iv 0 4 py2_1) (bpy2_2 : iv 0 4 py2_2) (bpy2_3 : iv 0 8 py2_3) (bpy2_13 : iv 0 900 py2_13) (bpy2_14 : iv 0 900 py2_14) (bpy2_15 : iv 0 900 py2_15) (bpy2_16 : iv 0 900 py2_16) (bpy2_17 : iv 0 900 py2_17) : Ct l V yX9_tryDeed (.code yX9_tryDeed cX9_tryDeed 4 (some .int)) 6 [.ref (y 0), .long k1] [(y 3, aI V 4 fy3), (y 9, aI V 900 fy9), (y 19, .inr (4, [.ref (y 2), .ref (y 20), .ref (y 21), .ref (y 22), .ref (y 23), .ref (y 24)])), (y 20, aI V 2000 fy20), (y 21, aI V 6 fy21), (y 22, aI V 64 fy22), (y 0, .inr (9, [.ref (y 1), .int py0_1, .ref (y 2), .ref (y 10), .ref (y 19), .ref (y 25), .ref (y 26), .ref (y 30), .ref (y 31), .ref (y 32), o10, o11, .int py0_12, .int py0_13, .int py0_14])), (y 2, .inr (1, [.int py2_0, .int py2_1, .int py2_2, .int py2_3, .int py2_4, .int py2_5, .ref (y 3), .ref (y 4), .ref (y 5), .ref (y 6), .ref (y 7), .ref (y 8), .ref (y 9), .int py2_13, .int py2_14, .int py2_15, .int py2_16, .int py2_17]))] 0 0 (QI V (fun (r : Int32) (w : va_W) => ∃ (g0 : Nat → Int32) (g1 : Nat → Int32) (g2 : Nat → Int32) (v3 : Int32) (v4 : Int32) (v5 : Int32), iv 0 2 r ∧ w = [(y 3, aI V 4 fy3), (y 9, aI V 900 fy9), (y 19, .inr (4, [.ref (y 2), .ref (y 20), .ref (y 21), .ref (y 22), .ref (y 23), .ref (y 24)])), (y 20, aI V 2000 g0), (y 21, aI V 6 g1), (y 22, aI V 64 g2), (y 0, .inr (9, [.ref (y 1), .int py0_1, .ref (y 2), .ref (y 10), .ref (y 19), .ref (y 25), .ref (y 26), .ref (y 30), .ref (y 31), .ref (y 32), o10, o11, .int v3, .int v4, .int v5])), (y 2, .inr (1, [.int py2_0, .int py2_1, .int py2_2, .int py2_3, .int py2_4, .int py2_5, .ref (y 3), .ref (y 4), .ref (y 5), .ref (y 6), .ref (y 7), .ref (y 8), .ref (y 9), .int py2_13, .int py2_14, .int py2_15, .int py2_16, .int py2_17]))])) := by
  refine Ct.of (by decide) (Nat.le_of_ble_eq_true rfl) (fun p e s m below meth c A ls hx hb hr hml hown hlk hnm hg hP hK hD hE hA hS hl => ?_)
  have hl : lv_has ls 4 [(0, .ref (y 0)), (1, .long k1)] := hl
  refine lv_lload_n hx hb dX9_tryDeed_0 rfl (lv_at hl 1 rfl) ?_
  refine lv_ldc2 (v := 10) hx hb hown (hg _ q_3_189) dX9_tryDeed_1 ?_
  refine W.lcmp hx hb dX9_tryDeed_4 ?_
  refine lv_if_lt (tgt := 41) hx hb dX9_tryDeed_5 (by decide) (fun _ => ?_) (fun _ => ?_)
  · refine lv_lload_n hx hb dX9_tryDeed_41 rfl (lv_at hl 1 rfl) ?_
    refine lv_ldc2 (v := 20) hx hb hown (hg _ q_3_199) dX9_tryDeed_42 ?_
    refine W.lcmp hx hb dX9_tryDeed_45 ?_
    refine lv_if_lt (tgt := 68) hx hb dX9_tryDeed_46 (by decide) (fun _ => ?_) (fun _ => ?_)
    · refine lv_aload_n hx hb dX9_tryDeed_68 rfl (lv_at hl 0 rfl) ?_
      refine lv_lload_n hx hb dX9_tryDeed_69 rfl (lv_at hl 1 rfl) ?_
      refine jnI (wr := [(y 3, aI V 4 fy3), (y 9, aI V 900 fy9), (y 19, .inr (4, [.ref (y 2), .ref (y 20), .ref (y 21), .ref (y 22), .ref (y 23), .ref (y 24)])), (y 20, aI V 2000 fy20), (y 21, aI V 6 fy21), (y 22, aI V 64 fy22)]) (rnV (rest := []) ⟨hx, hb, hml, hown, hg⟩ (k_X9_isNight_0 l V y k1 py0_1 o10 o11 py0_12 py0_13 py0_14 py2_0 py2_1 py2_2 py2_3 py2_4 py2_5 py2_13 py2_14 py2_15 py2_16 py2_17 bpy0_1 bpy2_1 bpy2_2 bpy2_3 bpy2_13 bpy2_14 bpy2_15 bpy2_16 bpy2_17) mt_X9_isNight q_3_141 ⟨Nat.le_of_ble_eq_true rfl, Nat.le_of_ble_eq_true rfl⟩ hK hP hD hS hA hE [6, 7] rfl rfl 6 rfl rfl rfl rfl hl.1 rfl (Nat.le_of_ble_eq_true rfl) dX9_tryDeed_70 ⟨Nat.le_of_ble_eq_true rfl, Nat.le_of_ble_eq_true rfl⟩) hP hD hS hA [6, 7] [0, 1, 2, 3, 4, 5] rfl rfl rfl (by decide) (fun r_3 w H locs hw hP hD hS => ?_)
      obtain ⟨br_3, rfl⟩ := hw
      have hP : va_P V.1 vwCl [(y 3, aI V 4 fy3), (y 9, aI V 900 fy9), (y 19, .inr (4, [.ref (y 2), .ref (y 20), .ref (y 21), .ref (y 22), .ref (y 23), .ref (y 24)])), (y 20, aI V 2000 fy20), (y 21, aI V 6 fy21), (y 22, aI V 64 fy22), (y 0, .inr (9, [.ref (y 1), .int py0_1, .ref (y 2), .ref (y 10), .ref (y 19), .ref (y 25), .ref (y 26), .ref (y 30), .ref (y 31), .ref (y 32), o10, o11, .int py0_12, .int py0_13, .int py0_14])), (y 2, .inr (1, [.int py2_0, .int py2_1, .int py2_2, .int py2_3, .int py2_4, .int py2_5, .ref (y 3), .ref (y 4), .ref (y 5), .ref (y 6), .ref (y 7), .ref (y 8), .ref (y 9), .int py2_13, .int py2_14, .int py2_15, .int py2_16, .int py2_17]))] H := hP
      have hD : va_D A [(y 3, aI V 4 fy3), (y 9, aI V 900 fy9), (y 19, .inr (4, [.ref (y 2), .ref (y 20), .ref (y 21), .ref (y 22), .ref (y 23), .ref (y 24)])), (y 20, aI V 2000 fy20), (y 21, aI V 6 fy21), (y 22, aI V 64 fy22), (y 0, .inr (9, [.ref (y 1), .int py0_1, .ref (y 2), .ref (y 10), .ref (y 19), .ref (y 25), .ref (y 26), .ref (y 30), .ref (y 31), .ref (y 32), o10, o11, .int py0_12, .int py0_13, .int py0_14])), (y 2, .inr (1, [.int py2_0, .int py2_1, .int py2_2, .int py2_3, .int py2_4, .int py2_5, .ref (y 3), .ref (y 4), .ref (y 5), .ref (y 6), .ref (y 7), .ref (y 8), .ref (y 9), .int py2_13, .int py2_14, .int py2_15, .int py2_16, .int py2_17]))] := hD
      refine lv_if_ne (tgt := 78) hx hb dX9_tryDeed_73 (by decide) (fun c_4 => ?_) (fun c_4 => ?_)
      · have b_5 : iv 1 1 r_3 := iv_n0 c_4 br_3 (iv_c (0 : Int32) (a := 0) (b := 0) (by decide)) (by decide)
        refine lv_aload_n hx hb dX9_tryDeed_78 rfl (lv_at hl 0 rfl) ?_
        refine lv_aload_n hx hb dX9_tryDeed_79 rfl (lv_at hl 0 rfl) ?_
        refine va_get (ci := 9) (v := .ref (y 19)) (C := RX9) (T := TX9) (N := 15) hx hb hg inX9 hown hK hP 6 rfl rfl 4 (by decide) (hg _ q_2_40) (fun _ h9 => h9) rfl dX9_tryDeed_80 ?_
        refine lv_aload_n hx hb dX9_tryDeed_83 rfl (lv_at hl 0 rfl) ?_
        refine va_get (ci := 9) (v := .int py0_12) (C := RX9) (T := TX9) (N := 15) hx hb hg inX9 hown hK hP 6 rfl rfl 12 (by decide) (hg _ q_2_48) (fun _ h9 => h9) rfl dX9_tryDeed_84 ?_
        refine lv_aload_n hx hb dX9_tryDeed_87 rfl (lv_at hl 0 rfl) ?_
        refine va_get (ci := 9) (v := .int py0_13) (C := RX9) (T := TX9) (N := 15) hx hb hg inX9 hown hK hP 6 rfl rfl 13 (by decide) (hg _ q_2_49) (fun _ h9 => h9) rfl dX9_tryDeed_88 ?_
        refine lv_lload_n hx hb dX9_tryDeed_91 rfl (lv_at hl 1 rfl) ?_
        refine lv_l2i hx hb dX9_tryDeed_92 rfl ?_
        refine lv_topi (fun x_6 ex_6 => ?_)
        refine jnI (wr := [(y 0, .inr (9, [.ref (y 1), .int py0_1, .ref (y 2), .ref (y 10), .ref (y 19), .ref (y 25), .ref (y 26), .ref (y 30), .ref (y 31), .ref (y 32), o10, o11, .int py0_12, .int py0_13, .int py0_14]))]) (rnV (rest := [.ref (y 0)]) ⟨hx, hb, hml, hown, hg⟩ (k_X4_behind_0 l V y py0_12 py0_13 x_6 fy3 fy9 fy20 fy21 fy22 py2_0 py2_1 py2_2 py2_3 py2_4 py2_5 py2_13 py2_14 py2_15 py2_16 py2_17 bpy2_1 bpy2_2 bpy2_3 bpy2_13 bpy2_14 bpy2_15 bpy2_16 bpy2_17) mt_X4_behind q_3_145 ⟨Nat.le_of_ble_eq_true rfl, Nat.le_of_ble_eq_true rfl⟩ hK hP hD hS hA hE [0, 1, 2, 3, 4, 5, 7] rfl rfl 2 rfl rfl rfl rfl hl.1 rfl (Nat.le_of_ble_eq_true rfl) dX9_tryDeed_93 ⟨Nat.le_of_ble_eq_true rfl, Nat.le_of_ble_eq_true rfl⟩) hP hD hS hA [0, 1, 2, 3, 4, 5, 7] [6] rfl rfl rfl (by decide) (fun r_7 w H locs hw hP hD hS => ?_)
        obtain ⟨f_8, f_9, f_10, rfl⟩ := hw
        have hP : va_P V.1 vwCl [(y 0, .inr (9, [.ref (y 1), .int py0_1, .ref (y 2), .ref (y 10), .ref (y 19), .ref (y 25), .ref (y 26), .ref (y 30), .ref (y 31), .ref (y 32), o10, o11, .int py0_12, .int py0_13, .int py0_14])), (y 3, aI V 4 fy3), (y 9, aI V 900 fy9), (y 19, .inr (4, [.ref (y 2), .ref (y 20), .ref (y 21), .ref (y 22), .ref (y 23), .ref (y 24)])), (y 20, aI V 2000 f_8), (y 21, aI V 6 f_9), (y 22, aI V 64 f_10), (y 2, .inr (1, [.int py2_0, .int py2_1, .int py2_2, .int py2_3, .int py2_4, .int py2_5, .ref (y 3), .ref (y 4), .ref (y 5), .ref (y 6), .ref (y 7), .ref (y 8), .ref (y 9), .int py2_13, .int py2_14, .int py2_15, .int py2_16, .int py2_17]))] H := hP
        have hD : va_D A [(y 0, .inr (9, [.ref (y 1), .int py0_1, .ref (y 2), .ref (y 10), .ref (y 19), .ref (y 25), .ref (y 26), .ref (y 30), .ref (y 31), .ref (y 32), o10, o11, .int py0_12, .int py0_13, .int py0_14])), (y 3, aI V 4 fy3), (y 9, aI V 900 fy9), (y 19, .inr (4, [.ref (y 2), .ref (y 20), .ref (y 21), .ref (y 22), .ref (y 23), .ref (y 24)])), (y 20, aI V 2000 f_8), (y 21, aI V 6 f_9), (y 22, aI V 64 f_10), (y 2, .inr (1, [.int py2_0, .int py2_1, .int py2_2, .int py2_3, .int py2_4, .int py2_5, .ref (y 3), .ref (y 4), .ref (y 5), .ref (y 6), .ref (y 7), .ref (y 8), .ref (y 9), .int py2_13, .int py2_14, .int py2_15, .int py2_16, .int py2_17]))] := hD
        refine va_put (ci := 9) (v := .int r_7) (ty := .int) (C := RX9) (T := TX9) (N := 15) hx hb hg inX9 tyX9 tyX9_ok nmX9 hown hK hP hD hS 0 rfl rfl 12 (by decide) (hg _ q_2_48) (fun _ h9 => h9) rfl (by decide +kernel) rfl rfl (Nat.le_of_ble_eq_true rfl) dX9_tryDeed_96 (fun H locs hP hD hS => ?_)
        have hP : va_P V.1 vwCl [(y 0, .inr (9, [.ref (y 1), .int py0_1, .ref (y 2), .ref (y 10), .ref (y 19), .ref (y 25), .ref (y 26), .ref (y 30), .ref (y 31), .ref (y 32), o10, o11, .int r_7, .int py0_13, .int py0_14])), (y 3, aI V 4 fy3), (y 9, aI V 900 fy9), (y 19, .inr (4, [.ref (y 2), .ref (y 20), .ref (y 21), .ref (y 22), .ref (y 23), .ref (y 24)])), (y 20, aI V 2000 f_8), (y 21, aI V 6 f_9), (y 22, aI V 64 f_10), (y 2, .inr (1, [.int py2_0, .int py2_1, .int py2_2, .int py2_3, .int py2_4, .int py2_5, .ref (y 3), .ref (y 4), .ref (y 5), .ref (y 6), .ref (y 7), .ref (y 8), .ref (y 9), .int py2_13, .int py2_14, .int py2_15, .int py2_16, .int py2_17]))] H := hP
        have hD : va_D A [(y 0, .inr (9, [.ref (y 1), .int py0_1, .ref (y 2), .ref (y 10), .ref (y 19), .ref (y 25), .ref (y 26), .ref (y 30), .ref (y 31), .ref (y 32), o10, o11, .int r_7, .int py0_13, .int py0_14])), (y 3, aI V 4 fy3), (y 9, aI V 900 fy9), (y 19, .inr (4, [.ref (y 2), .ref (y 20), .ref (y 21), .ref (y 22), .ref (y 23), .ref (y 24)])), (y 20, aI V 2000 f_8), (y 21, aI V 6 f_9), (y 22, aI V 64 f_10), (y 2, .inr (1, [.int py2_0, .int py2_1, .int py2_2, .int py2_3, .int py2_4, .int py2_5, .ref (y 3), .ref (y 4), .ref (y 5), .ref (y 6), .ref (y 7), .ref (y 8), .ref (y 9), .int py2_13, .int py2_14, .int py2_15, .int py2_16, .int py2_17]))] := hD
        refine lv_aload_n hx hb dX9_tryDeed_99 rfl (lv_at hl 0 rfl) ?_
        refine lv_dup hx hb dX9_tryDeed_100 rfl ?_
        refine va_get (ci := 9) (v := .int py0_14) (C := RX9) (T := TX9) (N := 15) hx hb hg inX9 hown hK hP 0 rfl rfl 14 (by decide) (hg _ q_2_50) (fun _ h9 => h9) rfl dX9_tryDeed_101 ?_
        refine lv_iconst (v := 1) hx hb dX9_tryDeed_104 (by decide) ?_
        refine lv_iadd hx hb dX9_tryDeed_105 ?_
        refine lv_topi (fun x_11 ex_11 => ?_)
        refine va_put (ci := 9) (v := .int x_11) (ty := .int) (C := RX9) (T := TX9) (N := 15) hx hb hg inX9 tyX9 tyX9_ok nmX9 hown hK hP hD hS 0 rfl rfl 14 (by decide) (hg _ q_2_50) (fun _ h9 => h9) rfl (by decide +kernel) rfl rfl (Nat.le_of_ble_eq_true rfl) dX9_tryDeed_106 (fun H locs hP hD hS => ?_)
        have hP : va_P V.1 vwCl [(y 0, .inr (9, [.ref (y 1), .int py0_1, .ref (y 2), .ref (y 10), .ref (y 19), .ref (y 25), .ref (y 26), .ref (y 30), .ref (y 31), .ref (y 32), o10, o11, .int r_7, .int py0_13, .int x_11])), (y 3, aI V 4 fy3), (y 9, aI V 900 fy9), (y 19, .inr (4, [.ref (y 2), .ref (y 20), .ref (y 21), .ref (y 22), .ref (y 23), .ref (y 24)])), (y 20, aI V 2000 f_8), (y 21, aI V 6 f_9), (y 22, aI V 64 f_10), (y 2, .inr (1, [.int py2_0, .int py2_1, .int py2_2, .int py2_3, .int py2_4, .int py2_5, .ref (y 3), .ref (y 4), .ref (y 5), .ref (y 6), .ref (y 7), .ref (y 8), .ref (y 9), .int py2_13, .int py2_14, .int py2_15, .int py2_16, .int py2_17]))] H := hP
        have hD : va_D A [(y 0, .inr (9, [.ref (y 1), .int py0_1, .ref (y 2), .ref (y 10), .ref (y 19), .ref (y 25), .ref (y 26), .ref (y 30), .ref (y 31), .ref (y 32), o10, o11, .int r_7, .int py0_13, .int x_11])), (y 3, aI V 4 fy3), (y 9, aI V 900 fy9), (y 19, .inr (4, [.ref (y 2), .ref (y 20), .ref (y 21), .ref (y 22), .ref (y 23), .ref (y 24)])), (y 20, aI V 2000 f_8), (y 21, aI V 6 f_9), (y 22, aI V 64 f_10), (y 2, .inr (1, [.int py2_0, .int py2_1, .int py2_2, .int py2_3, .int py2_4, .int py2_5, .ref (y 3), .ref (y 4), .ref (y 5), .ref (y 6), .ref (y 7), .ref (y 8), .ref (y 9), .int py2_13, .int py2_14, .int py2_15, .int py2_16, .int py2_17]))] := hD
        refine lv_iconst (v := 0) hx hb dX9_tryDeed_109 (by decide) ?_
        have hP := subP (ws' := [(y 3, aI V 4 fy3), (y 9, aI V 900 fy9), (y 19, .inr (4, [.ref (y 2), .ref (y 20), .ref (y 21), .ref (y 22), .ref (y 23), .ref (y 24)])), (y 20, aI V 2000 f_8), (y 21, aI V 6 f_9), (y 22, aI V 64 f_10), (y 0, .inr (9, [.ref (y 1), .int py0_1, .ref (y 2), .ref (y 10), .ref (y 19), .ref (y 25), .ref (y 26), .ref (y 30), .ref (y 31), .ref (y 32), o10, o11, .int r_7, .int py0_13, .int x_11])), (y 2, .inr (1, [.int py2_0, .int py2_1, .int py2_2, .int py2_3, .int py2_4, .int py2_5, .ref (y 3), .ref (y 4), .ref (y 5), .ref (y 6), .ref (y 7), .ref (y 8), .ref (y 9), .int py2_13, .int py2_14, .int py2_15, .int py2_16, .int py2_17]))]) hP [1, 2, 3, 4, 5, 6, 0, 7] rfl
        have hD := hD.sub (ws' := [(y 3, aI V 4 fy3), (y 9, aI V 900 fy9), (y 19, .inr (4, [.ref (y 2), .ref (y 20), .ref (y 21), .ref (y 22), .ref (y 23), .ref (y 24)])), (y 20, aI V 2000 f_8), (y 21, aI V 6 f_9), (y 22, aI V 64 f_10), (y 0, .inr (9, [.ref (y 1), .int py0_1, .ref (y 2), .ref (y 10), .ref (y 19), .ref (y 25), .ref (y 26), .ref (y 30), .ref (y 31), .ref (y 32), o10, o11, .int r_7, .int py0_13, .int x_11])), (y 2, .inr (1, [.int py2_0, .int py2_1, .int py2_2, .int py2_3, .int py2_4, .int py2_5, .ref (y 3), .ref (y 4), .ref (y 5), .ref (y 6), .ref (y 7), .ref (y 8), .ref (y 9), .int py2_13, .int py2_14, .int py2_15, .int py2_16, .int py2_17]))]) [1, 2, 3, 4, 5, 6, 0, 7] rfl rfl
        exact fiI hx hb hr hlk hK hP hD hS dX9_tryDeed_110 (Nat.le_of_ble_eq_true rfl) (Nat.le_of_ble_eq_true rfl) (⟨f_8, f_9, f_10, r_7, py0_13, x_11, (iv_c (0 : Int32) (by decide)), rfl⟩)
      · have b_12 : iv 0 0 r_3 := iv_q c_4 (iv_c (0 : Int32) (a := 0) (b := 0) (by decide))
        refine lv_iconst (v := 1) hx hb dX9_tryDeed_76 (by decide) ?_
        exact fiI hx hb hr hlk hK hP hD hS dX9_tryDeed_77 (Nat.le_of_ble_eq_true rfl) (Nat.le_of_ble_eq_true rfl) (⟨fy20, fy21, fy22, py0_12, py0_13, py0_14, (iv_c (1 : Int32) (by decide)), rfl⟩)
    · refine lv_lload_n hx hb dX9_tryDeed_49 rfl (lv_at hl 1 rfl) ?_
      refine lv_ldc2 (v := 29) hx hb hown (hg _ q_3_200) dX9_tryDeed_50 ?_
      refine W.lcmp hx hb dX9_tryDeed_53 ?_
      refine lv_if_gt (tgt := 68) hx hb dX9_tryDeed_54 (by decide) (fun _ => ?_) (fun _ => ?_)
      · refine lv_aload_n hx hb dX9_tryDeed_68 rfl (lv_at hl 0 rfl) ?_
        refine lv_lload_n hx hb dX9_tryDeed_69 rfl (lv_at hl 1 rfl) ?_
        refine jnI (wr := [(y 3, aI V 4 fy3), (y 9, aI V 900 fy9), (y 19, .inr (4, [.ref (y 2), .ref (y 20), .ref (y 21), .ref (y 22), .ref (y 23), .ref (y 24)])), (y 20, aI V 2000 fy20), (y 21, aI V 6 fy21), (y 22, aI V 64 fy22)]) (rnV (rest := []) ⟨hx, hb, hml, hown, hg⟩ (k_X9_isNight_0 l V y k1 py0_1 o10 o11 py0_12 py0_13 py0_14 py2_0 py2_1 py2_2 py2_3 py2_4 py2_5 py2_13 py2_14 py2_15 py2_16 py2_17 bpy0_1 bpy2_1 bpy2_2 bpy2_3 bpy2_13 bpy2_14 bpy2_15 bpy2_16 bpy2_17) mt_X9_isNight q_3_141 ⟨Nat.le_of_ble_eq_true rfl, Nat.le_of_ble_eq_true rfl⟩ hK hP hD hS hA hE [6, 7] rfl rfl 6 rfl rfl rfl rfl hl.1 rfl (Nat.le_of_ble_eq_true rfl) dX9_tryDeed_70 ⟨Nat.le_of_ble_eq_true rfl, Nat.le_of_ble_eq_true rfl⟩) hP hD hS hA [6, 7] [0, 1, 2, 3, 4, 5] rfl rfl rfl (by decide) (fun r_14 w H locs hw hP hD hS => ?_)
        obtain ⟨br_14, rfl⟩ := hw
        have hP : va_P V.1 vwCl [(y 3, aI V 4 fy3), (y 9, aI V 900 fy9), (y 19, .inr (4, [.ref (y 2), .ref (y 20), .ref (y 21), .ref (y 22), .ref (y 23), .ref (y 24)])), (y 20, aI V 2000 fy20), (y 21, aI V 6 fy21), (y 22, aI V 64 fy22), (y 0, .inr (9, [.ref (y 1), .int py0_1, .ref (y 2), .ref (y 10), .ref (y 19), .ref (y 25), .ref (y 26), .ref (y 30), .ref (y 31), .ref (y 32), o10, o11, .int py0_12, .int py0_13, .int py0_14])), (y 2, .inr (1, [.int py2_0, .int py2_1, .int py2_2, .int py2_3, .int py2_4, .int py2_5, .ref (y 3), .ref (y 4), .ref (y 5), .ref (y 6), .ref (y 7), .ref (y 8), .ref (y 9), .int py2_13, .int py2_14, .int py2_15, .int py2_16, .int py2_17]))] H := hP
        have hD : va_D A [(y 3, aI V 4 fy3), (y 9, aI V 900 fy9), (y 19, .inr (4, [.ref (y 2), .ref (y 20), .ref (y 21), .ref (y 22), .ref (y 23), .ref (y 24)])), (y 20, aI V 2000 fy20), (y 21, aI V 6 fy21), (y 22, aI V 64 fy22), (y 0, .inr (9, [.ref (y 1), .int py0_1, .ref (y 2), .ref (y 10), .ref (y 19), .ref (y 25), .ref (y 26), .ref (y 30), .ref (y 31), .ref (y 32), o10, o11, .int py0_12, .int py0_13, .int py0_14])), (y 2, .inr (1, [.int py2_0, .int py2_1, .int py2_2, .int py2_3, .int py2_4, .int py2_5, .ref (y 3), .ref (y 4), .ref (y 5), .ref (y 6), .ref (y 7), .ref (y 8), .ref (y 9), .int py2_13, .int py2_14, .int py2_15, .int py2_16, .int py2_17]))] := hD
        refine lv_if_ne (tgt := 78) hx hb dX9_tryDeed_73 (by decide) (fun c_15 => ?_) (fun c_15 => ?_)
        · have b_16 : iv 1 1 r_14 := iv_n0 c_15 br_14 (iv_c (0 : Int32) (a := 0) (b := 0) (by decide)) (by decide)
          refine lv_aload_n hx hb dX9_tryDeed_78 rfl (lv_at hl 0 rfl) ?_
          refine lv_aload_n hx hb dX9_tryDeed_79 rfl (lv_at hl 0 rfl) ?_
          refine va_get (ci := 9) (v := .ref (y 19)) (C := RX9) (T := TX9) (N := 15) hx hb hg inX9 hown hK hP 6 rfl rfl 4 (by decide) (hg _ q_2_40) (fun _ h9 => h9) rfl dX9_tryDeed_80 ?_
          refine lv_aload_n hx hb dX9_tryDeed_83 rfl (lv_at hl 0 rfl) ?_
          refine va_get (ci := 9) (v := .int py0_12) (C := RX9) (T := TX9) (N := 15) hx hb hg inX9 hown hK hP 6 rfl rfl 12 (by decide) (hg _ q_2_48) (fun _ h9 => h9) rfl dX9_tryDeed_84 ?_
          refine lv_aload_n hx hb dX9_tryDeed_87 rfl (lv_at hl 0 rfl) ?_
          refine va_get (ci := 9) (v := .int py0_13) (C := RX9) (T := TX9) (N := 15) hx hb hg inX9 hown hK hP 6 rfl rfl 13 (by decide) (hg _ q_2_49) (fun _ h9 => h9) rfl dX9_tryDeed_88 ?_
          refine lv_lload_n hx hb dX9_tryDeed_91 rfl (lv_at hl 1 rfl) ?_
          refine lv_l2i hx hb dX9_tryDeed_92 rfl ?_
          refine lv_topi (fun x_17 ex_17 => ?_)
          refine jnI (wr := [(y 0, .inr (9, [.ref (y 1), .int py0_1, .ref (y 2), .ref (y 10), .ref (y 19), .ref (y 25), .ref (y 26), .ref (y 30), .ref (y 31), .ref (y 32), o10, o11, .int py0_12, .int py0_13, .int py0_14]))]) (rnV (rest := [.ref (y 0)]) ⟨hx, hb, hml, hown, hg⟩ (k_X4_behind_0 l V y py0_12 py0_13 x_17 fy3 fy9 fy20 fy21 fy22 py2_0 py2_1 py2_2 py2_3 py2_4 py2_5 py2_13 py2_14 py2_15 py2_16 py2_17 bpy2_1 bpy2_2 bpy2_3 bpy2_13 bpy2_14 bpy2_15 bpy2_16 bpy2_17) mt_X4_behind q_3_145 ⟨Nat.le_of_ble_eq_true rfl, Nat.le_of_ble_eq_true rfl⟩ hK hP hD hS hA hE [0, 1, 2, 3, 4, 5, 7] rfl rfl 2 rfl rfl rfl rfl hl.1 rfl (Nat.le_of_ble_eq_true rfl) dX9_tryDeed_93 ⟨Nat.le_of_ble_eq_true rfl, Nat.le_of_ble_eq_true rfl⟩) hP hD hS hA [0, 1, 2, 3, 4, 5, 7] [6] rfl rfl rfl (by decide) (fun r_18 w H locs hw hP hD hS => ?_)
          obtain ⟨f_19, f_20, f_21, rfl⟩ := hw
          have hP : va_P V.1 vwCl [(y 0, .inr (9, [.ref (y 1), .int py0_1, .ref (y 2), .ref (y 10), .ref (y 19), .ref (y 25), .ref (y 26), .ref (y 30), .ref (y 31), .ref (y 32), o10, o11, .int py0_12, .int py0_13, .int py0_14])), (y 3, aI V 4 fy3), (y 9, aI V 900 fy9), (y 19, .inr (4, [.ref (y 2), .ref (y 20), .ref (y 21), .ref (y 22), .ref (y 23), .ref (y 24)])), (y 20, aI V 2000 f_19), (y 21, aI V 6 f_20), (y 22, aI V 64 f_21), (y 2, .inr (1, [.int py2_0, .int py2_1, .int py2_2, .int py2_3, .int py2_4, .int py2_5, .ref (y 3), .ref (y 4), .ref (y 5), .ref (y 6), .ref (y 7), .ref (y 8), .ref (y 9), .int py2_13, .int py2_14, .int py2_15, .int py2_16, .int py2_17]))] H := hP
          have hD : va_D A [(y 0, .inr (9, [.ref (y 1), .int py0_1, .ref (y 2), .ref (y 10), .ref (y 19), .ref (y 25), .ref (y 26), .ref (y 30), .ref (y 31), .ref (y 32), o10, o11, .int py0_12, .int py0_13, .int py0_14])), (y 3, aI V 4 fy3), (y 9, aI V 900 fy9), (y 19, .inr (4, [.ref (y 2), .ref (y 20), .ref (y 21), .ref (y 22), .ref (y 23), .ref (y 24)])), (y 20, aI V 2000 f_19), (y 21, aI V 6 f_20), (y 22, aI V 64 f_21), (y 2, .inr (1, [.int py2_0, .int py2_1, .int py2_2, .int py2_3, .int py2_4, .int py2_5, .ref (y 3), .ref (y 4), .ref (y 5), .ref (y 6), .ref (y 7), .ref (y 8), .ref (y 9), .int py2_13, .int py2_14, .int py2_15, .int py2_16, .int py2_17]))] := hD
          refine va_put (ci := 9) (v := .int r_18) (ty := .int) (C := RX9) (T := TX9) (N := 15) hx hb hg inX9 tyX9 tyX9_ok nmX9 hown hK hP hD hS 0 rfl rfl 12 (by decide) (hg _ q_2_48) (fun _ h9 => h9) rfl (by decide +kernel) rfl rfl (Nat.le_of_ble_eq_true rfl) dX9_tryDeed_96 (fun H locs hP hD hS => ?_)
          have hP : va_P V.1 vwCl [(y 0, .inr (9, [.ref (y 1), .int py0_1, .ref (y 2), .ref (y 10), .ref (y 19), .ref (y 25), .ref (y 26), .ref (y 30), .ref (y 31), .ref (y 32), o10, o11, .int r_18, .int py0_13, .int py0_14])), (y 3, aI V 4 fy3), (y 9, aI V 900 fy9), (y 19, .inr (4, [.ref (y 2), .ref (y 20), .ref (y 21), .ref (y 22), .ref (y 23), .ref (y 24)])), (y 20, aI V 2000 f_19), (y 21, aI V 6 f_20), (y 22, aI V 64 f_21), (y 2, .inr (1, [.int py2_0, .int py2_1, .int py2_2, .int py2_3, .int py2_4, .int py2_5, .ref (y 3), .ref (y 4), .ref (y 5), .ref (y 6), .ref (y 7), .ref (y 8), .ref (y 9), .int py2_13, .int py2_14, .int py2_15, .int py2_16, .int py2_17]))] H := hP
          have hD : va_D A [(y 0, .inr (9, [.ref (y 1), .int py0_1, .ref (y 2), .ref (y 10), .ref (y 19), .ref (y 25), .ref (y 26), .ref (y 30), .ref (y 31), .ref (y 32), o10, o11, .int r_18, .int py0_13, .int py0_14])), (y 3, aI V 4 fy3), (y 9, aI V 900 fy9), (y 19, .inr (4, [.ref (y 2), .ref (y 20), .ref (y 21), .ref (y 22), .ref (y 23), .ref (y 24)])), (y 20, aI V 2000 f_19), (y 21, aI V 6 f_20), (y 22, aI V 64 f_21), (y 2, .inr (1, [.int py2_0, .int py2_1, .int py2_2, .int py2_3, .int py2_4, .int py2_5, .ref (y 3), .ref (y 4), .ref (y 5), .ref (y 6), .ref (y 7), .ref (y 8), .ref (y 9), .int py2_13, .int py2_14, .int py2_15, .int py2_16, .int py2_17]))] := hD
          refine lv_aload_n hx hb dX9_tryDeed_99 rfl (lv_at hl 0 rfl) ?_
          refine lv_dup hx hb dX9_tryDeed_100 rfl ?_
          refine va_get (ci := 9) (v := .int py0_14) (C := RX9) (T := TX9) (N := 15) hx hb hg inX9 hown hK hP 0 rfl rfl 14 (by decide) (hg _ q_2_50) (fun _ h9 => h9) rfl dX9_tryDeed_101 ?_
          refine lv_iconst (v := 1) hx hb dX9_tryDeed_104 (by decide) ?_
          refine lv_iadd hx hb dX9_tryDeed_105 ?_
          refine lv_topi (fun x_22 ex_22 => ?_)
          refine va_put (ci := 9) (v := .int x_22) (ty := .int) (C := RX9) (T := TX9) (N := 15) hx hb hg inX9 tyX9 tyX9_ok nmX9 hown hK hP hD hS 0 rfl rfl 14 (by decide) (hg _ q_2_50) (fun _ h9 => h9) rfl (by decide +kernel) rfl rfl (Nat.le_of_ble_eq_true rfl) dX9_tryDeed_106 (fun H locs hP hD hS => ?_)
          have hP : va_P V.1 vwCl [(y 0, .inr (9, [.ref (y 1), .int py0_1, .ref (y 2), .ref (y 10), .ref (y 19), .ref (y 25), .ref (y 26), .ref (y 30), .ref (y 31), .ref (y 32), o10, o11, .int r_18, .int py0_13, .int x_22])), (y 3, aI V 4 fy3), (y 9, aI V 900 fy9), (y 19, .inr (4, [.ref (y 2), .ref (y 20), .ref (y 21), .ref (y 22), .ref (y 23), .ref (y 24)])), (y 20, aI V 2000 f_19), (y 21, aI V 6 f_20), (y 22, aI V 64 f_21), (y 2, .inr (1, [.int py2_0, .int py2_1, .int py2_2, .int py2_3, .int py2_4, .int py2_5, .ref (y 3), .ref (y 4), .ref (y 5), .ref (y 6), .ref (y 7), .ref (y 8), .ref (y 9), .int py2_13, .int py2_14, .int py2_15, .int py2_16, .int py2_17]))] H := hP
          have hD : va_D A [(y 0, .inr (9, [.ref (y 1), .int py0_1, .ref (y 2), .ref (y 10), .ref (y 19), .ref (y 25), .ref (y 26), .ref (y 30), .ref (y 31), .ref (y 32), o10, o11, .int r_18, .int py0_13, .int x_22])), (y 3, aI V 4 fy3), (y 9, aI V 900 fy9), (y 19, .inr (4, [.ref (y 2), .ref (y 20), .ref (y 21), .ref (y 22), .ref (y 23), .ref (y 24)])), (y 20, aI V 2000 f_19), (y 21, aI V 6 f_20), (y 22, aI V 64 f_21), (y 2, .inr (1, [.int py2_0, .int py2_1, .int py2_2, .int py2_3, .int py2_4, .int py2_5, .ref (y 3), .ref (y 4), .ref (y 5), .ref (y 6), .ref (y 7), .ref (y 8), .ref (y 9), .int py2_13, .int py2_14, .int py2_15, .int py2_16, .int py2_17]))] := hD
          refine lv_iconst (v := 0) hx hb dX9_tryDeed_109 (by decide) ?_
          have hP := subP (ws' := [(y 3, aI V 4 fy3), (y 9, aI V 900 fy9), (y 19, .inr (4, [.ref (y 2), .ref (y 20), .ref (y 21), .ref (y 22), .ref (y 23), .ref (y 24)])), (y 20, aI V 2000 f_19), (y 21, aI V 6 f_20), (y 22, aI V 64 f_21), (y 0, .inr (9, [.ref (y 1), .int py0_1, .ref (y 2), .ref (y 10), .ref (y 19), .ref (y 25), .ref (y 26), .ref (y 30), .ref (y 31), .ref (y 32), o10, o11, .int r_18, .int py0_13, .int x_22])), (y 2, .inr (1, [.int py2_0, .int py2_1, .int py2_2, .int py2_3, .int py2_4, .int py2_5, .ref (y 3), .ref (y 4), .ref (y 5), .ref (y 6), .ref (y 7), .ref (y 8), .ref (y 9), .int py2_13, .int py2_14, .int py2_15, .int py2_16, .int py2_17]))]) hP [1, 2, 3, 4, 5, 6, 0, 7] rfl
          have hD := hD.sub (ws' := [(y 3, aI V 4 fy3), (y 9, aI V 900 fy9), (y 19, .inr (4, [.ref (y 2), .ref (y 20), .ref (y 21), .ref (y 22), .ref (y 23), .ref (y 24)])), (y 20, aI V 2000 f_19), (y 21, aI V 6 f_20), (y 22, aI V 64 f_21), (y 0, .inr (9, [.ref (y 1), .int py0_1, .ref (y 2), .ref (y 10), .ref (y 19), .ref (y 25), .ref (y 26), .ref (y 30), .ref (y 31), .ref (y 32), o10, o11, .int r_18, .int py0_13, .int x_22])), (y 2, .inr (1, [.int py2_0, .int py2_1, .int py2_2, .int py2_3, .int py2_4, .int py2_5, .ref (y 3), .ref (y 4), .ref (y 5), .ref (y 6), .ref (y 7), .ref (y 8), .ref (y 9), .int py2_13, .int py2_14, .int py2_15, .int py2_16, .int py2_17]))]) [1, 2, 3, 4, 5, 6, 0, 7] rfl rfl
          exact fiI hx hb hr hlk hK hP hD hS dX9_tryDeed_110 (Nat.le_of_ble_eq_true rfl) (Nat.le_of_ble_eq_true rfl) (⟨f_19, f_20, f_21, r_18, py0_13, x_22, (iv_c (0 : Int32) (by decide)), rfl⟩)
        · have b_23 : iv 0 0 r_14 := iv_q c_15 (iv_c (0 : Int32) (a := 0) (b := 0) (by decide))
          refine lv_iconst (v := 1) hx hb dX9_tryDeed_76 (by decide) ?_
          exact fiI hx hb hr hlk hK hP hD hS dX9_tryDeed_77 (Nat.le_of_ble_eq_true rfl) (Nat.le_of_ble_eq_true rfl) (⟨fy20, fy21, fy22, py0_12, py0_13, py0_14, (iv_c (1 : Int32) (by decide)), rfl⟩)
      · refine lv_aload_n hx hb dX9_tryDeed_57 rfl (lv_at hl 0 rfl) ?_
        refine lv_lload_n hx hb dX9_tryDeed_58 rfl (lv_at hl 1 rfl) ?_
        refine lv_l2i hx hb dX9_tryDeed_59 rfl ?_
        refine lv_topi (fun x_24 ex_24 => ?_)
        refine lv_bipush (v := 20) hx hb dX9_tryDeed_60 (by decide) ?_
        refine lv_isub hx hb dX9_tryDeed_62 ?_
        refine lv_topi (fun x_25 ex_25 => ?_)
        refine va_put (ci := 9) (v := .int x_25) (ty := .int) (C := RX9) (T := TX9) (N := 15) hx hb hg inX9 tyX9 tyX9_ok nmX9 hown hK hP hD hS 6 rfl rfl 13 (by decide) (hg _ q_2_49) (fun _ h9 => h9) rfl (by decide +kernel) rfl rfl (Nat.le_of_ble_eq_true rfl) dX9_tryDeed_63 (fun H locs hP hD hS => ?_)
        have hP : va_P V.1 vwCl [(y 3, aI V 4 fy3), (y 9, aI V 900 fy9), (y 19, .inr (4, [.ref (y 2), .ref (y 20), .ref (y 21), .ref (y 22), .ref (y 23), .ref (y 24)])), (y 20, aI V 2000 fy20), (y 21, aI V 6 fy21), (y 22, aI V 64 fy22), (y 0, .inr (9, [.ref (y 1), .int py0_1, .ref (y 2), .ref (y 10), .ref (y 19), .ref (y 25), .ref (y 26), .ref (y 30), .ref (y 31), .ref (y 32), o10, o11, .int py0_12, .int x_25, .int py0_14])), (y 2, .inr (1, [.int py2_0, .int py2_1, .int py2_2, .int py2_3, .int py2_4, .int py2_5, .ref (y 3), .ref (y 4), .ref (y 5), .ref (y 6), .ref (y 7), .ref (y 8), .ref (y 9), .int py2_13, .int py2_14, .int py2_15, .int py2_16, .int py2_17]))] H := hP
        have hD : va_D A [(y 3, aI V 4 fy3), (y 9, aI V 900 fy9), (y 19, .inr (4, [.ref (y 2), .ref (y 20), .ref (y 21), .ref (y 22), .ref (y 23), .ref (y 24)])), (y 20, aI V 2000 fy20), (y 21, aI V 6 fy21), (y 22, aI V 64 fy22), (y 0, .inr (9, [.ref (y 1), .int py0_1, .ref (y 2), .ref (y 10), .ref (y 19), .ref (y 25), .ref (y 26), .ref (y 30), .ref (y 31), .ref (y 32), o10, o11, .int py0_12, .int x_25, .int py0_14])), (y 2, .inr (1, [.int py2_0, .int py2_1, .int py2_2, .int py2_3, .int py2_4, .int py2_5, .ref (y 3), .ref (y 4), .ref (y 5), .ref (y 6), .ref (y 7), .ref (y 8), .ref (y 9), .int py2_13, .int py2_14, .int py2_15, .int py2_16, .int py2_17]))] := hD
        refine lv_iconst (v := 0) hx hb dX9_tryDeed_66 (by decide) ?_
        exact fiI hx hb hr hlk hK hP hD hS dX9_tryDeed_67 (Nat.le_of_ble_eq_true rfl) (Nat.le_of_ble_eq_true rfl) (⟨fy20, fy21, fy22, py0_12, x_25, py0_14, (iv_c (0 : Int32) (by decide)), rfl⟩)
  · refine lv_lload_n hx hb dX9_tryDeed_8 rfl (lv_at hl 1 rfl) ?_
    refine lv_ldc2 (v := 19) hx hb hown (hg _ q_3_190) dX9_tryDeed_9 ?_
    refine W.lcmp hx hb dX9_tryDeed_12 ?_
    refine lv_if_gt (tgt := 41) hx hb dX9_tryDeed_13 (by decide) (fun _ => ?_) (fun _ => ?_)
    · refine lv_lload_n hx hb dX9_tryDeed_41 rfl (lv_at hl 1 rfl) ?_
      refine lv_ldc2 (v := 20) hx hb hown (hg _ q_3_199) dX9_tryDeed_42 ?_
      refine W.lcmp hx hb dX9_tryDeed_45 ?_
      refine lv_if_lt (tgt := 68) hx hb dX9_tryDeed_46 (by decide) (fun _ => ?_) (fun _ => ?_)
      · refine lv_aload_n hx hb dX9_tryDeed_68 rfl (lv_at hl 0 rfl) ?_
        refine lv_lload_n hx hb dX9_tryDeed_69 rfl (lv_at hl 1 rfl) ?_
        refine jnI (wr := [(y 3, aI V 4 fy3), (y 9, aI V 900 fy9), (y 19, .inr (4, [.ref (y 2), .ref (y 20), .ref (y 21), .ref (y 22), .ref (y 23), .ref (y 24)])), (y 20, aI V 2000 fy20), (y 21, aI V 6 fy21), (y 22, aI V 64 fy22)]) (rnV (rest := []) ⟨hx, hb, hml, hown, hg⟩ (k_X9_isNight_0 l V y k1 py0_1 o10 o11 py0_12 py0_13 py0_14 py2_0 py2_1 py2_2 py2_3 py2_4 py2_5 py2_13 py2_14 py2_15 py2_16 py2_17 bpy0_1 bpy2_1 bpy2_2 bpy2_3 bpy2_13 bpy2_14 bpy2_15 bpy2_16 bpy2_17) mt_X9_isNight q_3_141 ⟨Nat.le_of_ble_eq_true rfl, Nat.le_of_ble_eq_true rfl⟩ hK hP hD hS hA hE [6, 7] rfl rfl 6 rfl rfl rfl rfl hl.1 rfl (Nat.le_of_ble_eq_true rfl) dX9_tryDeed_70 ⟨Nat.le_of_ble_eq_true rfl, Nat.le_of_ble_eq_true rfl⟩) hP hD hS hA [6, 7] [0, 1, 2, 3, 4, 5] rfl rfl rfl (by decide) (fun r_28 w H locs hw hP hD hS => ?_)
        obtain ⟨br_28, rfl⟩ := hw
        have hP : va_P V.1 vwCl [(y 3, aI V 4 fy3), (y 9, aI V 900 fy9), (y 19, .inr (4, [.ref (y 2), .ref (y 20), .ref (y 21), .ref (y 22), .ref (y 23), .ref (y 24)])), (y 20, aI V 2000 fy20), (y 21, aI V 6 fy21), (y 22, aI V 64 fy22), (y 0, .inr (9, [.ref (y 1), .int py0_1, .ref (y 2), .ref (y 10), .ref (y 19), .ref (y 25), .ref (y 26), .ref (y 30), .ref (y 31), .ref (y 32), o10, o11, .int py0_12, .int py0_13, .int py0_14])), (y 2, .inr (1, [.int py2_0, .int py2_1, .int py2_2, .int py2_3, .int py2_4, .int py2_5, .ref (y 3), .ref (y 4), .ref (y 5), .ref (y 6), .ref (y 7), .ref (y 8), .ref (y 9), .int py2_13, .int py2_14, .int py2_15, .int py2_16, .int py2_17]))] H := hP
        have hD : va_D A [(y 3, aI V 4 fy3), (y 9, aI V 900 fy9), (y 19, .inr (4, [.ref (y 2), .ref (y 20), .ref (y 21), .ref (y 22), .ref (y 23), .ref (y 24)])), (y 20, aI V 2000 fy20), (y 21, aI V 6 fy21), (y 22, aI V 64 fy22), (y 0, .inr (9, [.ref (y 1), .int py0_1, .ref (y 2), .ref (y 10), .ref (y 19), .ref (y 25), .ref (y 26), .ref (y 30), .ref (y 31), .ref (y 32), o10, o11, .int py0_12, .int py0_13, .int py0_14])), (y 2, .inr (1, [.int py2_0, .int py2_1, .int py2_2, .int py2_3, .int py2_4, .int py2_5, .ref (y 3), .ref (y 4), .ref (y 5), .ref (y 6), .ref (y 7), .ref (y 8), .ref (y 9), .int py2_13, .int py2_14, .int py2_15, .int py2_16, .int py2_17]))] := hD
        refine lv_if_ne (tgt := 78) hx hb dX9_tryDeed_73 (by decide) (fun c_29 => ?_) (fun c_29 => ?_)
        · have b_30 : iv 1 1 r_28 := iv_n0 c_29 br_28 (iv_c (0 : Int32) (a := 0) (b := 0) (by decide)) (by decide)
          refine lv_aload_n hx hb dX9_tryDeed_78 rfl (lv_at hl 0 rfl) ?_
          refine lv_aload_n hx hb dX9_tryDeed_79 rfl (lv_at hl 0 rfl) ?_
          refine va_get (ci := 9) (v := .ref (y 19)) (C := RX9) (T := TX9) (N := 15) hx hb hg inX9 hown hK hP 6 rfl rfl 4 (by decide) (hg _ q_2_40) (fun _ h9 => h9) rfl dX9_tryDeed_80 ?_
          refine lv_aload_n hx hb dX9_tryDeed_83 rfl (lv_at hl 0 rfl) ?_
          refine va_get (ci := 9) (v := .int py0_12) (C := RX9) (T := TX9) (N := 15) hx hb hg inX9 hown hK hP 6 rfl rfl 12 (by decide) (hg _ q_2_48) (fun _ h9 => h9) rfl dX9_tryDeed_84 ?_
          refine lv_aload_n hx hb dX9_tryDeed_87 rfl (lv_at hl 0 rfl) ?_
          refine va_get (ci := 9) (v := .int py0_13) (C := RX9) (T := TX9) (N := 15) hx hb hg inX9 hown hK hP 6 rfl rfl 13 (by decide) (hg _ q_2_49) (fun _ h9 => h9) rfl dX9_tryDeed_88 ?_
          refine lv_lload_n hx hb dX9_tryDeed_91 rfl (lv_at hl 1 rfl) ?_
          refine lv_l2i hx hb dX9_tryDeed_92 rfl ?_
          refine lv_topi (fun x_31 ex_31 => ?_)
          refine jnI (wr := [(y 0, .inr (9, [.ref (y 1), .int py0_1, .ref (y 2), .ref (y 10), .ref (y 19), .ref (y 25), .ref (y 26), .ref (y 30), .ref (y 31), .ref (y 32), o10, o11, .int py0_12, .int py0_13, .int py0_14]))]) (rnV (rest := [.ref (y 0)]) ⟨hx, hb, hml, hown, hg⟩ (k_X4_behind_0 l V y py0_12 py0_13 x_31 fy3 fy9 fy20 fy21 fy22 py2_0 py2_1 py2_2 py2_3 py2_4 py2_5 py2_13 py2_14 py2_15 py2_16 py2_17 bpy2_1 bpy2_2 bpy2_3 bpy2_13 bpy2_14 bpy2_15 bpy2_16 bpy2_17) mt_X4_behind q_3_145 ⟨Nat.le_of_ble_eq_true rfl, Nat.le_of_ble_eq_true rfl⟩ hK hP hD hS hA hE [0, 1, 2, 3, 4, 5, 7] rfl rfl 2 rfl rfl rfl rfl hl.1 rfl (Nat.le_of_ble_eq_true rfl) dX9_tryDeed_93 ⟨Nat.le_of_ble_eq_true rfl, Nat.le_of_ble_eq_true rfl⟩) hP hD hS hA [0, 1, 2, 3, 4, 5, 7] [6] rfl rfl rfl (by decide) (fun r_32 w H locs hw hP hD hS => ?_)
          obtain ⟨f_33, f_34, f_35, rfl⟩ := hw
          have hP : va_P V.1 vwCl [(y 0, .inr (9, [.ref (y 1), .int py0_1, .ref (y 2), .ref (y 10), .ref (y 19), .ref (y 25), .ref (y 26), .ref (y 30), .ref (y 31), .ref (y 32), o10, o11, .int py0_12, .int py0_13, .int py0_14])), (y 3, aI V 4 fy3), (y 9, aI V 900 fy9), (y 19, .inr (4, [.ref (y 2), .ref (y 20), .ref (y 21), .ref (y 22), .ref (y 23), .ref (y 24)])), (y 20, aI V 2000 f_33), (y 21, aI V 6 f_34), (y 22, aI V 64 f_35), (y 2, .inr (1, [.int py2_0, .int py2_1, .int py2_2, .int py2_3, .int py2_4, .int py2_5, .ref (y 3), .ref (y 4), .ref (y 5), .ref (y 6), .ref (y 7), .ref (y 8), .ref (y 9), .int py2_13, .int py2_14, .int py2_15, .int py2_16, .int py2_17]))] H := hP
          have hD : va_D A [(y 0, .inr (9, [.ref (y 1), .int py0_1, .ref (y 2), .ref (y 10), .ref (y 19), .ref (y 25), .ref (y 26), .ref (y 30), .ref (y 31), .ref (y 32), o10, o11, .int py0_12, .int py0_13, .int py0_14])), (y 3, aI V 4 fy3), (y 9, aI V 900 fy9), (y 19, .inr (4, [.ref (y 2), .ref (y 20), .ref (y 21), .ref (y 22), .ref (y 23), .ref (y 24)])), (y 20, aI V 2000 f_33), (y 21, aI V 6 f_34), (y 22, aI V 64 f_35), (y 2, .inr (1, [.int py2_0, .int py2_1, .int py2_2, .int py2_3, .int py2_4, .int py2_5, .ref (y 3), .ref (y 4), .ref (y 5), .ref (y 6), .ref (y 7), .ref (y 8), .ref (y 9), .int py2_13, .int py2_14, .int py2_15, .int py2_16, .int py2_17]))] := hD
          refine va_put (ci := 9) (v := .int r_32) (ty := .int) (C := RX9) (T := TX9) (N := 15) hx hb hg inX9 tyX9 tyX9_ok nmX9 hown hK hP hD hS 0 rfl rfl 12 (by decide) (hg _ q_2_48) (fun _ h9 => h9) rfl (by decide +kernel) rfl rfl (Nat.le_of_ble_eq_true rfl) dX9_tryDeed_96 (fun H locs hP hD hS => ?_)
          have hP : va_P V.1 vwCl [(y 0, .inr (9, [.ref (y 1), .int py0_1, .ref (y 2), .ref (y 10), .ref (y 19), .ref (y 25), .ref (y 26), .ref (y 30), .ref (y 31), .ref (y 32), o10, o11, .int r_32, .int py0_13, .int py0_14])), (y 3, aI V 4 fy3), (y 9, aI V 900 fy9), (y 19, .inr (4, [.ref (y 2), .ref (y 20), .ref (y 21), .ref (y 22), .ref (y 23), .ref (y 24)])), (y 20, aI V 2000 f_33), (y 21, aI V 6 f_34), (y 22, aI V 64 f_35), (y 2, .inr (1, [.int py2_0, .int py2_1, .int py2_2, .int py2_3, .int py2_4, .int py2_5, .ref (y 3), .ref (y 4), .ref (y 5), .ref (y 6), .ref (y 7), .ref (y 8), .ref (y 9), .int py2_13, .int py2_14, .int py2_15, .int py2_16, .int py2_17]))] H := hP
          have hD : va_D A [(y 0, .inr (9, [.ref (y 1), .int py0_1, .ref (y 2), .ref (y 10), .ref (y 19), .ref (y 25), .ref (y 26), .ref (y 30), .ref (y 31), .ref (y 32), o10, o11, .int r_32, .int py0_13, .int py0_14])), (y 3, aI V 4 fy3), (y 9, aI V 900 fy9), (y 19, .inr (4, [.ref (y 2), .ref (y 20), .ref (y 21), .ref (y 22), .ref (y 23), .ref (y 24)])), (y 20, aI V 2000 f_33), (y 21, aI V 6 f_34), (y 22, aI V 64 f_35), (y 2, .inr (1, [.int py2_0, .int py2_1, .int py2_2, .int py2_3, .int py2_4, .int py2_5, .ref (y 3), .ref (y 4), .ref (y 5), .ref (y 6), .ref (y 7), .ref (y 8), .ref (y 9), .int py2_13, .int py2_14, .int py2_15, .int py2_16, .int py2_17]))] := hD
          refine lv_aload_n hx hb dX9_tryDeed_99 rfl (lv_at hl 0 rfl) ?_
          refine lv_dup hx hb dX9_tryDeed_100 rfl ?_
          refine va_get (ci := 9) (v := .int py0_14) (C := RX9) (T := TX9) (N := 15) hx hb hg inX9 hown hK hP 0 rfl rfl 14 (by decide) (hg _ q_2_50) (fun _ h9 => h9) rfl dX9_tryDeed_101 ?_
          refine lv_iconst (v := 1) hx hb dX9_tryDeed_104 (by decide) ?_
          refine lv_iadd hx hb dX9_tryDeed_105 ?_
          refine lv_topi (fun x_36 ex_36 => ?_)
          refine va_put (ci := 9) (v := .int x_36) (ty := .int) (C := RX9) (T := TX9) (N := 15) hx hb hg inX9 tyX9 tyX9_ok nmX9 hown hK hP hD hS 0 rfl rfl 14 (by decide) (hg _ q_2_50) (fun _ h9 => h9) rfl (by decide +kernel) rfl rfl (Nat.le_of_ble_eq_true rfl) dX9_tryDeed_106 (fun H locs hP hD hS => ?_)
          have hP : va_P V.1 vwCl [(y 0, .inr (9, [.ref (y 1), .int py0_1, .ref (y 2), .ref (y 10), .ref (y 19), .ref (y 25), .ref (y 26), .ref (y 30), .ref (y 31), .ref (y 32), o10, o11, .int r_32, .int py0_13, .int x_36])), (y 3, aI V 4 fy3), (y 9, aI V 900 fy9), (y 19, .inr (4, [.ref (y 2), .ref (y 20), .ref (y 21), .ref (y 22), .ref (y 23), .ref (y 24)])), (y 20, aI V 2000 f_33), (y 21, aI V 6 f_34), (y 22, aI V 64 f_35), (y 2, .inr (1, [.int py2_0, .int py2_1, .int py2_2, .int py2_3, .int py2_4, .int py2_5, .ref (y 3), .ref (y 4), .ref (y 5), .ref (y 6), .ref (y 7), .ref (y 8), .ref (y 9), .int py2_13, .int py2_14, .int py2_15, .int py2_16, .int py2_17]))] H := hP
          have hD : va_D A [(y 0, .inr (9, [.ref (y 1), .int py0_1, .ref (y 2), .ref (y 10), .ref (y 19), .ref (y 25), .ref (y 26), .ref (y 30), .ref (y 31), .ref (y 32), o10, o11, .int r_32, .int py0_13, .int x_36])), (y 3, aI V 4 fy3), (y 9, aI V 900 fy9), (y 19, .inr (4, [.ref (y 2), .ref (y 20), .ref (y 21), .ref (y 22), .ref (y 23), .ref (y 24)])), (y 20, aI V 2000 f_33), (y 21, aI V 6 f_34), (y 22, aI V 64 f_35), (y 2, .inr (1, [.int py2_0, .int py2_1, .int py2_2, .int py2_3, .int py2_4, .int py2_5, .ref (y 3), .ref (y 4), .ref (y 5), .ref (y 6), .ref (y 7), .ref (y 8), .ref (y 9), .int py2_13, .int py2_14, .int py2_15, .int py2_16, .int py2_17]))] := hD
          refine lv_iconst (v := 0) hx hb dX9_tryDeed_109 (by decide) ?_
          have hP := subP (ws' := [(y 3, aI V 4 fy3), (y 9, aI V 900 fy9), (y 19, .inr (4, [.ref (y 2), .ref (y 20), .ref (y 21), .ref (y 22), .ref (y 23), .ref (y 24)])), (y 20, aI V 2000 f_33), (y 21, aI V 6 f_34), (y 22, aI V 64 f_35), (y 0, .inr (9, [.ref (y 1), .int py0_1, .ref (y 2), .ref (y 10), .ref (y 19), .ref (y 25), .ref (y 26), .ref (y 30), .ref (y 31), .ref (y 32), o10, o11, .int r_32, .int py0_13, .int x_36])), (y 2, .inr (1, [.int py2_0, .int py2_1, .int py2_2, .int py2_3, .int py2_4, .int py2_5, .ref (y 3), .ref (y 4), .ref (y 5), .ref (y 6), .ref (y 7), .ref (y 8), .ref (y 9), .int py2_13, .int py2_14, .int py2_15, .int py2_16, .int py2_17]))]) hP [1, 2, 3, 4, 5, 6, 0, 7] rfl
          have hD := hD.sub (ws' := [(y 3, aI V 4 fy3), (y 9, aI V 900 fy9), (y 19, .inr (4, [.ref (y 2), .ref (y 20), .ref (y 21), .ref (y 22), .ref (y 23), .ref (y 24)])), (y 20, aI V 2000 f_33), (y 21, aI V 6 f_34), (y 22, aI V 64 f_35), (y 0, .inr (9, [.ref (y 1), .int py0_1, .ref (y 2), .ref (y 10), .ref (y 19), .ref (y 25), .ref (y 26), .ref (y 30), .ref (y 31), .ref (y 32), o10, o11, .int r_32, .int py0_13, .int x_36])), (y 2, .inr (1, [.int py2_0, .int py2_1, .int py2_2, .int py2_3, .int py2_4, .int py2_5, .ref (y 3), .ref (y 4), .ref (y 5), .ref (y 6), .ref (y 7), .ref (y 8), .ref (y 9), .int py2_13, .int py2_14, .int py2_15, .int py2_16, .int py2_17]))]) [1, 2, 3, 4, 5, 6, 0, 7] rfl rfl
          exact fiI hx hb hr hlk hK hP hD hS dX9_tryDeed_110 (Nat.le_of_ble_eq_true rfl) (Nat.le_of_ble_eq_true rfl) (⟨f_33, f_34, f_35, r_32, py0_13, x_36, (iv_c (0 : Int32) (by decide)), rfl⟩)
        · have b_37 : iv 0 0 r_28 := iv_q c_29 (iv_c (0 : Int32) (a := 0) (b := 0) (by decide))
          refine lv_iconst (v := 1) hx hb dX9_tryDeed_76 (by decide) ?_
          exact fiI hx hb hr hlk hK hP hD hS dX9_tryDeed_77 (Nat.le_of_ble_eq_true rfl) (Nat.le_of_ble_eq_true rfl) (⟨fy20, fy21, fy22, py0_12, py0_13, py0_14, (iv_c (1 : Int32) (by decide)), rfl⟩)
      · refine lv_lload_n hx hb dX9_tryDeed_49 rfl (lv_at hl 1 rfl) ?_
        refine lv_ldc2 (v := 29) hx hb hown (hg _ q_3_200) dX9_tryDeed_50 ?_
        refine W.lcmp hx hb dX9_tryDeed_53 ?_
        refine lv_if_gt (tgt := 68) hx hb dX9_tryDeed_54 (by decide) (fun _ => ?_) (fun _ => ?_)
        · refine lv_aload_n hx hb dX9_tryDeed_68 rfl (lv_at hl 0 rfl) ?_
          refine lv_lload_n hx hb dX9_tryDeed_69 rfl (lv_at hl 1 rfl) ?_
          refine jnI (wr := [(y 3, aI V 4 fy3), (y 9, aI V 900 fy9), (y 19, .inr (4, [.ref (y 2), .ref (y 20), .ref (y 21), .ref (y 22), .ref (y 23), .ref (y 24)])), (y 20, aI V 2000 fy20), (y 21, aI V 6 fy21), (y 22, aI V 64 fy22)]) (rnV (rest := []) ⟨hx, hb, hml, hown, hg⟩ (k_X9_isNight_0 l V y k1 py0_1 o10 o11 py0_12 py0_13 py0_14 py2_0 py2_1 py2_2 py2_3 py2_4 py2_5 py2_13 py2_14 py2_15 py2_16 py2_17 bpy0_1 bpy2_1 bpy2_2 bpy2_3 bpy2_13 bpy2_14 bpy2_15 bpy2_16 bpy2_17) mt_X9_isNight q_3_141 ⟨Nat.le_of_ble_eq_true rfl, Nat.le_of_ble_eq_true rfl⟩ hK hP hD hS hA hE [6, 7] rfl rfl 6 rfl rfl rfl rfl hl.1 rfl (Nat.le_of_ble_eq_true rfl) dX9_tryDeed_70 ⟨Nat.le_of_ble_eq_true rfl, Nat.le_of_ble_eq_true rfl⟩) hP hD hS hA [6, 7] [0, 1, 2, 3, 4, 5] rfl rfl rfl (by decide) (fun r_39 w H locs hw hP hD hS => ?_)
          obtain ⟨br_39, rfl⟩ := hw
          have hP : va_P V.1 vwCl [(y 3, aI V 4 fy3), (y 9, aI V 900 fy9), (y 19, .inr (4, [.ref (y 2), .ref (y 20), .ref (y 21), .ref (y 22), .ref (y 23), .ref (y 24)])), (y 20, aI V 2000 fy20), (y 21, aI V 6 fy21), (y 22, aI V 64 fy22), (y 0, .inr (9, [.ref (y 1), .int py0_1, .ref (y 2), .ref (y 10), .ref (y 19), .ref (y 25), .ref (y 26), .ref (y 30), .ref (y 31), .ref (y 32), o10, o11, .int py0_12, .int py0_13, .int py0_14])), (y 2, .inr (1, [.int py2_0, .int py2_1, .int py2_2, .int py2_3, .int py2_4, .int py2_5, .ref (y 3), .ref (y 4), .ref (y 5), .ref (y 6), .ref (y 7), .ref (y 8), .ref (y 9), .int py2_13, .int py2_14, .int py2_15, .int py2_16, .int py2_17]))] H := hP
          have hD : va_D A [(y 3, aI V 4 fy3), (y 9, aI V 900 fy9), (y 19, .inr (4, [.ref (y 2), .ref (y 20), .ref (y 21), .ref (y 22), .ref (y 23), .ref (y 24)])), (y 20, aI V 2000 fy20), (y 21, aI V 6 fy21), (y 22, aI V 64 fy22), (y 0, .inr (9, [.ref (y 1), .int py0_1, .ref (y 2), .ref (y 10), .ref (y 19), .ref (y 25), .ref (y 26), .ref (y 30), .ref (y 31), .ref (y 32), o10, o11, .int py0_12, .int py0_13, .int py0_14])), (y 2, .inr (1, [.int py2_0, .int py2_1, .int py2_2, .int py2_3, .int py2_4, .int py2_5, .ref (y 3), .ref (y 4), .ref (y 5), .ref (y 6), .ref (y 7), .ref (y 8), .ref (y 9), .int py2_13, .int py2_14, .int py2_15, .int py2_16, .int py2_17]))] := hD
          refine lv_if_ne (tgt := 78) hx hb dX9_tryDeed_73 (by decide) (fun c_40 => ?_) (fun c_40 => ?_)
          · have b_41 : iv 1 1 r_39 := iv_n0 c_40 br_39 (iv_c (0 : Int32) (a := 0) (b := 0) (by decide)) (by decide)
            refine lv_aload_n hx hb dX9_tryDeed_78 rfl (lv_at hl 0 rfl) ?_
            refine lv_aload_n hx hb dX9_tryDeed_79 rfl (lv_at hl 0 rfl) ?_
            refine va_get (ci := 9) (v := .ref (y 19)) (C := RX9) (T := TX9) (N := 15) hx hb hg inX9 hown hK hP 6 rfl rfl 4 (by decide) (hg _ q_2_40) (fun _ h9 => h9) rfl dX9_tryDeed_80 ?_
            refine lv_aload_n hx hb dX9_tryDeed_83 rfl (lv_at hl 0 rfl) ?_
            refine va_get (ci := 9) (v := .int py0_12) (C := RX9) (T := TX9) (N := 15) hx hb hg inX9 hown hK hP 6 rfl rfl 12 (by decide) (hg _ q_2_48) (fun _ h9 => h9) rfl dX9_tryDeed_84 ?_
            refine lv_aload_n hx hb dX9_tryDeed_87 rfl (lv_at hl 0 rfl) ?_
            refine va_get (ci := 9) (v := .int py0_13) (C := RX9) (T := TX9) (N := 15) hx hb hg inX9 hown hK hP 6 rfl rfl 13 (by decide) (hg _ q_2_49) (fun _ h9 => h9) rfl dX9_tryDeed_88 ?_
            refine lv_lload_n hx hb dX9_tryDeed_91 rfl (lv_at hl 1 rfl) ?_
            refine lv_l2i hx hb dX9_tryDeed_92 rfl ?_
            refine lv_topi (fun x_42 ex_42 => ?_)
            refine jnI (wr := [(y 0, .inr (9, [.ref (y 1), .int py0_1, .ref (y 2), .ref (y 10), .ref (y 19), .ref (y 25), .ref (y 26), .ref (y 30), .ref (y 31), .ref (y 32), o10, o11, .int py0_12, .int py0_13, .int py0_14]))]) (rnV (rest := [.ref (y 0)]) ⟨hx, hb, hml, hown, hg⟩ (k_X4_behind_0 l V y py0_12 py0_13 x_42 fy3 fy9 fy20 fy21 fy22 py2_0 py2_1 py2_2 py2_3 py2_4 py2_5 py2_13 py2_14 py2_15 py2_16 py2_17 bpy2_1 bpy2_2 bpy2_3 bpy2_13 bpy2_14 bpy2_15 bpy2_16 bpy2_17) mt_X4_behind q_3_145 ⟨Nat.le_of_ble_eq_true rfl, Nat.le_of_ble_eq_true rfl⟩ hK hP hD hS hA hE [0, 1, 2, 3, 4, 5, 7] rfl rfl 2 rfl rfl rfl rfl hl.1 rfl (Nat.le_of_ble_eq_true rfl) dX9_tryDeed_93 ⟨Nat.le_of_ble_eq_true rfl, Nat.le_of_ble_eq_true rfl⟩) hP hD hS hA [0, 1, 2, 3, 4, 5, 7] [6] rfl rfl rfl (by decide) (fun r_43 w H locs hw hP hD hS => ?_)
            obtain ⟨f_44, f_45, f_46, rfl⟩ := hw
            have hP : va_P V.1 vwCl [(y 0, .inr (9, [.ref (y 1), .int py0_1, .ref (y 2), .ref (y 10), .ref (y 19), .ref (y 25), .ref (y 26), .ref (y 30), .ref (y 31), .ref (y 32), o10, o11, .int py0_12, .int py0_13, .int py0_14])), (y 3, aI V 4 fy3), (y 9, aI V 900 fy9), (y 19, .inr (4, [.ref (y 2), .ref (y 20), .ref (y 21), .ref (y 22), .ref (y 23), .ref (y 24)])), (y 20, aI V 2000 f_44), (y 21, aI V 6 f_45), (y 22, aI V 64 f_46), (y 2, .inr (1, [.int py2_0, .int py2_1, .int py2_2, .int py2_3, .int py2_4, .int py2_5, .ref (y 3), .ref (y 4), .ref (y 5), .ref (y 6), .ref (y 7), .ref (y 8), .ref (y 9), .int py2_13, .int py2_14, .int py2_15, .int py2_16, .int py2_17]))] H := hP
            have hD : va_D A [(y 0, .inr (9, [.ref (y 1), .int py0_1, .ref (y 2), .ref (y 10), .ref (y 19), .ref (y 25), .ref (y 26), .ref (y 30), .ref (y 31), .ref (y 32), o10, o11, .int py0_12, .int py0_13, .int py0_14])), (y 3, aI V 4 fy3), (y 9, aI V 900 fy9), (y 19, .inr (4, [.ref (y 2), .ref (y 20), .ref (y 21), .ref (y 22), .ref (y 23), .ref (y 24)])), (y 20, aI V 2000 f_44), (y 21, aI V 6 f_45), (y 22, aI V 64 f_46), (y 2, .inr (1, [.int py2_0, .int py2_1, .int py2_2, .int py2_3, .int py2_4, .int py2_5, .ref (y 3), .ref (y 4), .ref (y 5), .ref (y 6), .ref (y 7), .ref (y 8), .ref (y 9), .int py2_13, .int py2_14, .int py2_15, .int py2_16, .int py2_17]))] := hD
            refine va_put (ci := 9) (v := .int r_43) (ty := .int) (C := RX9) (T := TX9) (N := 15) hx hb hg inX9 tyX9 tyX9_ok nmX9 hown hK hP hD hS 0 rfl rfl 12 (by decide) (hg _ q_2_48) (fun _ h9 => h9) rfl (by decide +kernel) rfl rfl (Nat.le_of_ble_eq_true rfl) dX9_tryDeed_96 (fun H locs hP hD hS => ?_)
            have hP : va_P V.1 vwCl [(y 0, .inr (9, [.ref (y 1), .int py0_1, .ref (y 2), .ref (y 10), .ref (y 19), .ref (y 25), .ref (y 26), .ref (y 30), .ref (y 31), .ref (y 32), o10, o11, .int r_43, .int py0_13, .int py0_14])), (y 3, aI V 4 fy3), (y 9, aI V 900 fy9), (y 19, .inr (4, [.ref (y 2), .ref (y 20), .ref (y 21), .ref (y 22), .ref (y 23), .ref (y 24)])), (y 20, aI V 2000 f_44), (y 21, aI V 6 f_45), (y 22, aI V 64 f_46), (y 2, .inr (1, [.int py2_0, .int py2_1, .int py2_2, .int py2_3, .int py2_4, .int py2_5, .ref (y 3), .ref (y 4), .ref (y 5), .ref (y 6), .ref (y 7), .ref (y 8), .ref (y 9), .int py2_13, .int py2_14, .int py2_15, .int py2_16, .int py2_17]))] H := hP
            have hD : va_D A [(y 0, .inr (9, [.ref (y 1), .int py0_1, .ref (y 2), .ref (y 10), .ref (y 19), .ref (y 25), .ref (y 26), .ref (y 30), .ref (y 31), .ref (y 32), o10, o11, .int r_43, .int py0_13, .int py0_14])), (y 3, aI V 4 fy3), (y 9, aI V 900 fy9), (y 19, .inr (4, [.ref (y 2), .ref (y 20), .ref (y 21), .ref (y 22), .ref (y 23), .ref (y 24)])), (y 20, aI V 2000 f_44), (y 21, aI V 6 f_45), (y 22, aI V 64 f_46), (y 2, .inr (1, [.int py2_0, .int py2_1, .int py2_2, .int py2_3, .int py2_4, .int py2_5, .ref (y 3), .ref (y 4), .ref (y 5), .ref (y 6), .ref (y 7), .ref (y 8), .ref (y 9), .int py2_13, .int py2_14, .int py2_15, .int py2_16, .int py2_17]))] := hD
            refine lv_aload_n hx hb dX9_tryDeed_99 rfl (lv_at hl 0 rfl) ?_
            refine lv_dup hx hb dX9_tryDeed_100 rfl ?_
            refine va_get (ci := 9) (v := .int py0_14) (C := RX9) (T := TX9) (N := 15) hx hb hg inX9 hown hK hP 0 rfl rfl 14 (by decide) (hg _ q_2_50) (fun _ h9 => h9) rfl dX9_tryDeed_101 ?_
            refine lv_iconst (v := 1) hx hb dX9_tryDeed_104 (by decide) ?_
            refine lv_iadd hx hb dX9_tryDeed_105 ?_
            refine lv_topi (fun x_47 ex_47 => ?_)
            refine va_put (ci := 9) (v := .int x_47) (ty := .int) (C := RX9) (T := TX9) (N := 15) hx hb hg inX9 tyX9 tyX9_ok nmX9 hown hK hP hD hS 0 rfl rfl 14 (by decide) (hg _ q_2_50) (fun _ h9 => h9) rfl (by decide +kernel) rfl rfl (Nat.le_of_ble_eq_true rfl) dX9_tryDeed_106 (fun H locs hP hD hS => ?_)
            have hP : va_P V.1 vwCl [(y 0, .inr (9, [.ref (y 1), .int py0_1, .ref (y 2), .ref (y 10), .ref (y 19), .ref (y 25), .ref (y 26), .ref (y 30), .ref (y 31), .ref (y 32), o10, o11, .int r_43, .int py0_13, .int x_47])), (y 3, aI V 4 fy3), (y 9, aI V 900 fy9), (y 19, .inr (4, [.ref (y 2), .ref (y 20), .ref (y 21), .ref (y 22), .ref (y 23), .ref (y 24)])), (y 20, aI V 2000 f_44), (y 21, aI V 6 f_45), (y 22, aI V 64 f_46), (y 2, .inr (1, [.int py2_0, .int py2_1, .int py2_2, .int py2_3, .int py2_4, .int py2_5, .ref (y 3), .ref (y 4), .ref (y 5), .ref (y 6), .ref (y 7), .ref (y 8), .ref (y 9), .int py2_13, .int py2_14, .int py2_15, .int py2_16, .int py2_17]))] H := hP
            have hD : va_D A [(y 0, .inr (9, [.ref (y 1), .int py0_1, .ref (y 2), .ref (y 10), .ref (y 19), .ref (y 25), .ref (y 26), .ref (y 30), .ref (y 31), .ref (y 32), o10, o11, .int r_43, .int py0_13, .int x_47])), (y 3, aI V 4 fy3), (y 9, aI V 900 fy9), (y 19, .inr (4, [.ref (y 2), .ref (y 20), .ref (y 21), .ref (y 22), .ref (y 23), .ref (y 24)])), (y 20, aI V 2000 f_44), (y 21, aI V 6 f_45), (y 22, aI V 64 f_46), (y 2, .inr (1, [.int py2_0, .int py2_1, .int py2_2, .int py2_3, .int py2_4, .int py2_5, .ref (y 3), .ref (y 4), .ref (y 5), .ref (y 6), .ref (y 7), .ref (y 8), .ref (y 9), .int py2_13, .int py2_14, .int py2_15, .int py2_16, .int py2_17]))] := hD
            refine lv_iconst (v := 0) hx hb dX9_tryDeed_109 (by decide) ?_
            have hP := subP (ws' := [(y 3, aI V 4 fy3), (y 9, aI V 900 fy9), (y 19, .inr (4, [.ref (y 2), .ref (y 20), .ref (y 21), .ref (y 22), .ref (y 23), .ref (y 24)])), (y 20, aI V 2000 f_44), (y 21, aI V 6 f_45), (y 22, aI V 64 f_46), (y 0, .inr (9, [.ref (y 1), .int py0_1, .ref (y 2), .ref (y 10), .ref (y 19), .ref (y 25), .ref (y 26), .ref (y 30), .ref (y 31), .ref (y 32), o10, o11, .int r_43, .int py0_13, .int x_47])), (y 2, .inr (1, [.int py2_0, .int py2_1, .int py2_2, .int py2_3, .int py2_4, .int py2_5, .ref (y 3), .ref (y 4), .ref (y 5), .ref (y 6), .ref (y 7), .ref (y 8), .ref (y 9), .int py2_13, .int py2_14, .int py2_15, .int py2_16, .int py2_17]))]) hP [1, 2, 3, 4, 5, 6, 0, 7] rfl
            have hD := hD.sub (ws' := [(y 3, aI V 4 fy3), (y 9, aI V 900 fy9), (y 19, .inr (4, [.ref (y 2), .ref (y 20), .ref (y 21), .ref (y 22), .ref (y 23), .ref (y 24)])), (y 20, aI V 2000 f_44), (y 21, aI V 6 f_45), (y 22, aI V 64 f_46), (y 0, .inr (9, [.ref (y 1), .int py0_1, .ref (y 2), .ref (y 10), .ref (y 19), .ref (y 25), .ref (y 26), .ref (y 30), .ref (y 31), .ref (y 32), o10, o11, .int r_43, .int py0_13, .int x_47])), (y 2, .inr (1, [.int py2_0, .int py2_1, .int py2_2, .int py2_3, .int py2_4, .int py2_5, .ref (y 3), .ref (y 4), .ref (y 5), .ref (y 6), .ref (y 7), .ref (y 8), .ref (y 9), .int py2_13, .int py2_14, .int py2_15, .int py2_16, .int py2_17]))]) [1, 2, 3, 4, 5, 6, 0, 7] rfl rfl
            exact fiI hx hb hr hlk hK hP hD hS dX9_tryDeed_110 (Nat.le_of_ble_eq_true rfl) (Nat.le_of_ble_eq_true rfl) (⟨f_44, f_45, f_46, r_43, py0_13, x_47, (iv_c (0 : Int32) (by decide)), rfl⟩)
          · have b_48 : iv 0 0 r_39 := iv_q c_40 (iv_c (0 : Int32) (a := 0) (b := 0) (by decide))
            refine lv_iconst (v := 1) hx hb dX9_tryDeed_76 (by decide) ?_
            exact fiI hx hb hr hlk hK hP hD hS dX9_tryDeed_77 (Nat.le_of_ble_eq_true rfl) (Nat.le_of_ble_eq_true rfl) (⟨fy20, fy21, fy22, py0_12, py0_13, py0_14, (iv_c (1 : Int32) (by decide)), rfl⟩)
        · refine lv_aload_n hx hb dX9_tryDeed_57 rfl (lv_at hl 0 rfl) ?_
          refine lv_lload_n hx hb dX9_tryDeed_58 rfl (lv_at hl 1 rfl) ?_
          refine lv_l2i hx hb dX9_tryDeed_59 rfl ?_
          refine lv_topi (fun x_49 ex_49 => ?_)
          refine lv_bipush (v := 20) hx hb dX9_tryDeed_60 (by decide) ?_
          refine lv_isub hx hb dX9_tryDeed_62 ?_
          refine lv_topi (fun x_50 ex_50 => ?_)
          refine va_put (ci := 9) (v := .int x_50) (ty := .int) (C := RX9) (T := TX9) (N := 15) hx hb hg inX9 tyX9 tyX9_ok nmX9 hown hK hP hD hS 6 rfl rfl 13 (by decide) (hg _ q_2_49) (fun _ h9 => h9) rfl (by decide +kernel) rfl rfl (Nat.le_of_ble_eq_true rfl) dX9_tryDeed_63 (fun H locs hP hD hS => ?_)
          have hP : va_P V.1 vwCl [(y 3, aI V 4 fy3), (y 9, aI V 900 fy9), (y 19, .inr (4, [.ref (y 2), .ref (y 20), .ref (y 21), .ref (y 22), .ref (y 23), .ref (y 24)])), (y 20, aI V 2000 fy20), (y 21, aI V 6 fy21), (y 22, aI V 64 fy22), (y 0, .inr (9, [.ref (y 1), .int py0_1, .ref (y 2), .ref (y 10), .ref (y 19), .ref (y 25), .ref (y 26), .ref (y 30), .ref (y 31), .ref (y 32), o10, o11, .int py0_12, .int x_50, .int py0_14])), (y 2, .inr (1, [.int py2_0, .int py2_1, .int py2_2, .int py2_3, .int py2_4, .int py2_5, .ref (y 3), .ref (y 4), .ref (y 5), .ref (y 6), .ref (y 7), .ref (y 8), .ref (y 9), .int py2_13, .int py2_14, .int py2_15, .int py2_16, .int py2_17]))] H := hP
          have hD : va_D A [(y 3, aI V 4 fy3), (y 9, aI V 900 fy9), (y 19, .inr (4, [.ref (y 2), .ref (y 20), .ref (y 21), .ref (y 22), .ref (y 23), .ref (y 24)])), (y 20, aI V 2000 fy20), (y 21, aI V 6 fy21), (y 22, aI V 64 fy22), (y 0, .inr (9, [.ref (y 1), .int py0_1, .ref (y 2), .ref (y 10), .ref (y 19), .ref (y 25), .ref (y 26), .ref (y 30), .ref (y 31), .ref (y 32), o10, o11, .int py0_12, .int x_50, .int py0_14])), (y 2, .inr (1, [.int py2_0, .int py2_1, .int py2_2, .int py2_3, .int py2_4, .int py2_5, .ref (y 3), .ref (y 4), .ref (y 5), .ref (y 6), .ref (y 7), .ref (y 8), .ref (y 9), .int py2_13, .int py2_14, .int py2_15, .int py2_16, .int py2_17]))] := hD
          refine lv_iconst (v := 0) hx hb dX9_tryDeed_66 (by decide) ?_
          exact fiI hx hb hr hlk hK hP hD hS dX9_tryDeed_67 (Nat.le_of_ble_eq_true rfl) (Nat.le_of_ble_eq_true rfl) (⟨fy20, fy21, fy22, py0_12, x_50, py0_14, (iv_c (0 : Int32) (by decide)), rfl⟩)
    · refine lv_aload_n hx hb dX9_tryDeed_16 rfl (lv_at hl 0 rfl) ?_
      refine lv_lload_n hx hb dX9_tryDeed_17 rfl (lv_at hl 1 rfl) ?_
      refine lv_l2i hx hb dX9_tryDeed_18 rfl ?_
      refine lv_topi (fun x_51 ex_51 => ?_)
      refine lv_bipush (v := 10) hx hb dX9_tryDeed_19 (by decide) ?_
      refine lv_isub hx hb dX9_tryDeed_21 ?_
      refine lv_topi (fun x_52 ex_52 => ?_)
      refine jnI (wr := [(y 3, aI V 4 fy3), (y 9, aI V 900 fy9), (y 19, .inr (4, [.ref (y 2), .ref (y 20), .ref (y 21), .ref (y 22), .ref (y 23), .ref (y 24)])), (y 20, aI V 2000 fy20), (y 21, aI V 6 fy21), (y 22, aI V 64 fy22)]) (rnV (rest := []) ⟨hx, hb, hml, hown, hg⟩ (k_X9_whyNoStealing_0 l V y x_52 py0_1 o10 o11 py0_12 py0_13 py0_14 py2_0 py2_1 py2_2 py2_3 py2_4 py2_5 py2_13 py2_14 py2_15 py2_16 py2_17 bpy0_1 bpy2_1 bpy2_2 bpy2_3 bpy2_13 bpy2_14 bpy2_15 bpy2_16 bpy2_17) mt_X9_whyNoStealing q_3_191 ⟨Nat.le_of_ble_eq_true rfl, Nat.le_of_ble_eq_true rfl⟩ hK hP hD hS hA hE [6, 7] rfl rfl 6 rfl rfl rfl rfl hl.1 rfl (Nat.le_of_ble_eq_true rfl) dX9_tryDeed_22 ⟨Nat.le_of_ble_eq_true rfl, Nat.le_of_ble_eq_true rfl⟩) hP hD hS hA [6, 7] [0, 1, 2, 3, 4, 5] rfl rfl rfl (by decide) (fun r_53 w H locs hw hP hD hS => ?_)
      rcases hw with ⟨c_54, rfl, rfl⟩ | ⟨c_55, c_56, rfl, rfl⟩ | ⟨c_57, c_58, rfl, rfl⟩ | ⟨c_59, c_60, rfl, rfl⟩
      · have hP : va_P V.1 vwCl [(y 3, aI V 4 fy3), (y 9, aI V 900 fy9), (y 19, .inr (4, [.ref (y 2), .ref (y 20), .ref (y 21), .ref (y 22), .ref (y 23), .ref (y 24)])), (y 20, aI V 2000 fy20), (y 21, aI V 6 fy21), (y 22, aI V 64 fy22), (y 0, .inr (9, [.ref (y 1), .int py0_1, .ref (y 2), .ref (y 10), .ref (y 19), .ref (y 25), .ref (y 26), .ref (y 30), .ref (y 31), .ref (y 32), o10, o11, .int py0_12, .int py0_13, .int py0_14])), (y 2, .inr (1, [.int py2_0, .int py2_1, .int py2_2, .int py2_3, .int py2_4, .int py2_5, .ref (y 3), .ref (y 4), .ref (y 5), .ref (y 6), .ref (y 7), .ref (y 8), .ref (y 9), .int py2_13, .int py2_14, .int py2_15, .int py2_16, .int py2_17]))] H := hP
        have hD : va_D A [(y 3, aI V 4 fy3), (y 9, aI V 900 fy9), (y 19, .inr (4, [.ref (y 2), .ref (y 20), .ref (y 21), .ref (y 22), .ref (y 23), .ref (y 24)])), (y 20, aI V 2000 fy20), (y 21, aI V 6 fy21), (y 22, aI V 64 fy22), (y 0, .inr (9, [.ref (y 1), .int py0_1, .ref (y 2), .ref (y 10), .ref (y 19), .ref (y 25), .ref (y 26), .ref (y 30), .ref (y 31), .ref (y 32), o10, o11, .int py0_12, .int py0_13, .int py0_14])), (y 2, .inr (1, [.int py2_0, .int py2_1, .int py2_2, .int py2_3, .int py2_4, .int py2_5, .ref (y 3), .ref (y 4), .ref (y 5), .ref (y 6), .ref (y 7), .ref (y 8), .ref (y 9), .int py2_13, .int py2_14, .int py2_15, .int py2_16, .int py2_17]))] := hD
        have b_61 : iv (-2147483648) (-1) x_52 := iv_l1 c_54 (iv_top x_52) (iv_c (0 : Int32) (a := 0) (b := 0) (by decide)) (by decide)
        refine lv_istore_n (lv' := [(3, .int 1), (0, .ref (y 0)), (1, .long k1)]) hx hb dX9_tryDeed_25 rfl hl (by decide) rfl (fun ls hl => ?_)
        refine lv_iload_n hx hb dX9_tryDeed_26 rfl (lv_at hl 0 rfl) ?_
        refine lv_if_ne (tgt := 39) hx hb dX9_tryDeed_27 (by decide) (fun _ => ?_) (fun c_63 => absurd c_63 (by decide))
        refine lv_iload_n hx hb dX9_tryDeed_39 rfl (lv_at hl 0 rfl) ?_
        exact fiI hx hb hr hlk hK hP hD hS dX9_tryDeed_40 (Nat.le_of_ble_eq_true rfl) (Nat.le_of_ble_eq_true rfl) (⟨fy20, fy21, fy22, py0_12, py0_13, py0_14, (iv_c (1 : Int32) (by decide)), rfl⟩)
      · have hP : va_P V.1 vwCl [(y 3, aI V 4 fy3), (y 9, aI V 900 fy9), (y 19, .inr (4, [.ref (y 2), .ref (y 20), .ref (y 21), .ref (y 22), .ref (y 23), .ref (y 24)])), (y 20, aI V 2000 fy20), (y 21, aI V 6 fy21), (y 22, aI V 64 fy22), (y 0, .inr (9, [.ref (y 1), .int py0_1, .ref (y 2), .ref (y 10), .ref (y 19), .ref (y 25), .ref (y 26), .ref (y 30), .ref (y 31), .ref (y 32), o10, o11, .int py0_12, .int py0_13, .int py0_14])), (y 2, .inr (1, [.int py2_0, .int py2_1, .int py2_2, .int py2_3, .int py2_4, .int py2_5, .ref (y 3), .ref (y 4), .ref (y 5), .ref (y 6), .ref (y 7), .ref (y 8), .ref (y 9), .int py2_13, .int py2_14, .int py2_15, .int py2_16, .int py2_17]))] H := hP
        have hD : va_D A [(y 3, aI V 4 fy3), (y 9, aI V 900 fy9), (y 19, .inr (4, [.ref (y 2), .ref (y 20), .ref (y 21), .ref (y 22), .ref (y 23), .ref (y 24)])), (y 20, aI V 2000 fy20), (y 21, aI V 6 fy21), (y 22, aI V 64 fy22), (y 0, .inr (9, [.ref (y 1), .int py0_1, .ref (y 2), .ref (y 10), .ref (y 19), .ref (y 25), .ref (y 26), .ref (y 30), .ref (y 31), .ref (y 32), o10, o11, .int py0_12, .int py0_13, .int py0_14])), (y 2, .inr (1, [.int py2_0, .int py2_1, .int py2_2, .int py2_3, .int py2_4, .int py2_5, .ref (y 3), .ref (y 4), .ref (y 5), .ref (y 6), .ref (y 7), .ref (y 8), .ref (y 9), .int py2_13, .int py2_14, .int py2_15, .int py2_16, .int py2_17]))] := hD
        have b_64 : iv 0 2147483647 x_52 := iv_e2 (Int32.not_lt.mp c_55) (iv_c (0 : Int32) (a := 0) (b := 0) (by decide)) (iv_top x_52) (by decide)
        refine lv_istore_n (lv' := [(3, .int 1), (0, .ref (y 0)), (1, .long k1)]) hx hb dX9_tryDeed_25 rfl hl (by decide) rfl (fun ls hl => ?_)
        refine lv_iload_n hx hb dX9_tryDeed_26 rfl (lv_at hl 0 rfl) ?_
        refine lv_if_ne (tgt := 39) hx hb dX9_tryDeed_27 (by decide) (fun _ => ?_) (fun c_66 => absurd c_66 (by decide))
        refine lv_iload_n hx hb dX9_tryDeed_39 rfl (lv_at hl 0 rfl) ?_
        exact fiI hx hb hr hlk hK hP hD hS dX9_tryDeed_40 (Nat.le_of_ble_eq_true rfl) (Nat.le_of_ble_eq_true rfl) (⟨fy20, fy21, fy22, py0_12, py0_13, py0_14, (iv_c (1 : Int32) (by decide)), rfl⟩)
      · have hP : va_P V.1 vwCl [(y 3, aI V 4 fy3), (y 9, aI V 900 fy9), (y 19, .inr (4, [.ref (y 2), .ref (y 20), .ref (y 21), .ref (y 22), .ref (y 23), .ref (y 24)])), (y 20, aI V 2000 fy20), (y 21, aI V 6 fy21), (y 22, aI V 64 fy22), (y 0, .inr (9, [.ref (y 1), .int py0_1, .ref (y 2), .ref (y 10), .ref (y 19), .ref (y 25), .ref (y 26), .ref (y 30), .ref (y 31), .ref (y 32), o10, o11, .int py0_12, .int py0_13, .int py0_14])), (y 2, .inr (1, [.int py2_0, .int py2_1, .int py2_2, .int py2_3, .int py2_4, .int py2_5, .ref (y 3), .ref (y 4), .ref (y 5), .ref (y 6), .ref (y 7), .ref (y 8), .ref (y 9), .int py2_13, .int py2_14, .int py2_15, .int py2_16, .int py2_17]))] H := hP
        have hD : va_D A [(y 3, aI V 4 fy3), (y 9, aI V 900 fy9), (y 19, .inr (4, [.ref (y 2), .ref (y 20), .ref (y 21), .ref (y 22), .ref (y 23), .ref (y 24)])), (y 20, aI V 2000 fy20), (y 21, aI V 6 fy21), (y 22, aI V 64 fy22), (y 0, .inr (9, [.ref (y 1), .int py0_1, .ref (y 2), .ref (y 10), .ref (y 19), .ref (y 25), .ref (y 26), .ref (y 30), .ref (y 31), .ref (y 32), o10, o11, .int py0_12, .int py0_13, .int py0_14])), (y 2, .inr (1, [.int py2_0, .int py2_1, .int py2_2, .int py2_3, .int py2_4, .int py2_5, .ref (y 3), .ref (y 4), .ref (y 5), .ref (y 6), .ref (y 7), .ref (y 8), .ref (y 9), .int py2_13, .int py2_14, .int py2_15, .int py2_16, .int py2_17]))] := hD
        have b_67 : iv 0 2147483647 x_52 := iv_e2 (Int32.not_lt.mp c_57) (iv_c (0 : Int32) (a := 0) (b := 0) (by decide)) (iv_top x_52) (by decide)
        have b_68 : iv 0 3 x_52 := iv_l1 (Int32.not_le.mp c_58) b_67 bpy2_1 (by decide)
        have b_69 : iv 1 4 py2_1 := iv_l2 (Int32.not_le.mp c_58) b_67 bpy2_1 (by decide)
        refine lv_istore_n (lv' := [(3, .int 0), (0, .ref (y 0)), (1, .long k1)]) hx hb dX9_tryDeed_25 rfl hl (by decide) rfl (fun ls hl => ?_)
        refine lv_iload_n hx hb dX9_tryDeed_26 rfl (lv_at hl 0 rfl) ?_
        refine lv_if_ne (tgt := 39) hx hb dX9_tryDeed_27 (by decide) (fun c_71 => absurd c_71 (by decide)) (fun _ => ?_)
        refine lv_aload_n hx hb dX9_tryDeed_30 rfl (lv_at hl 1 rfl) ?_
        refine lv_lload_n hx hb dX9_tryDeed_31 rfl (lv_at hl 2 rfl) ?_
        refine lv_l2i hx hb dX9_tryDeed_32 rfl ?_
        refine tpi (y := x_51) ex_51.symm ?_
        refine lv_bipush (v := 10) hx hb dX9_tryDeed_33 (by decide) ?_
        refine lv_isub hx hb dX9_tryDeed_35 ?_
        refine tpi (y := x_52) ex_52.symm ?_
        refine jnV (wr := [(y 3, aI V 4 fy3), (y 9, aI V 900 fy9), (y 19, .inr (4, [.ref (y 2), .ref (y 20), .ref (y 21), .ref (y 22), .ref (y 23), .ref (y 24)])), (y 20, aI V 2000 fy20), (y 21, aI V 6 fy21), (y 22, aI V 64 fy22), (y 2, .inr (1, [.int py2_0, .int py2_1, .int py2_2, .int py2_3, .int py2_4, .int py2_5, .ref (y 3), .ref (y 4), .ref (y 5), .ref (y 6), .ref (y 7), .ref (y 8), .ref (y 9), .int py2_13, .int py2_14, .int py2_15, .int py2_16, .int py2_17]))]) (rnV (rest := []) ⟨hx, hb, hml, hown, hg⟩ (k_X9_takeByHand_0 l V y x_52 py0_1 o10 o11 py0_12 py0_13 py0_14 b_68 bpy0_1) mt_X9_takeByHand q_3_195 ⟨Nat.le_of_ble_eq_true rfl, Nat.le_of_ble_eq_true rfl⟩ hK hP hD hS hA hE [6] rfl rfl 6 rfl rfl rfl rfl hl.1 rfl (Nat.le_of_ble_eq_true rfl) dX9_tryDeed_36 ⟨Nat.le_of_ble_eq_true rfl, Nat.le_of_ble_eq_true rfl⟩) hP hD hS hA [6] [0, 1, 2, 3, 4, 5, 7] rfl rfl rfl (by decide) (fun  w H locs hw hP hD hS => ?_)
        obtain ⟨v_72, rfl⟩ := hw
        have hP : va_P V.1 vwCl [(y 3, aI V 4 fy3), (y 9, aI V 900 fy9), (y 19, .inr (4, [.ref (y 2), .ref (y 20), .ref (y 21), .ref (y 22), .ref (y 23), .ref (y 24)])), (y 20, aI V 2000 fy20), (y 21, aI V 6 fy21), (y 22, aI V 64 fy22), (y 2, .inr (1, [.int py2_0, .int py2_1, .int py2_2, .int py2_3, .int py2_4, .int py2_5, .ref (y 3), .ref (y 4), .ref (y 5), .ref (y 6), .ref (y 7), .ref (y 8), .ref (y 9), .int py2_13, .int py2_14, .int py2_15, .int py2_16, .int py2_17])), (y 0, .inr (9, [.ref (y 1), .int py0_1, .ref (y 2), .ref (y 10), .ref (y 19), .ref (y 25), .ref (y 26), .ref (y 30), .ref (y 31), .ref (y 32), o10, o11, .int v_72, .int py0_13, .int py0_14]))] H := hP
        have hD : va_D A [(y 3, aI V 4 fy3), (y 9, aI V 900 fy9), (y 19, .inr (4, [.ref (y 2), .ref (y 20), .ref (y 21), .ref (y 22), .ref (y 23), .ref (y 24)])), (y 20, aI V 2000 fy20), (y 21, aI V 6 fy21), (y 22, aI V 64 fy22), (y 2, .inr (1, [.int py2_0, .int py2_1, .int py2_2, .int py2_3, .int py2_4, .int py2_5, .ref (y 3), .ref (y 4), .ref (y 5), .ref (y 6), .ref (y 7), .ref (y 8), .ref (y 9), .int py2_13, .int py2_14, .int py2_15, .int py2_16, .int py2_17])), (y 0, .inr (9, [.ref (y 1), .int py0_1, .ref (y 2), .ref (y 10), .ref (y 19), .ref (y 25), .ref (y 26), .ref (y 30), .ref (y 31), .ref (y 32), o10, o11, .int v_72, .int py0_13, .int py0_14]))] := hD
        refine lv_iload_n hx hb dX9_tryDeed_39 rfl (lv_at hl 0 rfl) ?_
        have hP := subP (ws' := [(y 3, aI V 4 fy3), (y 9, aI V 900 fy9), (y 19, .inr (4, [.ref (y 2), .ref (y 20), .ref (y 21), .ref (y 22), .ref (y 23), .ref (y 24)])), (y 20, aI V 2000 fy20), (y 21, aI V 6 fy21), (y 22, aI V 64 fy22), (y 0, .inr (9, [.ref (y 1), .int py0_1, .ref (y 2), .ref (y 10), .ref (y 19), .ref (y 25), .ref (y 26), .ref (y 30), .ref (y 31), .ref (y 32), o10, o11, .int v_72, .int py0_13, .int py0_14])), (y 2, .inr (1, [.int py2_0, .int py2_1, .int py2_2, .int py2_3, .int py2_4, .int py2_5, .ref (y 3), .ref (y 4), .ref (y 5), .ref (y 6), .ref (y 7), .ref (y 8), .ref (y 9), .int py2_13, .int py2_14, .int py2_15, .int py2_16, .int py2_17]))]) hP [0, 1, 2, 3, 4, 5, 7, 6] rfl
        have hD := hD.sub (ws' := [(y 3, aI V 4 fy3), (y 9, aI V 900 fy9), (y 19, .inr (4, [.ref (y 2), .ref (y 20), .ref (y 21), .ref (y 22), .ref (y 23), .ref (y 24)])), (y 20, aI V 2000 fy20), (y 21, aI V 6 fy21), (y 22, aI V 64 fy22), (y 0, .inr (9, [.ref (y 1), .int py0_1, .ref (y 2), .ref (y 10), .ref (y 19), .ref (y 25), .ref (y 26), .ref (y 30), .ref (y 31), .ref (y 32), o10, o11, .int v_72, .int py0_13, .int py0_14])), (y 2, .inr (1, [.int py2_0, .int py2_1, .int py2_2, .int py2_3, .int py2_4, .int py2_5, .ref (y 3), .ref (y 4), .ref (y 5), .ref (y 6), .ref (y 7), .ref (y 8), .ref (y 9), .int py2_13, .int py2_14, .int py2_15, .int py2_16, .int py2_17]))]) [0, 1, 2, 3, 4, 5, 7, 6] rfl rfl
        exact fiI hx hb hr hlk hK hP hD hS dX9_tryDeed_40 (Nat.le_of_ble_eq_true rfl) (Nat.le_of_ble_eq_true rfl) (⟨fy20, fy21, fy22, v_72, py0_13, py0_14, (iv_c (0 : Int32) (by decide)), rfl⟩)
      · have hP : va_P V.1 vwCl [(y 3, aI V 4 fy3), (y 9, aI V 900 fy9), (y 19, .inr (4, [.ref (y 2), .ref (y 20), .ref (y 21), .ref (y 22), .ref (y 23), .ref (y 24)])), (y 20, aI V 2000 fy20), (y 21, aI V 6 fy21), (y 22, aI V 64 fy22), (y 0, .inr (9, [.ref (y 1), .int py0_1, .ref (y 2), .ref (y 10), .ref (y 19), .ref (y 25), .ref (y 26), .ref (y 30), .ref (y 31), .ref (y 32), o10, o11, .int py0_12, .int py0_13, .int py0_14])), (y 2, .inr (1, [.int py2_0, .int py2_1, .int py2_2, .int py2_3, .int py2_4, .int py2_5, .ref (y 3), .ref (y 4), .ref (y 5), .ref (y 6), .ref (y 7), .ref (y 8), .ref (y 9), .int py2_13, .int py2_14, .int py2_15, .int py2_16, .int py2_17]))] H := hP
        have hD : va_D A [(y 3, aI V 4 fy3), (y 9, aI V 900 fy9), (y 19, .inr (4, [.ref (y 2), .ref (y 20), .ref (y 21), .ref (y 22), .ref (y 23), .ref (y 24)])), (y 20, aI V 2000 fy20), (y 21, aI V 6 fy21), (y 22, aI V 64 fy22), (y 0, .inr (9, [.ref (y 1), .int py0_1, .ref (y 2), .ref (y 10), .ref (y 19), .ref (y 25), .ref (y 26), .ref (y 30), .ref (y 31), .ref (y 32), o10, o11, .int py0_12, .int py0_13, .int py0_14])), (y 2, .inr (1, [.int py2_0, .int py2_1, .int py2_2, .int py2_3, .int py2_4, .int py2_5, .ref (y 3), .ref (y 4), .ref (y 5), .ref (y 6), .ref (y 7), .ref (y 8), .ref (y 9), .int py2_13, .int py2_14, .int py2_15, .int py2_16, .int py2_17]))] := hD
        have b_73 : iv 0 2147483647 x_52 := iv_e2 (Int32.not_lt.mp c_59) (iv_c (0 : Int32) (a := 0) (b := 0) (by decide)) (iv_top x_52) (by decide)
        have b_74 : iv 0 3 x_52 := iv_l1 (Int32.not_le.mp c_60) b_73 bpy2_1 (by decide)
        have b_75 : iv 1 4 py2_1 := iv_l2 (Int32.not_le.mp c_60) b_73 bpy2_1 (by decide)
        refine lv_istore_n (lv' := [(3, .int 2), (0, .ref (y 0)), (1, .long k1)]) hx hb dX9_tryDeed_25 rfl hl (by decide) rfl (fun ls hl => ?_)
        refine lv_iload_n hx hb dX9_tryDeed_26 rfl (lv_at hl 0 rfl) ?_
        refine lv_if_ne (tgt := 39) hx hb dX9_tryDeed_27 (by decide) (fun _ => ?_) (fun c_77 => absurd c_77 (by decide))
        refine lv_iload_n hx hb dX9_tryDeed_39 rfl (lv_at hl 0 rfl) ?_
        exact fiI hx hb hr hlk hK hP hD hS dX9_tryDeed_40 (Nat.le_of_ble_eq_true rfl) (Nat.le_of_ble_eq_true rfl) (⟨fy20, fy21, fy22, py0_12, py0_13, py0_14, (iv_c (2 : Int32) (by decide)), rfl⟩)
theorem dX9_night_0 : decode cX9_night 0 = .ok (.aload_n 0, 1) := by decide +kernel
theorem dX9_night_1 : decode cX9_night 1 = .ok (.iload_n 1, 1) := by decide +kernel
theorem dX9_night_2 : decode cX9_night 2 = .ok (.i2l, 1) := by decide +kernel
theorem dX9_night_3 : decode cX9_night 3 = .ok (.invokevirtual 151, 3) := by decide +kernel
theorem dX9_night_6 : decode cX9_night 6 = .ok (.ifCond .ne 6, 3) := by decide +kernel
theorem dX9_night_12 : decode cX9_night 12 = .ok (.aload_n 0, 1) := by decide +kernel
theorem dX9_night_13 : decode cX9_night 13 = .ok (.getfield 48, 3) := by decide +kernel
theorem dX9_night_16 : decode cX9_night 16 = .ok (.aload_n 0, 1) := by decide +kernel
theorem dX9_night_17 : decode cX9_night 17 = .ok (.getfield 113, 3) := by decide +kernel
theorem dX9_night_20 : decode cX9_night 20 = .ok (.aload_n 0, 1) := by decide +kernel
theorem dX9_night_21 : decode cX9_night 21 = .ok (.getfield 116, 3) := by decide +kernel
theorem dX9_night_24 : decode cX9_night 24 = .ok (.aload_n 0, 1) := by decide +kernel
theorem dX9_night_25 : decode cX9_night 25 = .ok (.getfield 119, 3) := by decide +kernel
theorem q_3_180 : Cond.code yX5_keep prog_7_method_2_code 4 none ∈ gw := gw_3 (i := 180) (rfl) rfl
theorem q_3_178 : Cond.instanceMethod yX5_keep ∈ gw := gw_3 (i := 178) (by decide +kernel) rfl
theorem q_3_179 : Cond.selects "BeaconDelay$Past" yX5_keep yX5_keep ∈ gw := gw_3 (i := 179) (by decide +kernel) rfl
theorem mt_X5_keep : MtV yX5_keep cX5_keep 4 none 3 := ⟨⟨q_3_180, q_1_6, by decide +kernel, by decide +kernel, by decide +kernel⟩, q_3_178, q_3_179⟩
theorem q_3_177 : Cond.methodLink "BeaconDelay" 165 yX5_keep ∈ gw := gw_3 (i := 177) (by decide +kernel) rfl
theorem dX9_night_28 : decode cX9_night 28 = .ok (.invokevirtual 165, 3) := by decide +kernel
theorem dX9_night_31 : decode cX9_night 31 = .ok (.aload_n 0, 1) := by decide +kernel
theorem dX9_night_32 : decode cX9_night 32 = .ok (.iload_n 1, 1) := by decide +kernel
theorem dX9_night_33 : decode cX9_night 33 = .ok (.i2l, 1) := by decide +kernel
theorem q_3_188 : Cond.code yX9_tryDeed prog_1_method_26_code 4 (some FieldType.int) ∈ gw := gw_3 (i := 188) (rfl) rfl
theorem q_3_187 : Cond.instanceMethod yX9_tryDeed ∈ gw := gw_3 (i := 187) (by decide +kernel) rfl
theorem q_s_27 : Cond.selects "BeaconDelay" yX9_tryDeed yX9_tryDeed ∈ gw := gw_s (i := 27) (by decide +kernel) rfl
theorem mt_X9_tryDeed : MtV yX9_tryDeed cX9_tryDeed 4 (some .int) 1 := ⟨⟨q_3_188, q_1_1, by decide +kernel, by decide +kernel, by decide +kernel⟩, q_3_187, q_s_27⟩
theorem q_3_185 : Cond.methodLink "BeaconDelay" 169 yX9_tryDeed ∈ gw := gw_3 (i := 185) (by decide +kernel) rfl
theorem dX9_night_34 : decode cX9_night 34 = .ok (.invokevirtual 169, 3) := by decide +kernel
theorem dX9_night_37 : decode cX9_night 37 = .ok (.pop, 1) := by decide +kernel
theorem dX9_night_38 : decode cX9_night 38 = .ok (.aload_n 0, 1) := by decide +kernel
theorem dX9_night_39 : decode cX9_night 39 = .ok (.getfield 113, 3) := by decide +kernel
theorem dX9_night_42 : decode cX9_night 42 = .ok (.invokestatic 173, 3) := by decide +kernel
theorem dX9_night_45 : decode cX9_night 45 = .ok (.ireturn, 1) := by decide +kernel
theorem dX9_night_9 : decode cX9_night 9 = .ok (.bipush (-11), 2) := by decide +kernel
theorem dX9_night_11 : decode cX9_night 11 = .ok (.ireturn, 1) := by decide +kernel
set_option maxHeartbeats 4000000 in
set_option maxRecDepth 100000 in
theorem k_X9_night_0 (l : Launch) (V : GV) (y : Nat → Nat) (a1 : Int32) (py0_1 : Int32) (o10 : Value) (o11 : Value) (py0_12 : Int32) (py0_13 : Int32) (py0_14 : Int32) (py2_0 : Int32) (py2_1 : Int32) (py2_2 : Int32) (py2_3 : Int32) (py2_4 : Int32) (py2_5 : Int32) (py2_13 : Int32) (py2_14 : Int32) (py2_15 : Int32) (py2_16 : Int32) (py2_17 : Int32) (fy3 : Nat → Int32) (fy9 : Nat → Int32) (fy20 : Nat → Int32) (fy21 : Nat → Int32) (fy22 : Nat → Int32) (py26_3 : Int32) (fy27 : Nat → Int32) (fy28 : Nat → Int32) (fy29 : Nat → Int32) (bpy0_1 : iv 0 900 py0_1) (bpy2_1 : iv 0 4 py2_1) (bpy2_2 : iv 0 4 py2_2) (bpy2_3 : iv 0 8 py2_3) (bpy2_13 : iv 0 900 py2_13) (bpy2_14 : iv 0 900 py2_14) (bpy2_15 : iv 0 900 py2_15) (bpy2_16 : iv 0 900 py2_16) (bpy2_17 : iv 0 900 py2_17) (bpy26_3 : iv 0 10 py26_3) : Ct l V yX9_night (.code yX9_night cX9_night 2 (some .int)) 7 [.ref (y 0), .int a1] [(y 0, .inr (9, [.ref (y 1), .int py0_1, .ref (y 2), .ref (y 10), .ref (y 19), .ref (y 25), .ref (y 26), .ref (y 30), .ref (y 31), .ref (y 32), o10, o11, .int py0_12, .int py0_13, .int py0_14])), (y 2, .inr (1, [.int py2_0, .int py2_1, .int py2_2, .int py2_3, .int py2_4, .int py2_5, .ref (y 3), .ref (y 4), .ref (y 5), .ref (y 6), .ref (y 7), .ref (y 8), .ref (y 9), .int py2_13, .int py2_14, .int py2_15, .int py2_16, .int py2_17])), (y 3, aI V 4 fy3), (y 9, aI V 900 fy9), (y 19, .inr (4, [.ref (y 2), .ref (y 20), .ref (y 21), .ref (y 22), .ref (y 23), .ref (y 24)])), (y 20, aI V 2000 fy20), (y 21, aI V 6 fy21), (y 22, aI V 64 fy22), (y 26, .inr (5, [.ref (y 27), .ref (y 28), .ref (y 29), .int py26_3])), (y 27, aI V 10 fy27), (y 28, aI V 10 fy28), (y 29, aI V 10 fy29)] 0 0 (QI V (fun (r : Int32) (w : va_W) => ∃ (v0 : Int32) (v1 : Int32) (v2 : Int32) (g3 : Nat → Int32) (g4 : Nat → Int32) (g5 : Nat → Int32) (v6 : Int32) (g7 : Nat → Int32) (g8 : Nat → Int32) (g9 : Nat → Int32), iv 0 10 v6 ∧ w = [(y 0, .inr (9, [.ref (y 1), .int py0_1, .ref (y 2), .ref (y 10), .ref (y 19), .ref (y 25), .ref (y 26), .ref (y 30), .ref (y 31), .ref (y 32), o10, o11, .int v0, .int v1, .int v2])), (y 2, .inr (1, [.int py2_0, .int py2_1, .int py2_2, .int py2_3, .int py2_4, .int py2_5, .ref (y 3), .ref (y 4), .ref (y 5), .ref (y 6), .ref (y 7), .ref (y 8), .ref (y 9), .int py2_13, .int py2_14, .int py2_15, .int py2_16, .int py2_17])), (y 3, aI V 4 fy3), (y 9, aI V 900 fy9), (y 19, .inr (4, [.ref (y 2), .ref (y 20), .ref (y 21), .ref (y 22), .ref (y 23), .ref (y 24)])), (y 20, aI V 2000 g3), (y 21, aI V 6 g4), (y 22, aI V 64 g5), (y 26, .inr (5, [.ref (y 27), .ref (y 28), .ref (y 29), .int v6])), (y 27, aI V 10 g7), (y 28, aI V 10 g8), (y 29, aI V 10 g9)])) := by
  refine Ct.of (by decide) (Nat.le_of_ble_eq_true rfl) (fun p e s m below meth c A ls hx hb hr hml hown hlk hnm hg hP hK hD hE hA hS hl => ?_)
  have hl : lv_has ls 2 [(0, .ref (y 0)), (1, .int a1)] := hl
  refine lv_aload_n hx hb dX9_night_0 rfl (lv_at hl 0 rfl) ?_
  refine lv_iload_n hx hb dX9_night_1 rfl (lv_at hl 1 rfl) ?_
  refine lv_i2l hx hb dX9_night_2 rfl ?_
  refine lv_topl (fun j_1 ej_1 => ?_)
  refine jnI (wr := [(y 3, aI V 4 fy3), (y 9, aI V 900 fy9), (y 19, .inr (4, [.ref (y 2), .ref (y 20), .ref (y 21), .ref (y 22), .ref (y 23), .ref (y 24)])), (y 20, aI V 2000 fy20), (y 21, aI V 6 fy21), (y 22, aI V 64 fy22), (y 26, .inr (5, [.ref (y 27), .ref (y 28), .ref (y 29), .int py26_3])), (y 27, aI V 10 fy27), (y 28, aI V 10 fy28), (y 29, aI V 10 fy29)]) (rnV (rest := []) ⟨hx, hb, hml, hown, hg⟩ (k_X9_isNight_0 l V y j_1 py0_1 o10 o11 py0_12 py0_13 py0_14 py2_0 py2_1 py2_2 py2_3 py2_4 py2_5 py2_13 py2_14 py2_15 py2_16 py2_17 bpy0_1 bpy2_1 bpy2_2 bpy2_3 bpy2_13 bpy2_14 bpy2_15 bpy2_16 bpy2_17) mt_X9_isNight q_3_141 ⟨Nat.le_of_ble_eq_true rfl, Nat.le_of_ble_eq_true rfl⟩ hK hP hD hS hA hE [0, 1] rfl rfl 0 rfl rfl rfl rfl hl.1 rfl (Nat.le_of_ble_eq_true rfl) dX9_night_3 ⟨Nat.le_of_ble_eq_true rfl, Nat.le_of_ble_eq_true rfl⟩) hP hD hS hA [0, 1] [2, 3, 4, 5, 6, 7, 8, 9, 10, 11] rfl rfl rfl (by decide) (fun r_2 w H locs hw hP hD hS => ?_)
  obtain ⟨br_2, rfl⟩ := hw
  have hP : va_P V.1 vwCl [(y 3, aI V 4 fy3), (y 9, aI V 900 fy9), (y 19, .inr (4, [.ref (y 2), .ref (y 20), .ref (y 21), .ref (y 22), .ref (y 23), .ref (y 24)])), (y 20, aI V 2000 fy20), (y 21, aI V 6 fy21), (y 22, aI V 64 fy22), (y 26, .inr (5, [.ref (y 27), .ref (y 28), .ref (y 29), .int py26_3])), (y 27, aI V 10 fy27), (y 28, aI V 10 fy28), (y 29, aI V 10 fy29), (y 0, .inr (9, [.ref (y 1), .int py0_1, .ref (y 2), .ref (y 10), .ref (y 19), .ref (y 25), .ref (y 26), .ref (y 30), .ref (y 31), .ref (y 32), o10, o11, .int py0_12, .int py0_13, .int py0_14])), (y 2, .inr (1, [.int py2_0, .int py2_1, .int py2_2, .int py2_3, .int py2_4, .int py2_5, .ref (y 3), .ref (y 4), .ref (y 5), .ref (y 6), .ref (y 7), .ref (y 8), .ref (y 9), .int py2_13, .int py2_14, .int py2_15, .int py2_16, .int py2_17]))] H := hP
  have hD : va_D A [(y 3, aI V 4 fy3), (y 9, aI V 900 fy9), (y 19, .inr (4, [.ref (y 2), .ref (y 20), .ref (y 21), .ref (y 22), .ref (y 23), .ref (y 24)])), (y 20, aI V 2000 fy20), (y 21, aI V 6 fy21), (y 22, aI V 64 fy22), (y 26, .inr (5, [.ref (y 27), .ref (y 28), .ref (y 29), .int py26_3])), (y 27, aI V 10 fy27), (y 28, aI V 10 fy28), (y 29, aI V 10 fy29), (y 0, .inr (9, [.ref (y 1), .int py0_1, .ref (y 2), .ref (y 10), .ref (y 19), .ref (y 25), .ref (y 26), .ref (y 30), .ref (y 31), .ref (y 32), o10, o11, .int py0_12, .int py0_13, .int py0_14])), (y 2, .inr (1, [.int py2_0, .int py2_1, .int py2_2, .int py2_3, .int py2_4, .int py2_5, .ref (y 3), .ref (y 4), .ref (y 5), .ref (y 6), .ref (y 7), .ref (y 8), .ref (y 9), .int py2_13, .int py2_14, .int py2_15, .int py2_16, .int py2_17]))] := hD
  refine lv_if_ne (tgt := 12) hx hb dX9_night_6 (by decide) (fun c_3 => ?_) (fun c_3 => ?_)
  · have b_4 : iv 1 1 r_2 := iv_n0 c_3 br_2 (iv_c (0 : Int32) (a := 0) (b := 0) (by decide)) (by decide)
    refine lv_aload_n hx hb dX9_night_12 rfl (lv_at hl 0 rfl) ?_
    refine va_get (ci := 9) (v := .ref (y 26)) (C := RX9) (T := TX9) (N := 15) hx hb hg inX9 hown hK hP 10 rfl rfl 6 (by decide) (hg _ q_2_42) (fun _ h9 => h9) rfl dX9_night_13 ?_
    refine lv_aload_n hx hb dX9_night_16 rfl (lv_at hl 0 rfl) ?_
    refine va_get (ci := 9) (v := .int py0_12) (C := RX9) (T := TX9) (N := 15) hx hb hg inX9 hown hK hP 10 rfl rfl 12 (by decide) (hg _ q_2_48) (fun _ h9 => h9) rfl dX9_night_17 ?_
    refine lv_aload_n hx hb dX9_night_20 rfl (lv_at hl 0 rfl) ?_
    refine va_get (ci := 9) (v := .int py0_13) (C := RX9) (T := TX9) (N := 15) hx hb hg inX9 hown hK hP 10 rfl rfl 13 (by decide) (hg _ q_2_49) (fun _ h9 => h9) rfl dX9_night_21 ?_
    refine lv_aload_n hx hb dX9_night_24 rfl (lv_at hl 0 rfl) ?_
    refine va_get (ci := 9) (v := .int py0_14) (C := RX9) (T := TX9) (N := 15) hx hb hg inX9 hown hK hP 10 rfl rfl 14 (by decide) (hg _ q_2_50) (fun _ h9 => h9) rfl dX9_night_25 ?_
    refine jnV (wr := [(y 3, aI V 4 fy3), (y 9, aI V 900 fy9), (y 19, .inr (4, [.ref (y 2), .ref (y 20), .ref (y 21), .ref (y 22), .ref (y 23), .ref (y 24)])), (y 20, aI V 2000 fy20), (y 21, aI V 6 fy21), (y 22, aI V 64 fy22), (y 0, .inr (9, [.ref (y 1), .int py0_1, .ref (y 2), .ref (y 10), .ref (y 19), .ref (y 25), .ref (y 26), .ref (y 30), .ref (y 31), .ref (y 32), o10, o11, .int py0_12, .int py0_13, .int py0_14])), (y 2, .inr (1, [.int py2_0, .int py2_1, .int py2_2, .int py2_3, .int py2_4, .int py2_5, .ref (y 3), .ref (y 4), .ref (y 5), .ref (y 6), .ref (y 7), .ref (y 8), .ref (y 9), .int py2_13, .int py2_14, .int py2_15, .int py2_16, .int py2_17]))]) (rnV (rest := []) ⟨hx, hb, hml, hown, hg⟩ (k_X5_keep_0 l V y py0_12 py0_13 py0_14 py26_3 fy27 fy28 fy29 bpy26_3) mt_X5_keep q_3_177 ⟨Nat.le_of_ble_eq_true rfl, Nat.le_of_ble_eq_true rfl⟩ hK hP hD hS hA hE [6, 7, 8, 9] rfl rfl 6 rfl rfl rfl rfl hl.1 rfl (Nat.le_of_ble_eq_true rfl) dX9_night_28 ⟨Nat.le_of_ble_eq_true rfl, Nat.le_of_ble_eq_true rfl⟩) hP hD hS hA [6, 7, 8, 9] [0, 1, 2, 3, 4, 5, 10, 11] rfl rfl rfl (by decide) (fun  w H locs hw hP hD hS => ?_)
    obtain ⟨v_5, f_6, f_7, f_8, bv_5, rfl⟩ := hw
    have hP : va_P V.1 vwCl [(y 3, aI V 4 fy3), (y 9, aI V 900 fy9), (y 19, .inr (4, [.ref (y 2), .ref (y 20), .ref (y 21), .ref (y 22), .ref (y 23), .ref (y 24)])), (y 20, aI V 2000 fy20), (y 21, aI V 6 fy21), (y 22, aI V 64 fy22), (y 0, .inr (9, [.ref (y 1), .int py0_1, .ref (y 2), .ref (y 10), .ref (y 19), .ref (y 25), .ref (y 26), .ref (y 30), .ref (y 31), .ref (y 32), o10, o11, .int py0_12, .int py0_13, .int py0_14])), (y 2, .inr (1, [.int py2_0, .int py2_1, .int py2_2, .int py2_3, .int py2_4, .int py2_5, .ref (y 3), .ref (y 4), .ref (y 5), .ref (y 6), .ref (y 7), .ref (y 8), .ref (y 9), .int py2_13, .int py2_14, .int py2_15, .int py2_16, .int py2_17])), (y 26, .inr (5, [.ref (y 27), .ref (y 28), .ref (y 29), .int v_5])), (y 27, aI V 10 f_6), (y 28, aI V 10 f_7), (y 29, aI V 10 f_8)] H := hP
    have hD : va_D A [(y 3, aI V 4 fy3), (y 9, aI V 900 fy9), (y 19, .inr (4, [.ref (y 2), .ref (y 20), .ref (y 21), .ref (y 22), .ref (y 23), .ref (y 24)])), (y 20, aI V 2000 fy20), (y 21, aI V 6 fy21), (y 22, aI V 64 fy22), (y 0, .inr (9, [.ref (y 1), .int py0_1, .ref (y 2), .ref (y 10), .ref (y 19), .ref (y 25), .ref (y 26), .ref (y 30), .ref (y 31), .ref (y 32), o10, o11, .int py0_12, .int py0_13, .int py0_14])), (y 2, .inr (1, [.int py2_0, .int py2_1, .int py2_2, .int py2_3, .int py2_4, .int py2_5, .ref (y 3), .ref (y 4), .ref (y 5), .ref (y 6), .ref (y 7), .ref (y 8), .ref (y 9), .int py2_13, .int py2_14, .int py2_15, .int py2_16, .int py2_17])), (y 26, .inr (5, [.ref (y 27), .ref (y 28), .ref (y 29), .int v_5])), (y 27, aI V 10 f_6), (y 28, aI V 10 f_7), (y 29, aI V 10 f_8)] := hD
    refine lv_aload_n hx hb dX9_night_31 rfl (lv_at hl 0 rfl) ?_
    refine lv_iload_n hx hb dX9_night_32 rfl (lv_at hl 1 rfl) ?_
    refine lv_i2l hx hb dX9_night_33 rfl ?_
    refine lv_topl (fun j_9 ej_9 => ?_)
    refine jnI (wr := [(y 26, .inr (5, [.ref (y 27), .ref (y 28), .ref (y 29), .int v_5])), (y 27, aI V 10 f_6), (y 28, aI V 10 f_7), (y 29, aI V 10 f_8)]) (rnV (rest := []) ⟨hx, hb, hml, hown, hg⟩ (k_X9_tryDeed_0 l V y j_9 fy3 fy9 fy20 fy21 fy22 py0_1 o10 o11 py0_12 py0_13 py0_14 py2_0 py2_1 py2_2 py2_3 py2_4 py2_5 py2_13 py2_14 py2_15 py2_16 py2_17 bpy0_1 bpy2_1 bpy2_2 bpy2_3 bpy2_13 bpy2_14 bpy2_15 bpy2_16 bpy2_17) mt_X9_tryDeed q_3_185 ⟨Nat.le_of_ble_eq_true rfl, Nat.le_of_ble_eq_true rfl⟩ hK hP hD hS hA hE [0, 1, 2, 3, 4, 5, 6, 7] rfl rfl 6 rfl rfl rfl rfl hl.1 rfl (Nat.le_of_ble_eq_true rfl) dX9_night_34 ⟨Nat.le_of_ble_eq_true rfl, Nat.le_of_ble_eq_true rfl⟩) hP hD hS hA [0, 1, 2, 3, 4, 5, 6, 7] [8, 9, 10, 11] rfl rfl rfl (by decide) (fun r_10 w H locs hw hP hD hS => ?_)
    obtain ⟨f_11, f_12, f_13, v_14, v_15, v_16, br_10, rfl⟩ := hw
    have hP : va_P V.1 vwCl [(y 26, .inr (5, [.ref (y 27), .ref (y 28), .ref (y 29), .int v_5])), (y 27, aI V 10 f_6), (y 28, aI V 10 f_7), (y 29, aI V 10 f_8), (y 3, aI V 4 fy3), (y 9, aI V 900 fy9), (y 19, .inr (4, [.ref (y 2), .ref (y 20), .ref (y 21), .ref (y 22), .ref (y 23), .ref (y 24)])), (y 20, aI V 2000 f_11), (y 21, aI V 6 f_12), (y 22, aI V 64 f_13), (y 0, .inr (9, [.ref (y 1), .int py0_1, .ref (y 2), .ref (y 10), .ref (y 19), .ref (y 25), .ref (y 26), .ref (y 30), .ref (y 31), .ref (y 32), o10, o11, .int v_14, .int v_15, .int v_16])), (y 2, .inr (1, [.int py2_0, .int py2_1, .int py2_2, .int py2_3, .int py2_4, .int py2_5, .ref (y 3), .ref (y 4), .ref (y 5), .ref (y 6), .ref (y 7), .ref (y 8), .ref (y 9), .int py2_13, .int py2_14, .int py2_15, .int py2_16, .int py2_17]))] H := hP
    have hD : va_D A [(y 26, .inr (5, [.ref (y 27), .ref (y 28), .ref (y 29), .int v_5])), (y 27, aI V 10 f_6), (y 28, aI V 10 f_7), (y 29, aI V 10 f_8), (y 3, aI V 4 fy3), (y 9, aI V 900 fy9), (y 19, .inr (4, [.ref (y 2), .ref (y 20), .ref (y 21), .ref (y 22), .ref (y 23), .ref (y 24)])), (y 20, aI V 2000 f_11), (y 21, aI V 6 f_12), (y 22, aI V 64 f_13), (y 0, .inr (9, [.ref (y 1), .int py0_1, .ref (y 2), .ref (y 10), .ref (y 19), .ref (y 25), .ref (y 26), .ref (y 30), .ref (y 31), .ref (y 32), o10, o11, .int v_14, .int v_15, .int v_16])), (y 2, .inr (1, [.int py2_0, .int py2_1, .int py2_2, .int py2_3, .int py2_4, .int py2_5, .ref (y 3), .ref (y 4), .ref (y 5), .ref (y 6), .ref (y 7), .ref (y 8), .ref (y 9), .int py2_13, .int py2_14, .int py2_15, .int py2_16, .int py2_17]))] := hD
    refine lv_pop hx hb dX9_night_37 rfl ?_
    refine lv_aload_n hx hb dX9_night_38 rfl (lv_at hl 0 rfl) ?_
    refine va_get (ci := 9) (v := .int v_14) (C := RX9) (T := TX9) (N := 15) hx hb hg inX9 hown hK hP 10 rfl rfl 12 (by decide) (hg _ q_2_48) (fun _ h9 => h9) rfl dX9_night_39 ?_
    refine jnI (wr := [(y 26, .inr (5, [.ref (y 27), .ref (y 28), .ref (y 29), .int v_5])), (y 27, aI V 10 f_6), (y 28, aI V 10 f_7), (y 29, aI V 10 f_8), (y 3, aI V 4 fy3), (y 9, aI V 900 fy9), (y 19, .inr (4, [.ref (y 2), .ref (y 20), .ref (y 21), .ref (y 22), .ref (y 23), .ref (y 24)])), (y 20, aI V 2000 f_11), (y 21, aI V 6 f_12), (y 22, aI V 64 f_13), (y 0, .inr (9, [.ref (y 1), .int py0_1, .ref (y 2), .ref (y 10), .ref (y 19), .ref (y 25), .ref (y 26), .ref (y 30), .ref (y 31), .ref (y 32), o10, o11, .int v_14, .int v_15, .int v_16])), (y 2, .inr (1, [.int py2_0, .int py2_1, .int py2_2, .int py2_3, .int py2_4, .int py2_5, .ref (y 3), .ref (y 4), .ref (y 5), .ref (y 6), .ref (y 7), .ref (y 8), .ref (y 9), .int py2_13, .int py2_14, .int py2_15, .int py2_16, .int py2_17]))]) (rnS (rest := []) ⟨hx, hb, hml, hown, hg⟩ (k_X9_tookBits_0 l V v_14) mt_X9_tookBits q_3_201 ⟨Nat.le_of_ble_eq_true rfl, Nat.le_of_ble_eq_true rfl⟩ hK hP hD hS hA hE [] rfl rfl rfl hl.1 rfl (Nat.le_of_ble_eq_true rfl) dX9_night_42 ⟨Nat.le_of_ble_eq_true rfl, Nat.le_of_ble_eq_true rfl⟩) hP hD hS hA [] [0, 1, 2, 3, 4, 5, 6, 7, 8, 9, 10, 11] rfl rfl rfl (by decide) (fun r_17 w H locs hw hP hD hS => ?_)
    subst hw
    have hP : va_P V.1 vwCl [(y 26, .inr (5, [.ref (y 27), .ref (y 28), .ref (y 29), .int v_5])), (y 27, aI V 10 f_6), (y 28, aI V 10 f_7), (y 29, aI V 10 f_8), (y 3, aI V 4 fy3), (y 9, aI V 900 fy9), (y 19, .inr (4, [.ref (y 2), .ref (y 20), .ref (y 21), .ref (y 22), .ref (y 23), .ref (y 24)])), (y 20, aI V 2000 f_11), (y 21, aI V 6 f_12), (y 22, aI V 64 f_13), (y 0, .inr (9, [.ref (y 1), .int py0_1, .ref (y 2), .ref (y 10), .ref (y 19), .ref (y 25), .ref (y 26), .ref (y 30), .ref (y 31), .ref (y 32), o10, o11, .int v_14, .int v_15, .int v_16])), (y 2, .inr (1, [.int py2_0, .int py2_1, .int py2_2, .int py2_3, .int py2_4, .int py2_5, .ref (y 3), .ref (y 4), .ref (y 5), .ref (y 6), .ref (y 7), .ref (y 8), .ref (y 9), .int py2_13, .int py2_14, .int py2_15, .int py2_16, .int py2_17]))] H := hP
    have hD : va_D A [(y 26, .inr (5, [.ref (y 27), .ref (y 28), .ref (y 29), .int v_5])), (y 27, aI V 10 f_6), (y 28, aI V 10 f_7), (y 29, aI V 10 f_8), (y 3, aI V 4 fy3), (y 9, aI V 900 fy9), (y 19, .inr (4, [.ref (y 2), .ref (y 20), .ref (y 21), .ref (y 22), .ref (y 23), .ref (y 24)])), (y 20, aI V 2000 f_11), (y 21, aI V 6 f_12), (y 22, aI V 64 f_13), (y 0, .inr (9, [.ref (y 1), .int py0_1, .ref (y 2), .ref (y 10), .ref (y 19), .ref (y 25), .ref (y 26), .ref (y 30), .ref (y 31), .ref (y 32), o10, o11, .int v_14, .int v_15, .int v_16])), (y 2, .inr (1, [.int py2_0, .int py2_1, .int py2_2, .int py2_3, .int py2_4, .int py2_5, .ref (y 3), .ref (y 4), .ref (y 5), .ref (y 6), .ref (y 7), .ref (y 8), .ref (y 9), .int py2_13, .int py2_14, .int py2_15, .int py2_16, .int py2_17]))] := hD
    have hP := subP (ws' := [(y 0, .inr (9, [.ref (y 1), .int py0_1, .ref (y 2), .ref (y 10), .ref (y 19), .ref (y 25), .ref (y 26), .ref (y 30), .ref (y 31), .ref (y 32), o10, o11, .int v_14, .int v_15, .int v_16])), (y 2, .inr (1, [.int py2_0, .int py2_1, .int py2_2, .int py2_3, .int py2_4, .int py2_5, .ref (y 3), .ref (y 4), .ref (y 5), .ref (y 6), .ref (y 7), .ref (y 8), .ref (y 9), .int py2_13, .int py2_14, .int py2_15, .int py2_16, .int py2_17])), (y 3, aI V 4 fy3), (y 9, aI V 900 fy9), (y 19, .inr (4, [.ref (y 2), .ref (y 20), .ref (y 21), .ref (y 22), .ref (y 23), .ref (y 24)])), (y 20, aI V 2000 f_11), (y 21, aI V 6 f_12), (y 22, aI V 64 f_13), (y 26, .inr (5, [.ref (y 27), .ref (y 28), .ref (y 29), .int v_5])), (y 27, aI V 10 f_6), (y 28, aI V 10 f_7), (y 29, aI V 10 f_8)]) hP [10, 11, 4, 5, 6, 7, 8, 9, 0, 1, 2, 3] rfl
    have hD := hD.sub (ws' := [(y 0, .inr (9, [.ref (y 1), .int py0_1, .ref (y 2), .ref (y 10), .ref (y 19), .ref (y 25), .ref (y 26), .ref (y 30), .ref (y 31), .ref (y 32), o10, o11, .int v_14, .int v_15, .int v_16])), (y 2, .inr (1, [.int py2_0, .int py2_1, .int py2_2, .int py2_3, .int py2_4, .int py2_5, .ref (y 3), .ref (y 4), .ref (y 5), .ref (y 6), .ref (y 7), .ref (y 8), .ref (y 9), .int py2_13, .int py2_14, .int py2_15, .int py2_16, .int py2_17])), (y 3, aI V 4 fy3), (y 9, aI V 900 fy9), (y 19, .inr (4, [.ref (y 2), .ref (y 20), .ref (y 21), .ref (y 22), .ref (y 23), .ref (y 24)])), (y 20, aI V 2000 f_11), (y 21, aI V 6 f_12), (y 22, aI V 64 f_13), (y 26, .inr (5, [.ref (y 27), .ref (y 28), .ref (y 29), .int v_5])), (y 27, aI V 10 f_6), (y 28, aI V 10 f_7), (y 29, aI V 10 f_8)]) [10, 11, 4, 5, 6, 7, 8, 9, 0, 1, 2, 3] rfl rfl
    exact fiI hx hb hr hlk hK hP hD hS dX9_night_45 (Nat.le_of_ble_eq_true rfl) (Nat.le_of_ble_eq_true rfl) (⟨v_14, v_15, v_16, f_11, f_12, f_13, v_5, f_6, f_7, f_8, bv_5, rfl⟩)
  · have b_18 : iv 0 0 r_2 := iv_q c_3 (iv_c (0 : Int32) (a := 0) (b := 0) (by decide))
    refine lv_bipush (v := (-11)) hx hb dX9_night_9 (by decide) ?_
    have hP := subP (ws' := [(y 0, .inr (9, [.ref (y 1), .int py0_1, .ref (y 2), .ref (y 10), .ref (y 19), .ref (y 25), .ref (y 26), .ref (y 30), .ref (y 31), .ref (y 32), o10, o11, .int py0_12, .int py0_13, .int py0_14])), (y 2, .inr (1, [.int py2_0, .int py2_1, .int py2_2, .int py2_3, .int py2_4, .int py2_5, .ref (y 3), .ref (y 4), .ref (y 5), .ref (y 6), .ref (y 7), .ref (y 8), .ref (y 9), .int py2_13, .int py2_14, .int py2_15, .int py2_16, .int py2_17])), (y 3, aI V 4 fy3), (y 9, aI V 900 fy9), (y 19, .inr (4, [.ref (y 2), .ref (y 20), .ref (y 21), .ref (y 22), .ref (y 23), .ref (y 24)])), (y 20, aI V 2000 fy20), (y 21, aI V 6 fy21), (y 22, aI V 64 fy22), (y 26, .inr (5, [.ref (y 27), .ref (y 28), .ref (y 29), .int py26_3])), (y 27, aI V 10 fy27), (y 28, aI V 10 fy28), (y 29, aI V 10 fy29)]) hP [10, 11, 0, 1, 2, 3, 4, 5, 6, 7, 8, 9] rfl
    have hD := hD.sub (ws' := [(y 0, .inr (9, [.ref (y 1), .int py0_1, .ref (y 2), .ref (y 10), .ref (y 19), .ref (y 25), .ref (y 26), .ref (y 30), .ref (y 31), .ref (y 32), o10, o11, .int py0_12, .int py0_13, .int py0_14])), (y 2, .inr (1, [.int py2_0, .int py2_1, .int py2_2, .int py2_3, .int py2_4, .int py2_5, .ref (y 3), .ref (y 4), .ref (y 5), .ref (y 6), .ref (y 7), .ref (y 8), .ref (y 9), .int py2_13, .int py2_14, .int py2_15, .int py2_16, .int py2_17])), (y 3, aI V 4 fy3), (y 9, aI V 900 fy9), (y 19, .inr (4, [.ref (y 2), .ref (y 20), .ref (y 21), .ref (y 22), .ref (y 23), .ref (y 24)])), (y 20, aI V 2000 fy20), (y 21, aI V 6 fy21), (y 22, aI V 64 fy22), (y 26, .inr (5, [.ref (y 27), .ref (y 28), .ref (y 29), .int py26_3])), (y 27, aI V 10 fy27), (y 28, aI V 10 fy28), (y 29, aI V 10 fy29)]) [10, 11, 0, 1, 2, 3, 4, 5, 6, 7, 8, 9] rfl rfl
    exact fiI hx hb hr hlk hK hP hD hS dX9_night_11 (Nat.le_of_ble_eq_true rfl) (Nat.le_of_ble_eq_true rfl) (⟨py0_12, py0_13, py0_14, fy20, fy21, fy22, py26_3, fy27, fy28, fy29, bpy26_3, rfl⟩)
