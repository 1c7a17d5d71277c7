theorem dX10_keeps_0 : decode cX10_keeps 0 = .ok (.aload_n 0, 1) := by decide +kernel
theorem dX10_keeps_1 : decode cX10_keeps 1 = .ok (.iconst 0, 1) := by decide +kernel
theorem dX10_keeps_2 : decode cX10_keeps 2 = .ok (.putfield 1, 3) := by decide +kernel
theorem dX10_keeps_5 : decode cX10_keeps 5 = .ok (.iload_n 1, 1) := by decide +kernel
theorem dX10_keeps_6 : decode cX10_keeps 6 = .ok (.invokestatic 370, 3) := by decide +kernel
theorem dX10_keeps_9 : decode cX10_keeps 9 = .ok (.ifCond .ne 6, 3) := by decide +kernel
theorem dX10_keeps_15 : decode cX10_keeps 15 = .ok (.aload_n 0, 1) := by decide +kernel
theorem dX10_keeps_16 : decode cX10_keeps 16 = .ok (.invokevirtual 362, 3) := by decide +kernel
theorem dX10_keeps_19 : decode cX10_keeps 19 = .ok (.iconst 0, 1) := by decide +kernel
theorem dX10_keeps_20 : decode cX10_keeps 20 = .ok (.istore_n 2, 1) := by decide +kernel
theorem dX10_keeps_21 : decode cX10_keeps 21 = .ok (.iload_n 2, 1) := by decide +kernel
theorem dX10_keeps_22 : decode cX10_keeps 22 = .ok (.aload_n 0, 1) := by decide +kernel
theorem dX10_keeps_23 : decode cX10_keeps 23 = .ok (.getfield 355, 3) := by decide +kernel
theorem dX10_keeps_26 : decode cX10_keeps 26 = .ok (.if_icmp .ge 23, 3) := by decide +kernel
theorem dX10_keeps_49 : decode cX10_keeps 49 = .ok (.iconst 1, 1) := by decide +kernel
theorem dX10_keeps_50 : decode cX10_keeps 50 = .ok (.istore_n 2, 1) := by decide +kernel
theorem dX10_keeps_51 : decode cX10_keeps 51 = .ok (.iload_n 2, 1) := by decide +kernel
theorem dX10_keeps_52 : decode cX10_keeps 52 = .ok (.ifCond .eq 128, 3) := by decide +kernel
theorem dX10_keeps_180 : decode cX10_keeps 180 = .ok (.aload_n 0, 1) := by decide +kernel
theorem dX10_keeps_181 : decode cX10_keeps 181 = .ok (.getfield 52, 3) := by decide +kernel
theorem dX10_keeps_184 : decode cX10_keeps 184 = .ok (.aload_n 0, 1) := by decide +kernel
theorem dX10_keeps_185 : decode cX10_keeps 185 = .ok (.invokevirtual 269, 3) := by decide +kernel
theorem dX10_keeps_188 : decode cX10_keeps 188 = .ok (.iaload, 1) := by decide +kernel
theorem dX10_keeps_189 : decode cX10_keeps 189 = .ok (.invokestatic 379, 3) := by decide +kernel
theorem dX10_keeps_192 : decode cX10_keeps 192 = .ok (.ireturn, 1) := by decide +kernel
theorem dX10_keeps_55 : decode cX10_keeps 55 = .ok (.iconst 0, 1) := by decide +kernel
theorem dX10_keeps_56 : decode cX10_keeps 56 = .ok (.istore_n 2, 1) := by decide +kernel
theorem dX10_keeps_57 : decode cX10_keeps 57 = .ok (.iconst 0, 1) := by decide +kernel
theorem dX10_keeps_58 : decode cX10_keeps 58 = .ok (.istore_n 3, 1) := by decide +kernel
theorem dX10_keeps_59 : decode cX10_keeps 59 = .ok (.iload_n 3, 1) := by decide +kernel
theorem dX10_keeps_60 : decode cX10_keeps 60 = .ok (.aload_n 0, 1) := by decide +kernel
theorem dX10_keeps_61 : decode cX10_keeps 61 = .ok (.getfield 355, 3) := by decide +kernel
theorem dX10_keeps_64 : decode cX10_keeps 64 = .ok (.if_icmp .ge 113, 3) := by decide +kernel
theorem dX10_keeps_177 : decode cX10_keeps 177 = .ok (.goto (-126), 3) := by decide +kernel
theorem dX10_keeps_67 : decode cX10_keeps 67 = .ok (.aload_n 0, 1) := by decide +kernel
theorem dX10_keeps_68 : decode cX10_keeps 68 = .ok (.getfield 45, 3) := by decide +kernel
theorem dX10_keeps_71 : decode cX10_keeps 71 = .ok (.iload_n 3, 1) := by decide +kernel
theorem dX10_keeps_72 : decode cX10_keeps 72 = .ok (.iaload, 1) := by decide +kernel
theorem dX10_keeps_73 : decode cX10_keeps 73 = .ok (.istore 4, 2) := by decide +kernel
theorem dX10_keeps_75 : decode cX10_keeps 75 = .ok (.iconst 0, 1) := by decide +kernel
theorem dX10_keeps_76 : decode cX10_keeps 76 = .ok (.istore 5, 2) := by decide +kernel
theorem dX10_keeps_78 : decode cX10_keeps 78 = .ok (.iconst 0, 1) := by decide +kernel
theorem dX10_keeps_79 : decode cX10_keeps 79 = .ok (.istore 6, 2) := by decide +kernel
theorem dX10_keeps_81 : decode cX10_keeps 81 = .ok (.iload 6, 2) := by decide +kernel
theorem dX10_keeps_83 : decode cX10_keeps 83 = .ok (.iconst 4, 1) := by decide +kernel
theorem dX10_keeps_84 : decode cX10_keeps 84 = .ok (.if_icmp .ge 52, 3) := by decide +kernel
theorem dX10_keeps_136 : decode cX10_keeps 136 = .ok (.aload_n 0, 1) := by decide +kernel
theorem dX10_keeps_137 : decode cX10_keeps 137 = .ok (.getfield 52, 3) := by decide +kernel
theorem dX10_keeps_140 : decode cX10_keeps 140 = .ok (.iload 4, 2) := by decide +kernel
theorem dX10_keeps_142 : decode cX10_keeps 142 = .ok (.iaload, 1) := by decide +kernel
theorem dX10_keeps_143 : decode cX10_keeps 143 = .ok (.ldc_w 361, 3) := by decide +kernel
theorem dX10_keeps_146 : decode cX10_keeps 146 = .ok (.if_icmp .lt 25, 3) := by decide +kernel
theorem dX10_keeps_171 : decode cX10_keeps 171 = .ok (.iinc 3 1, 3) := by decide +kernel
theorem dX10_keeps_174 : decode cX10_keeps 174 = .ok (.goto (-115), 3) := by decide +kernel
theorem dX10_keeps_149 : decode cX10_keeps 149 = .ok (.iload 5, 2) := by decide +kernel
theorem dX10_keeps_151 : decode cX10_keeps 151 = .ok (.ldc_w 361, 3) := by decide +kernel
theorem dX10_keeps_154 : decode cX10_keeps 154 = .ok (.if_icmp .ne 6, 3) := by decide +kernel
theorem dX10_keeps_160 : decode cX10_keeps 160 = .ok (.aload_n 0, 1) := by decide +kernel
theorem dX10_keeps_161 : decode cX10_keeps 161 = .ok (.getfield 52, 3) := by decide +kernel
theorem dX10_keeps_164 : decode cX10_keeps 164 = .ok (.iload 4, 2) := by decide +kernel
theorem dX10_keeps_166 : decode cX10_keeps 166 = .ok (.iload 5, 2) := by decide +kernel
theorem dX10_keeps_168 : decode cX10_keeps 168 = .ok (.iastore, 1) := by decide +kernel
theorem dX10_keeps_169 : decode cX10_keeps 169 = .ok (.iconst 1, 1) := by decide +kernel
theorem dX10_keeps_170 : decode cX10_keeps 170 = .ok (.istore_n 2, 1) := by decide +kernel
theorem dX10_keeps_157 : decode cX10_keeps 157 = .ok (.goto 14, 3) := by decide +kernel
theorem dX10_keeps_87 : decode cX10_keeps 87 = .ok (.aload_n 0, 1) := by decide +kernel
theorem dX10_keeps_88 : decode cX10_keeps 88 = .ok (.getfield 52, 3) := by decide +kernel
theorem dX10_keeps_91 : decode cX10_keeps 91 = .ok (.iload 4, 2) := by decide +kernel
theorem dX10_keeps_93 : decode cX10_keeps 93 = .ok (.iaload, 1) := by decide +kernel
theorem dX10_keeps_94 : decode cX10_keeps 94 = .ok (.ldc_w 361, 3) := by decide +kernel
theorem dX10_keeps_97 : decode cX10_keeps 97 = .ok (.if_icmp .ne 39, 3) := by decide +kernel
theorem dX10_keeps_100 : decode cX10_keeps 100 = .ok (.aload_n 0, 1) := by decide +kernel
theorem dX10_keeps_101 : decode cX10_keeps 101 = .ok (.iload 4, 2) := by decide +kernel
theorem dX10_keeps_103 : decode cX10_keeps 103 = .ok (.iload 6, 2) := by decide +kernel
theorem dX10_keeps_105 : decode cX10_keeps 105 = .ok (.iload_n 1, 1) := by decide +kernel
theorem q_7_239 : Cond.code yX10_keptBy prog_12_method_95_code 5 (some FieldType.int) ∈ gw := gw_7 (i := 239) (rfl) rfl
theorem q_7_238 : Cond.instanceMethod yX10_keptBy ∈ gw := gw_7 (i := 238) (by decide +kernel) rfl
theorem q_s_111 : Cond.selects "BeaconDelayModel" yX10_keptBy yX10_keptBy ∈ gw := gw_s (i := 111) (by decide +kernel) rfl
theorem mt_X10_keptBy : MtV yX10_keptBy cX10_keptBy 5 (some .int) 3 := ⟨⟨q_7_239, q_1_9, by decide +kernel, by decide +kernel, by decide +kernel⟩, q_7_238, q_s_111⟩
theorem q_7_236 : Cond.methodLink "BeaconDelayModel" 399 yX10_keptBy ∈ gw := gw_7 (i := 236) (by decide +kernel) rfl
theorem dX10_keeps_106 : decode cX10_keeps 106 = .ok (.invokevirtual 399, 3) := by decide +kernel
theorem dX10_keeps_109 : decode cX10_keeps 109 = .ok (.iload 5, 2) := by decide +kernel
theorem dX10_keeps_111 : decode cX10_keeps 111 = .ok (.if_icmp .le 15, 3) := by decide +kernel
theorem dX10_keeps_126 : decode cX10_keeps 126 = .ok (.iload 5, 2) := by decide +kernel
theorem dX10_keeps_128 : decode cX10_keeps 128 = .ok (.istore 5, 2) := by decide +kernel
theorem dX10_keeps_130 : decode cX10_keeps 130 = .ok (.iinc 6 1, 3) := by decide +kernel
theorem dX10_keeps_133 : decode cX10_keeps 133 = .ok (.goto (-52), 3) := by decide +kernel
theorem dX10_keeps_114 : decode cX10_keeps 114 = .ok (.aload_n 0, 1) := by decide +kernel
theorem dX10_keeps_115 : decode cX10_keeps 115 = .ok (.iload 4, 2) := by decide +kernel
theorem dX10_keeps_117 : decode cX10_keeps 117 = .ok (.iload 6, 2) := by decide +kernel
theorem dX10_keeps_119 : decode cX10_keeps 119 = .ok (.iload_n 1, 1) := by decide +kernel
theorem dX10_keeps_120 : decode cX10_keeps 120 = .ok (.invokevirtual 399, 3) := by decide +kernel
theorem dX10_keeps_123 : decode cX10_keeps 123 = .ok (.goto 5, 3) := by decide +kernel
theorem dX10_keeps_29 : decode cX10_keeps 29 = .ok (.aload_n 0, 1) := by decide +kernel
theorem dX10_keeps_30 : decode cX10_keeps 30 = .ok (.getfield 52, 3) := by decide +kernel
theorem dX10_keeps_33 : decode cX10_keeps 33 = .ok (.aload_n 0, 1) := by decide +kernel
theorem dX10_keeps_34 : decode cX10_keeps 34 = .ok (.getfield 45, 3) := by decide +kernel
theorem dX10_keeps_37 : decode cX10_keeps 37 = .ok (.iload_n 2, 1) := by decide +kernel
theorem dX10_keeps_38 : decode cX10_keeps 38 = .ok (.iaload, 1) := by decide +kernel
theorem dX10_keeps_39 : decode cX10_keeps 39 = .ok (.ldc_w 361, 3) := by decide +kernel
theorem dX10_keeps_42 : decode cX10_keeps 42 = .ok (.iastore, 1) := by decide +kernel
theorem dX10_keeps_43 : decode cX10_keeps 43 = .ok (.iinc 2 1, 3) := by decide +kernel
theorem dX10_keeps_46 : decode cX10_keeps 46 = .ok (.goto (-25), 3) := by decide +kernel
theorem dX10_keeps_12 : decode cX10_keeps 12 = .ok (.bipush (-3), 2) := by decide +kernel
theorem dX10_keeps_14 : decode cX10_keeps 14 = .ok (.ireturn, 1) := by decide +kernel
set_option maxHeartbeats 4000000 in
set_option maxRecDepth 100000 in
theorem k_X10_keeps_0 (l : Launch) (V : GV) (z : Nat → Nat) (a1 : Int32) (pz0_0 : Int32) (pz0_5 : Int32) (pz0_6 : Int32) (pz0_7 : Int32) (pz0_8 : Int32) (pz0_9 : Int32) (pz0_10 : Int32) (pz0_11 : Int32) (pz0_12 : Int32) (pz0_13 : Int32) (pz0_14 : Int32) (pz0_18 : Int32) (pz0_19 : Int32) (pz0_22 : Int32) (pz0_23 : Int32) (pz0_29 : Int32) (fz1 : Nat → Int32) (fz15 : Nat → Int32) (fz16 : Nat → Int32) (fz24 : Nat → Int32) (fz25 : Nat → Int32) (fz26 : Nat → Int32) (fz28 : Nat → Int32) (bpz0_5 : iv 0 900 pz0_5) (bpz0_6 : iv 0 900 pz0_6) (bpz0_7 : iv 0 900 pz0_7) (bpz0_8 : iv 0 900 pz0_8) (bpz0_10 : iv 0 999 pz0_10) (bpz0_11 : iv 0 4 pz0_11) (bpz0_12 : iv 0 900 pz0_12) (bpz0_13 : iv 0 4 pz0_13) (bpz0_14 : iv (-1) 900 pz0_14) (bpz0_18 : iv 0 2 pz0_18) (bpz0_22 : iv 0 9999 pz0_22) (bpz0_29 : iv 0 10000 pz0_29) (tfz1 : ivT tA fz1) (tfz16 : ivT tW fz16) (tfz24 : ∀ j, iv 0 9999 (fz24 j)) (tfz25 : ∀ j, iv (-1) 9999 (fz25 j)) (tfz26 : ∀ j, iv 0 268435456 (fz26 j)) (hf0 : RW fz1) : Ct l V yX10_keeps (.code yX10_keeps cX10_keeps 7 (some .int)) 6 [.ref (z 0), .int a1] [(z 0, .inr (10, mo z pz0_0 pz0_5 pz0_6 pz0_7 pz0_8 pz0_9 pz0_10 pz0_11 pz0_12 pz0_13 pz0_14 pz0_18 pz0_19 pz0_22 pz0_23 pz0_29)), (z 1, aI V 3075 fz1), (z 15, aI V 900 fz15), (z 16, aI V 6 fz16), (z 24, aI V 10000 fz24), (z 25, aI V 40000 fz25), (z 26, aI V 10000 fz26), (z 28, aZ V 10000 fz28)] 0 0 (QI V (fun (r : Int32) (w : va_W) => ∃ (v0 : Int32) (v1 : Int32) (g2 : Nat → Int32) (g3 : Nat → Int32) (g4 : Nat → Int32) (g5 : Nat → Int32) (g6 : Nat → Int32) (g7 : Nat → Int32), iv 0 10000 v1 ∧ (ivT tW g3) ∧ (∀ j, iv 0 9999 (g4 j)) ∧ (∀ j, iv (-1) 9999 (g5 j)) ∧ (∀ j, iv 0 268435456 (g6 j)) ∧ (RW fz1) ∧ w = [(z 0, .inr (10, mo z v0 pz0_5 pz0_6 pz0_7 pz0_8 pz0_9 pz0_10 pz0_11 pz0_12 pz0_13 pz0_14 pz0_18 pz0_19 pz0_22 pz0_23 v1)), (z 1, aI V 3075 fz1), (z 15, aI V 900 g2), (z 16, aI V 6 g3), (z 24, aI V 10000 g4), (z 25, aI V 40000 g5), (z 26, aI V 10000 g6), (z 28, aZ V 10000 g7)])) := by
  refine Ct.of (by decide) (Nat.le_of_ble_eq_true rfl) (fun p e s m below meth c A ls hx hb hr hml hown hlk hnm hg hP hK hD hE hA hS hl => ?_)
  have hl : lv_has ls 7 [(0, .ref (z 0)), (1, .int a1)] := hl
  refine lv_aload_n hx hb dX10_keeps_0 rfl (lv_at hl 0 rfl) ?_
  refine lv_iconst (v := 0) hx hb dX10_keeps_1 (by decide) ?_
  refine va_put (ci := 10) (v := .int 0) (ty := .int) (C := RX10) (T := TX10) (N := 40) hx hb hg inX10 tyX10 tyX10_ok nmX10 hown hK hP hD hS 0 rfl rfl 0 (by decide) (hg _ q_5_224) (fun _ h9 => h9) rfl (by decide +kernel) rfl rfl (Nat.le_of_ble_eq_true rfl) dX10_keeps_2 (fun H locs hP hD hS => ?_)
  have hP : va_P V.1 vwCl [(z 0, .inr (10, mo z 0 pz0_5 pz0_6 pz0_7 pz0_8 pz0_9 pz0_10 pz0_11 pz0_12 pz0_13 pz0_14 pz0_18 pz0_19 pz0_22 pz0_23 pz0_29)), (z 1, aI V 3075 fz1), (z 15, aI V 900 fz15), (z 16, aI V 6 fz16), (z 24, aI V 10000 fz24), (z 25, aI V 40000 fz25), (z 26, aI V 10000 fz26), (z 28, aZ V 10000 fz28)] H := hP
  have hD := cpD hP hD
  refine lv_iload_n hx hb dX10_keeps_5 rfl (lv_at hl 1 rfl) ?_
  refine jnI (wr := [(z 0, .inr (10, mo z 0 pz0_5 pz0_6 pz0_7 pz0_8 pz0_9 pz0_10 pz0_11 pz0_12 pz0_13 pz0_14 pz0_18 pz0_19 pz0_22 pz0_23 pz0_29)), (z 1, aI V 3075 fz1), (z 15, aI V 900 fz15), (z 16, aI V 6 fz16), (z 24, aI V 10000 fz24), (z 25, aI V 40000 fz25), (z 26, aI V 10000 fz26), (z 28, aZ V 10000 fz28)]) (rnS (rest := []) ⟨hx, hb, hml, hown, hg⟩ (k_X10_isHigh_0 l V a1) mt_X10_isHigh q_7_186 ⟨Nat.le_of_ble_eq_true rfl, Nat.le_of_ble_eq_true rfl⟩ hK hP hD hS hA hE [] rfl rfl rfl hl.1 rfl (Nat.le_of_ble_eq_true rfl) dX10_keeps_6 ⟨Nat.le_of_ble_eq_true rfl, Nat.le_of_ble_eq_true rfl⟩) hP hD hS hA [] [0, 1, 2, 3, 4, 5, 6, 7] rfl rfl rfl (by decide) (fun r_1 w H locs hw hP hD hS => ?_)
  obtain ⟨br_1, g_2, rfl⟩ := hw
  have hP : va_P V.1 vwCl [(z 0, .inr (10, mo z 0 pz0_5 pz0_6 pz0_7 pz0_8 pz0_9 pz0_10 pz0_11 pz0_12 pz0_13 pz0_14 pz0_18 pz0_19 pz0_22 pz0_23 pz0_29)), (z 1, aI V 3075 fz1), (z 15, aI V 900 fz15), (z 16, aI V 6 fz16), (z 24, aI V 10000 fz24), (z 25, aI V 40000 fz25), (z 26, aI V 10000 fz26), (z 28, aZ V 10000 fz28)] H := hP
  have hD := cpD hP hD
  refine lv_if_ne (tgt := 15) hx hb dX10_keeps_9 (by decide) (fun c_3 => ?_) (fun c_3 => ?_)
  · have b_4 : iv 1 1 r_1 := iv_n0 c_3 br_1 (iv_c (0 : Int32) (a := 0) (b := 0) (by decide)) (by decide)
    have b_5 : iv 0 4 a1 := iv_cap (g_2 (iv_eqp b_4 (iv_c (1 : Int32) (by decide)))) (iv_top a1) (by decide)
    refine lv_aload_n hx hb dX10_keeps_15 rfl (lv_at hl 0 rfl) ?_
    refine jnV (wr := [(z 26, aI V 10000 fz26)]) (rnV (rest := []) ⟨hx, hb, hml, hown, hg⟩ (k_X10_laysStands_0 l V z fz15 fz16 fz24 fz25 fz28 0 pz0_5 pz0_6 pz0_7 pz0_8 pz0_9 pz0_10 pz0_11 pz0_12 pz0_13 pz0_14 pz0_18 pz0_19 pz0_22 pz0_23 pz0_29 fz1 tfz16 tfz24 tfz25 bpz0_5 bpz0_6 bpz0_7 bpz0_8 bpz0_10 bpz0_11 bpz0_12 bpz0_13 bpz0_14 bpz0_18 bpz0_22 bpz0_29 tfz1 hf0) mt_X10_laysStands q_7_194 ⟨Nat.le_of_ble_eq_true rfl, Nat.le_of_ble_eq_true rfl⟩ hK hP hD hS hA hE [2, 3, 4, 5, 7, 0, 1] rfl rfl 0 rfl rfl rfl rfl hl.1 rfl (Nat.le_of_ble_eq_true rfl) dX10_keeps_16 ⟨Nat.le_of_ble_eq_true rfl, Nat.le_of_ble_eq_true rfl⟩) hP hD hS hA [2, 3, 4, 5, 7, 0, 1] [6] rfl rfl rfl (by decide) (fun  w H locs hw hP hD hS => ?_)
    obtain ⟨f_6, f_7, f_8, f_9, f_10, v_11, tf_7, tf_8, tf_9, bv_11, g_12, g_13, g_14, rfl⟩ := hw
    have hP : va_P V.1 vwCl [(z 26, aI V 10000 fz26), (z 15, aI V 900 f_6), (z 16, aI V 6 f_7), (z 24, aI V 10000 f_8), (z 25, aI V 40000 f_9), (z 28, aZ V 10000 f_10), (z 0, .inr (10, mo z 0 pz0_5 pz0_6 pz0_7 pz0_8 pz0_9 pz0_10 pz0_11 pz0_12 pz0_13 pz0_14 pz0_18 pz0_19 pz0_22 pz0_23 v_11)), (z 1, aI V 3075 fz1)] H := hP
    have hD := cpD hP hD
    refine lv_iconst (v := 0) hx hb dX10_keeps_19 (by decide) ?_
    refine lv_istore_n (lv' := [(2, .int 0), (0, .ref (z 0)), (1, .int a1)]) hx hb dX10_keeps_20 rfl hl (by decide) rfl (fun ls hl => ?_)
    refine loopF (X := fun (n_17 : Nat) (H : Heap) (locs : List Loc) (ls : Array Slot) => ∃ (u_15 : Int32) (f_16 : Nat → Int32), (iv 0 2147483647 u_15) ∧ (∀ j, iv 0 268435456 (f_16 j)) ∧ (RW fz1) ∧ n_17 = (2147483647 - (u_15 : Int32).toInt).toNat ∧ va_P V.1 vwCl [(z 26, aI V 10000 f_16), (z 15, aI V 900 f_6), (z 16, aI V 6 f_7), (z 24, aI V 10000 f_8), (z 25, aI V 40000 f_9), (z 28, aZ V 10000 f_10), (z 0, .inr (10, mo z 0 pz0_5 pz0_6 pz0_7 pz0_8 pz0_9 pz0_10 pz0_11 pz0_12 pz0_13 pz0_14 pz0_18 pz0_19 pz0_22 pz0_23 v_11)), (z 1, aI V 3075 fz1)] H ∧ va_D A [(z 26, aI V 10000 f_16), (z 15, aI V 900 f_6), (z 16, aI V 6 f_7), (z 24, aI V 10000 f_8), (z 25, aI V 40000 f_9), (z 28, aZ V 10000 f_10), (z 0, .inr (10, mo z 0 pz0_5 pz0_6 pz0_7 pz0_8 pz0_9 pz0_10 pz0_11 pz0_12 pz0_13 pz0_14 pz0_18 pz0_19 pz0_22 pz0_23 v_11)), (z 1, aI V 3075 fz1)] ∧ va_S A s.heap H locs ∧ lv_has ls 7 [(2, .int u_15), (0, .ref (z 0)), (1, .int a1)]) (g := fun ls => F0 m 21 ls []) (fun n_17 H locs ls hX ihn_17 => ?_) _ ⟨0, fz26, (iv_c (0 : Int32) (by decide)), tfz26, g_12, rfl, hP, hD, hS, lv_sub hl [0, 1, 2] rfl⟩
    obtain ⟨u_15, f_16, bu_15, tf_16, inn_17_0, en_17, hP, hD, hS, hl⟩ := hX
    refine lv_iload_n hx hb dX10_keeps_21 rfl (lv_at hl 0 rfl) ?_
    refine lv_aload_n hx hb dX10_keeps_22 rfl (lv_at hl 1 rfl) ?_
    refine va_get (ci := 10) (v := .int v_11) (C := RX10) (T := TX10) (N := 40) hx hb hg inX10 hown hK hP 6 rfl rfl 29 (by decide) (hg _ q_6_13) (fun _ h9 => h9) rfl dX10_keeps_23 ?_
    refine lv_icmp_ge (tgt := 49) hx hb dX10_keeps_26 (by decide) (fun c_18 => ?_) (fun c_18 => ?_)
    · refine lv_iconst (v := 1) hx hb dX10_keeps_49 (by decide) ?_
      refine lv_istore_n (lv' := [(2, .int 1), (0, .ref (z 0)), (1, .int a1)]) hx hb dX10_keeps_50 rfl hl (by decide) rfl (fun ls hl => ?_)
      refine loopF (X := fun (n_21 : Nat) (H : Heap) (locs : List Loc) (ls : Array Slot) => ∃ (u_19 : Int32) (f_20 : Nat → Int32), (iv 0 1 u_19) ∧ (∀ j, iv 0 268435456 (f_20 j)) ∧ (RW fz1) ∧ n_21 = 2 * sm f_20 10000 + (u_19).toNatClampNeg ∧ va_P V.1 vwCl [(z 26, aI V 10000 f_20), (z 15, aI V 900 f_6), (z 16, aI V 6 f_7), (z 24, aI V 10000 f_8), (z 25, aI V 40000 f_9), (z 28, aZ V 10000 f_10), (z 0, .inr (10, mo z 0 pz0_5 pz0_6 pz0_7 pz0_8 pz0_9 pz0_10 pz0_11 pz0_12 pz0_13 pz0_14 pz0_18 pz0_19 pz0_22 pz0_23 v_11)), (z 1, aI V 3075 fz1)] H ∧ va_D A [(z 26, aI V 10000 f_20), (z 15, aI V 900 f_6), (z 16, aI V 6 f_7), (z 24, aI V 10000 f_8), (z 25, aI V 40000 f_9), (z 28, aZ V 10000 f_10), (z 0, .inr (10, mo z 0 pz0_5 pz0_6 pz0_7 pz0_8 pz0_9 pz0_10 pz0_11 pz0_12 pz0_13 pz0_14 pz0_18 pz0_19 pz0_22 pz0_23 v_11)), (z 1, aI V 3075 fz1)] ∧ va_S A s.heap H locs ∧ lv_has ls 7 [(2, .int u_19), (0, .ref (z 0)), (1, .int a1)]) (g := fun ls => F0 m 51 ls []) (fun n_21 H locs ls hX ihn_21 => ?_) _ ⟨1, f_16, (iv_c (1 : Int32) (by decide)), tf_16, inn_17_0, rfl, hP, hD, hS, lv_sub hl [0, 1, 2] rfl⟩
      obtain ⟨u_19, f_20, bu_19, tf_20, inn_21_0, en_21, hP, hD, hS, hl⟩ := hX
      refine lv_iload_n hx hb dX10_keeps_51 rfl (lv_at hl 0 rfl) ?_
      refine lv_if_eq (tgt := 180) hx hb dX10_keeps_52 (by decide) (fun c_22 => ?_) (fun c_22 => ?_)
      · have b_23 : iv 0 0 u_19 := iv_q c_22 (iv_c (0 : Int32) (a := 0) (b := 0) (by decide))
        refine lv_aload_n hx hb dX10_keeps_180 rfl (lv_at hl 1 rfl) ?_
        refine va_get (ci := 10) (v := .ref (z 26)) (C := RX10) (T := TX10) (N := 40) hx hb hg inX10 hown hK hP 6 rfl rfl 26 (by decide) (hg _ q_6_10) (fun _ h9 => h9) rfl dX10_keeps_181 ?_
        refine lv_aload_n hx hb dX10_keeps_184 rfl (lv_at hl 1 rfl) ?_
        refine jnI (wr := [(z 26, aI V 10000 f_20), (z 15, aI V 900 f_6), (z 16, aI V 6 f_7), (z 24, aI V 10000 f_8), (z 25, aI V 40000 f_9), (z 28, aZ V 10000 f_10)]) (rnV (rest := [.ref (z 26)]) ⟨hx, hb, hml, hown, hg⟩ (k_X10_standNow_0 l V z 0 pz0_5 pz0_6 pz0_7 pz0_8 pz0_9 pz0_10 pz0_11 pz0_12 pz0_13 pz0_14 pz0_18 pz0_19 pz0_22 pz0_23 v_11 fz1 bpz0_5 bpz0_6 bpz0_7 bpz0_8 bpz0_10 bpz0_11 bpz0_12 bpz0_13 bpz0_14 bpz0_18 bpz0_22 bv_11 tfz1) mt_X10_standNow q_7_11 ⟨Nat.le_of_ble_eq_true rfl, Nat.le_of_ble_eq_true rfl⟩ hK hP hD hS hA hE [6, 7] rfl rfl 6 rfl rfl rfl rfl hl.1 rfl (Nat.le_of_ble_eq_true rfl) dX10_keeps_185 ⟨Nat.le_of_ble_eq_true rfl, Nat.le_of_ble_eq_true rfl⟩) hP hD hS hA [6, 7] [0, 1, 2, 3, 4, 5] rfl rfl rfl (by decide) (fun r_24 w H locs hw hP hD hS => ?_)
        obtain ⟨br_24, er_24, et_25, rfl⟩ := hw
        have hP : va_P V.1 vwCl [(z 26, aI V 10000 f_20), (z 15, aI V 900 f_6), (z 16, aI V 6 f_7), (z 24, aI V 10000 f_8), (z 25, aI V 40000 f_9), (z 28, aZ V 10000 f_10), (z 0, .inr (10, mo z 0 pz0_5 pz0_6 pz0_7 pz0_8 pz0_9 pz0_10 pz0_11 pz0_12 pz0_13 pz0_14 pz0_18 pz0_19 pz0_22 pz0_23 v_11)), (z 1, aI V 3075 fz1)] H := hP
        have hD := cpD hP hD
        refine va_iald hx hb hK hP 0 0 rfl rfl (iv_in br_24 (by decide)) dX10_keeps_188 ?_
        refine lv_topi (fun x_26 ex_26 => ?_)
        have bx_26 : iv 0 268435456 x_26 := by rw [ex_26]; exact tf_20 _
        refine jnI (wr := [(z 26, aI V 10000 f_20), (z 15, aI V 900 f_6), (z 16, aI V 6 f_7), (z 24, aI V 10000 f_8), (z 25, aI V 40000 f_9), (z 28, aZ V 10000 f_10), (z 0, .inr (10, mo z 0 pz0_5 pz0_6 pz0_7 pz0_8 pz0_9 pz0_10 pz0_11 pz0_12 pz0_13 pz0_14 pz0_18 pz0_19 pz0_22 pz0_23 v_11)), (z 1, aI V 3075 fz1)]) (rnS (rest := []) ⟨hx, hb, hml, hown, hg⟩ (k_X10_toldFar_0 l V x_26) mt_X10_toldFar q_7_207 ⟨Nat.le_of_ble_eq_true rfl, Nat.le_of_ble_eq_true rfl⟩ hK hP hD hS hA hE [] rfl rfl rfl hl.1 rfl (Nat.le_of_ble_eq_true rfl) dX10_keeps_189 ⟨Nat.le_of_ble_eq_true rfl, Nat.le_of_ble_eq_true rfl⟩) hP hD hS hA [] [0, 1, 2, 3, 4, 5, 6, 7] rfl rfl rfl (by decide) (fun r_27 w H locs hw hP hD hS => ?_)
        subst hw
        have hP : va_P V.1 vwCl [(z 26, aI V 10000 f_20), (z 15, aI V 900 f_6), (z 16, aI V 6 f_7), (z 24, aI V 10000 f_8), (z 25, aI V 40000 f_9), (z 28, aZ V 10000 f_10), (z 0, .inr (10, mo z 0 pz0_5 pz0_6 pz0_7 pz0_8 pz0_9 pz0_10 pz0_11 pz0_12 pz0_13 pz0_14 pz0_18 pz0_19 pz0_22 pz0_23 v_11)), (z 1, aI V 3075 fz1)] H := hP
        have hD := cpD hP hD
        have hP := subP (ws' := [(z 0, .inr (10, mo z 0 pz0_5 pz0_6 pz0_7 pz0_8 pz0_9 pz0_10 pz0_11 pz0_12 pz0_13 pz0_14 pz0_18 pz0_19 pz0_22 pz0_23 v_11)), (z 1, aI V 3075 fz1), (z 15, aI V 900 f_6), (z 16, aI V 6 f_7), (z 24, aI V 10000 f_8), (z 25, aI V 40000 f_9), (z 26, aI V 10000 f_20), (z 28, aZ V 10000 f_10)]) hP [6, 7, 1, 2, 3, 4, 0, 5] rfl
        have hD := subD hP hD [6, 7, 1, 2, 3, 4, 0, 5] rfl rfl
        exact fiI hx hb hr hlk hK hP hD hS dX10_keeps_192 (Nat.le_of_ble_eq_true rfl) (Nat.le_of_ble_eq_true rfl) (⟨0, v_11, f_6, f_7, f_8, f_9, f_20, f_10, bv_11, tf_7, tf_8, tf_9, tf_20, inn_21_0, rfl⟩)
      · have b_28 : iv 1 1 u_19 := iv_n0 c_22 bu_19 (iv_c (0 : Int32) (a := 0) (b := 0) (by decide)) (by decide)
        refine lv_iconst (v := 0) hx hb dX10_keeps_55 (by decide) ?_
        refine lv_istore_n (lv' := [(2, .int 0), (0, .ref (z 0)), (1, .int a1)]) hx hb dX10_keeps_56 rfl hl (by decide) rfl (fun ls hl => ?_)
        refine lv_iconst (v := 0) hx hb dX10_keeps_57 (by decide) ?_
        refine lv_istore_n (lv' := [(3, .int 0), (2, .int 0), (0, .ref (z 0)), (1, .int a1)]) hx hb dX10_keeps_58 rfl hl (by decide) rfl (fun ls hl => ?_)
        refine loopF (X := fun (n_32 : Nat) (H : Heap) (locs : List Loc) (ls : Array Slot) => ∃ (u_29 : Int32) (u_30 : Int32) (f_31 : Nat → Int32), (iv 0 2147483647 u_29) ∧ (iv 0 1 u_30) ∧ (∀ j, iv 0 268435456 (f_31 j)) ∧ (SD (sm f_31 10000) (sm f_20 10000) u_30) ∧ (RW fz1) ∧ n_32 = (2147483647 - (u_29 : Int32).toInt).toNat ∧ va_P V.1 vwCl [(z 26, aI V 10000 f_31), (z 15, aI V 900 f_6), (z 16, aI V 6 f_7), (z 24, aI V 10000 f_8), (z 25, aI V 40000 f_9), (z 28, aZ V 10000 f_10), (z 0, .inr (10, mo z 0 pz0_5 pz0_6 pz0_7 pz0_8 pz0_9 pz0_10 pz0_11 pz0_12 pz0_13 pz0_14 pz0_18 pz0_19 pz0_22 pz0_23 v_11)), (z 1, aI V 3075 fz1)] H ∧ va_D A [(z 26, aI V 10000 f_31), (z 15, aI V 900 f_6), (z 16, aI V 6 f_7), (z 24, aI V 10000 f_8), (z 25, aI V 40000 f_9), (z 28, aZ V 10000 f_10), (z 0, .inr (10, mo z 0 pz0_5 pz0_6 pz0_7 pz0_8 pz0_9 pz0_10 pz0_11 pz0_12 pz0_13 pz0_14 pz0_18 pz0_19 pz0_22 pz0_23 v_11)), (z 1, aI V 3075 fz1)] ∧ va_S A s.heap H locs ∧ lv_has ls 7 [(3, .int u_29), (2, .int u_30), (0, .ref (z 0)), (1, .int a1)]) (g := fun ls => F0 m 59 ls []) (fun n_32 H locs ls hX ihn_32 => ?_) _ ⟨0, 0, f_20, (iv_c (0 : Int32) (by decide)), (iv_c (0 : Int32) (by decide)), tf_20, (SD_0 rfl), inn_21_0, rfl, hP, hD, hS, lv_sub hl [0, 1, 2, 3] rfl⟩
        obtain ⟨u_29, u_30, f_31, bu_29, bu_30, tf_31, inn_32_0, inn_32_1, en_32, hP, hD, hS, hl⟩ := hX
        refine lv_iload_n hx hb dX10_keeps_59 rfl (lv_at hl 0 rfl) ?_
        refine lv_aload_n hx hb dX10_keeps_60 rfl (lv_at hl 2 rfl) ?_
        refine va_get (ci := 10) (v := .int v_11) (C := RX10) (T := TX10) (N := 40) hx hb hg inX10 hown hK hP 6 rfl rfl 29 (by decide) (hg _ q_6_13) (fun _ h9 => h9) rfl dX10_keeps_61 ?_
        refine lv_icmp_ge (tgt := 177) hx hb dX10_keeps_64 (by decide) (fun c_33 => ?_) (fun c_33 => ?_)
        · refine lv_goto (tgt := 51) hx hb dX10_keeps_177 (by decide) ?_
          exact ihn_21 _ _ _ _ (by rw [en_21]; exact mu_more b_28 (by decide) bu_30 (by decide) inn_32_0) ⟨u_30, f_31, bu_30, tf_31, inn_32_1, rfl, hP, hD, hS, lv_sub hl [1, 2, 3] rfl⟩
        · have b_34 : iv 0 9999 u_29 := iv_l1 (Int32.not_le.mp c_33) bu_29 bv_11 (by decide)
          have b_35 : iv 1 10000 v_11 := iv_l2 (Int32.not_le.mp c_33) bu_29 bv_11 (by decide)
          refine lv_aload_n hx hb dX10_keeps_67 rfl (lv_at hl 2 rfl) ?_
          refine va_get (ci := 10) (v := .ref (z 24)) (C := RX10) (T := TX10) (N := 40) hx hb hg inX10 hown hK hP 6 rfl rfl 24 (by decide) (hg _ q_6_8) (fun _ h9 => h9) rfl dX10_keeps_68 ?_
          refine lv_iload_n hx hb dX10_keeps_71 rfl (lv_at hl 0 rfl) ?_
          refine va_iald hx hb hK hP 3 0 rfl rfl (iv_in b_34 (by decide)) dX10_keeps_72 ?_
          refine lv_topi (fun x_36 ex_36 => ?_)
          have bx_36 : iv 0 9999 x_36 := by rw [ex_36]; exact tf_8 _
          refine lv_istore (lv' := [(4, .int x_36), (3, .int u_29), (2, .int u_30), (0, .ref (z 0)), (1, .int a1)]) hx hb dX10_keeps_73 hl (by decide) rfl (fun ls hl => ?_)
          refine lv_iconst (v := 0) hx hb dX10_keeps_75 (by decide) ?_
          refine lv_istore (lv' := [(5, .int 0), (4, .int x_36), (3, .int u_29), (2, .int u_30), (0, .ref (z 0)), (1, .int a1)]) hx hb dX10_keeps_76 hl (by decide) rfl (fun ls hl => ?_)
          refine lv_iconst (v := 0) hx hb dX10_keeps_78 (by decide) ?_
          refine lv_istore (lv' := [(6, .int 0), (5, .int 0), (4, .int x_36), (3, .int u_29), (2, .int u_30), (0, .ref (z 0)), (1, .int a1)]) hx hb dX10_keeps_79 hl (by decide) rfl (fun ls hl => ?_)
          refine loopF (X := fun (n_39 : Nat) (H : Heap) (locs : List Loc) (ls : Array Slot) => ∃ (u_37 : Int32) (u_38 : Int32), (iv 0 4 u_37) ∧ (iv 0 268435456 u_38) ∧ (RW fz1) ∧ n_39 = (2147483647 - (u_37 : Int32).toInt).toNat ∧ va_P V.1 vwCl [(z 26, aI V 10000 f_31), (z 15, aI V 900 f_6), (z 16, aI V 6 f_7), (z 24, aI V 10000 f_8), (z 25, aI V 40000 f_9), (z 28, aZ V 10000 f_10), (z 0, .inr (10, mo z 0 pz0_5 pz0_6 pz0_7 pz0_8 pz0_9 pz0_10 pz0_11 pz0_12 pz0_13 pz0_14 pz0_18 pz0_19 pz0_22 pz0_23 v_11)), (z 1, aI V 3075 fz1)] H ∧ va_D A [(z 26, aI V 10000 f_31), (z 15, aI V 900 f_6), (z 16, aI V 6 f_7), (z 24, aI V 10000 f_8), (z 25, aI V 40000 f_9), (z 28, aZ V 10000 f_10), (z 0, .inr (10, mo z 0 pz0_5 pz0_6 pz0_7 pz0_8 pz0_9 pz0_10 pz0_11 pz0_12 pz0_13 pz0_14 pz0_18 pz0_19 pz0_22 pz0_23 v_11)), (z 1, aI V 3075 fz1)] ∧ va_S A s.heap H locs ∧ lv_has ls 7 [(6, .int u_37), (5, .int u_38), (4, .int x_36), (3, .int u_29), (2, .int u_30), (0, .ref (z 0)), (1, .int a1)]) (g := fun ls => F0 m 81 ls []) (fun n_39 H locs ls hX ihn_39 => ?_) _ ⟨0, 0, (iv_c (0 : Int32) (by decide)), (iv_c (0 : Int32) (by decide)), inn_32_1, rfl, hP, hD, hS, lv_sub hl [0, 1, 2, 3, 4, 5, 6] rfl⟩
          obtain ⟨u_37, u_38, bu_37, bu_38, inn_39_0, en_39, hP, hD, hS, hl⟩ := hX
          refine lv_iload hx hb dX10_keeps_81 (lv_at hl 0 rfl) ?_
          refine lv_iconst (v := 4) hx hb dX10_keeps_83 (by decide) ?_
          refine lv_icmp_ge (tgt := 136) hx hb dX10_keeps_84 (by decide) (fun c_40 => ?_) (fun c_40 => ?_)
          · have b_41 : iv 4 4 u_37 := iv_e2 c_40 (iv_c (4 : Int32) (a := 4) (b := 4) (by decide)) bu_37 (by decide)
            refine lv_aload_n hx hb dX10_keeps_136 rfl (lv_at hl 5 rfl) ?_
            refine va_get (ci := 10) (v := .ref (z 26)) (C := RX10) (T := TX10) (N := 40) hx hb hg inX10 hown hK hP 6 rfl rfl 26 (by decide) (hg _ q_6_10) (fun _ h9 => h9) rfl dX10_keeps_137 ?_
            refine lv_iload hx hb dX10_keeps_140 (lv_at hl 2 rfl) ?_
            refine va_iald hx hb hK hP 0 0 rfl rfl (iv_in bx_36 (by decide)) dX10_keeps_142 ?_
            refine lv_topi (fun x_42 ex_42 => ?_)
            have bx_42 : iv 0 268435456 x_42 := by rw [ex_42]; exact tf_31 _
            refine lv_ldcw (v := 268435456) hx hb hown (hg _ q_7_202) dX10_keeps_143 ?_
            refine lv_icmp_lt (tgt := 171) hx hb dX10_keeps_146 (by decide) (fun c_43 => ?_) (fun c_43 => ?_)
            · have b_44 : iv 0 268435455 x_42 := iv_l1 c_43 bx_42 (iv_c (268435456 : Int32) (a := 268435456) (b := 268435456) (by decide)) (by decide)
              obtain ⟨x_45, ex_45⟩ : ∃ z9 : Int32, z9 = u_29 + 1 := ⟨_, rfl⟩
              have bx_45 : iv 1 10000 x_45 := by rw [ex_45]; exact iv_add b_34 (iv_c (1 : Int32) (a := 1) (b := 1) (by decide)) (by decide)
              refine lv_iinc (v := x_45) (lv' := [(3, .int x_45), (6, .int u_37), (5, .int u_38), (4, .int x_36), (2, .int u_30), (0, .ref (z 0)), (1, .int a1)]) hx hb dX10_keeps_171 hl (k := 3) rfl (by rw [ex_45]; rfl) (by decide) rfl (fun ls hl => ?_)
              refine lv_goto (tgt := 59) hx hb dX10_keeps_174 (by decide) ?_
              exact ihn_32 _ _ _ _ (by rw [en_32, ex_45]; exact mu_up b_34 (by decide)) ⟨x_45, u_30, f_31, (iv_w bx_45 (by decide)), bu_30, tf_31, inn_32_0, inn_39_0, rfl, hP, hD, hS, lv_sub hl [0, 4, 5, 6] rfl⟩
            · have b_46 : iv 268435456 268435456 x_42 := iv_e2 (Int32.not_lt.mp c_43) (iv_c (268435456 : Int32) (a := 268435456) (b := 268435456) (by decide)) bx_42 (by decide)
              refine lv_iload hx hb dX10_keeps_149 (lv_at hl 1 rfl) ?_
              refine lv_ldcw (v := 268435456) hx hb hown (hg _ q_7_202) dX10_keeps_151 ?_
              refine lv_icmp_ne (tgt := 160) hx hb dX10_keeps_154 (by decide) (fun c_47 => ?_) (fun c_47 => ?_)
              · have b_48 : iv 0 268435455 u_38 := iv_n1 c_47 bu_38 (iv_c (268435456 : Int32) (a := 268435456) (b := 268435456) (by decide)) (by decide)
                refine lv_aload_n hx hb dX10_keeps_160 rfl (lv_at hl 5 rfl) ?_
                refine va_get (ci := 10) (v := .ref (z 26)) (C := RX10) (T := TX10) (N := 40) hx hb hg inX10 hown hK hP 6 rfl rfl 26 (by decide) (hg _ q_6_10) (fun _ h9 => h9) rfl dX10_keeps_161 ?_
                refine lv_iload hx hb dX10_keeps_164 (lv_at hl 2 rfl) ?_
                refine lv_iload hx hb dX10_keeps_166 (lv_at hl 1 rfl) ?_
                refine va_iast hx hb hK hP hD hS 0 0 rfl rfl (iv_in bx_36 (by decide)) dX10_keeps_168 (fun H locs hP hD hS => ?_)
                obtain ⟨f_49, ef_49, tf_49, hP, hD⟩ : ∃ f_49 : Nat → Int32, f_49 = (upd f_31 (x_36 : Int32).toNatClampNeg u_38) ∧ (∀ j, iv 0 268435456 (f_49 j)) ∧ va_P V.1 vwCl [(z 26, aI V 10000 f_49), (z 15, aI V 900 f_6), (z 16, aI V 6 f_7), (z 24, aI V 10000 f_8), (z 25, aI V 40000 f_9), (z 28, aZ V 10000 f_10), (z 0, .inr (10, mo z 0 pz0_5 pz0_6 pz0_7 pz0_8 pz0_9 pz0_10 pz0_11 pz0_12 pz0_13 pz0_14 pz0_18 pz0_19 pz0_22 pz0_23 v_11)), (z 1, aI V 3075 fz1)] H ∧ va_D A [(z 26, aI V 10000 f_49), (z 15, aI V 900 f_6), (z 16, aI V 6 f_7), (z 24, aI V 10000 f_8), (z 25, aI V 40000 f_9), (z 28, aZ V 10000 f_10), (z 0, .inr (10, mo z 0 pz0_5 pz0_6 pz0_7 pz0_8 pz0_9 pz0_10 pz0_11 pz0_12 pz0_13 pz0_14 pz0_18 pz0_19 pz0_22 pz0_23 v_11)), (z 1, aI V 3075 fz1)] := ⟨_, rfl, ivU tf_31 _ (iv_w b_48 (by decide)), hP, hD⟩
                refine lv_iconst (v := 1) hx hb dX10_keeps_169 (by decide) ?_
                refine lv_istore_n (lv' := [(2, .int 1), (6, .int u_37), (5, .int u_38), (4, .int x_36), (3, .int u_29), (0, .ref (z 0)), (1, .int a1)]) hx hb dX10_keeps_170 rfl hl (by decide) rfl (fun ls hl => ?_)
                obtain ⟨x_50, ex_50⟩ : ∃ z9 : Int32, z9 = u_29 + 1 := ⟨_, rfl⟩
                have bx_50 : iv 1 10000 x_50 := by rw [ex_50]; exact iv_add b_34 (iv_c (1 : Int32) (a := 1) (b := 1) (by decide)) (by decide)
                refine lv_iinc (v := x_50) (lv' := [(3, .int x_50), (2, .int 1), (6, .int u_37), (5, .int u_38), (4, .int x_36), (0, .ref (z 0)), (1, .int a1)]) hx hb dX10_keeps_171 hl (k := 4) rfl (by rw [ex_50]; rfl) (by decide) rfl (fun ls hl => ?_)
                refine lv_goto (tgt := 59) hx hb dX10_keeps_174 (by decide) ?_
                exact ihn_32 _ _ _ _ (by rw [en_32, ex_50]; exact mu_up b_34 (by decide)) ⟨x_50, 1, f_49, (iv_w bx_50 (by decide)), (iv_c (1 : Int32) (by decide)), tf_49, (SD_1 inn_32_0 (sm_lt ef_49 bx_36 (by decide) ex_42 b_46 b_48 (by decide) (iv_lt b_48 b_46 (by decide)))), inn_39_0, rfl, hP, hD, hS, lv_sub hl [0, 1, 5, 6] rfl⟩
              · have b_51 : iv 268435456 268435456 u_38 := iv_q c_47 (iv_c (268435456 : Int32) (a := 268435456) (b := 268435456) (by decide))
                refine lv_goto (tgt := 171) hx hb dX10_keeps_157 (by decide) ?_
                obtain ⟨x_52, ex_52⟩ : ∃ z9 : Int32, z9 = u_29 + 1 := ⟨_, rfl⟩
                have bx_52 : iv 1 10000 x_52 := by rw [ex_52]; exact iv_add b_34 (iv_c (1 : Int32) (a := 1) (b := 1) (by decide)) (by decide)
                refine lv_iinc (v := x_52) (lv' := [(3, .int x_52), (6, .int u_37), (5, .int u_38), (4, .int x_36), (2, .int u_30), (0, .ref (z 0)), (1, .int a1)]) hx hb dX10_keeps_171 hl (k := 3) rfl (by rw [ex_52]; rfl) (by decide) rfl (fun ls hl => ?_)
                refine lv_goto (tgt := 59) hx hb dX10_keeps_174 (by decide) ?_
                exact ihn_32 _ _ _ _ (by rw [en_32, ex_52]; exact mu_up b_34 (by decide)) ⟨x_52, u_30, f_31, (iv_w bx_52 (by decide)), bu_30, tf_31, inn_32_0, inn_39_0, rfl, hP, hD, hS, lv_sub hl [0, 4, 5, 6] rfl⟩
          · have b_53 : iv 0 3 u_37 := iv_l1 (Int32.not_le.mp c_40) bu_37 (iv_c (4 : Int32) (a := 4) (b := 4) (by decide)) (by decide)
            refine lv_aload_n hx hb dX10_keeps_87 rfl (lv_at hl 5 rfl) ?_
            refine va_get (ci := 10) (v := .ref (z 26)) (C := RX10) (T := TX10) (N := 40) hx hb hg inX10 hown hK hP 6 rfl rfl 26 (by decide) (hg _ q_6_10) (fun _ h9 => h9) rfl dX10_keeps_88 ?_
            refine lv_iload hx hb dX10_keeps_91 (lv_at hl 2 rfl) ?_
            refine va_iald hx hb hK hP 0 0 rfl rfl (iv_in bx_36 (by decide)) dX10_keeps_93 ?_
            refine lv_topi (fun x_54 ex_54 => ?_)
            have bx_54 : iv 0 268435456 x_54 := by rw [ex_54]; exact tf_31 _
            refine lv_ldcw (v := 268435456) hx hb hown (hg _ q_7_202) dX10_keeps_94 ?_
            refine lv_icmp_ne (tgt := 136) hx hb dX10_keeps_97 (by decide) (fun c_55 => ?_) (fun c_55 => ?_)
            · have b_56 : iv 0 268435455 x_54 := iv_n1 c_55 bx_54 (iv_c (268435456 : Int32) (a := 268435456) (b := 268435456) (by decide)) (by decide)
              refine lv_aload_n hx hb dX10_keeps_136 rfl (lv_at hl 5 rfl) ?_
              refine va_get (ci := 10) (v := .ref (z 26)) (C := RX10) (T := TX10) (N := 40) hx hb hg inX10 hown hK hP 6 rfl rfl 26 (by decide) (hg _ q_6_10) (fun _ h9 => h9) rfl dX10_keeps_137 ?_
              refine lv_iload hx hb dX10_keeps_140 (lv_at hl 2 rfl) ?_
              refine va_iald hx hb hK hP 0 0 rfl rfl (iv_in bx_36 (by decide)) dX10_keeps_142 ?_
              refine tpi (y := x_54) ex_54.symm ?_
              refine lv_ldcw (v := 268435456) hx hb hown (hg _ q_7_202) dX10_keeps_143 ?_
              refine lv_icmp_lt (tgt := 171) hx hb dX10_keeps_146 (by decide) (fun _ => ?_) (fun c_57 => absurd (iv_lt b_56 (iv_c (268435456 : Int32) (a := 268435456) (b := 268435456) (by decide)) (by decide)) c_57)
              obtain ⟨x_58, ex_58⟩ : ∃ z9 : Int32, z9 = u_29 + 1 := ⟨_, rfl⟩
              have bx_58 : iv 1 10000 x_58 := by rw [ex_58]; exact iv_add b_34 (iv_c (1 : Int32) (a := 1) (b := 1) (by decide)) (by decide)
              refine lv_iinc (v := x_58) (lv' := [(3, .int x_58), (6, .int u_37), (5, .int u_38), (4, .int x_36), (2, .int u_30), (0, .ref (z 0)), (1, .int a1)]) hx hb dX10_keeps_171 hl (k := 3) rfl (by rw [ex_58]; rfl) (by decide) rfl (fun ls hl => ?_)
              refine lv_goto (tgt := 59) hx hb dX10_keeps_174 (by decide) ?_
              exact ihn_32 _ _ _ _ (by rw [en_32, ex_58]; exact mu_up b_34 (by decide)) ⟨x_58, u_30, f_31, (iv_w bx_58 (by decide)), bu_30, tf_31, inn_32_0, inn_39_0, rfl, hP, hD, hS, lv_sub hl [0, 4, 5, 6] rfl⟩
            · have b_59 : iv 268435456 268435456 x_54 := iv_q c_55 (iv_c (268435456 : Int32) (a := 268435456) (b := 268435456) (by decide))
              refine lv_aload_n hx hb dX10_keeps_100 rfl (lv_at hl 5 rfl) ?_
              refine lv_iload hx hb dX10_keeps_101 (lv_at hl 2 rfl) ?_
              refine lv_iload hx hb dX10_keeps_103 (lv_at hl 0 rfl) ?_
              refine lv_iload_n hx hb dX10_keeps_105 rfl (lv_at hl 6 rfl) ?_
              refine jnI (wr := [(z 15, aI V 900 f_6), (z 16, aI V 6 f_7), (z 24, aI V 10000 f_8), (z 28, aZ V 10000 f_10)]) (rnV (rest := []) ⟨hx, hb, hml, hown, hg⟩ (k_X10_keptBy_0 l V z x_36 u_37 a1 f_31 f_9 0 pz0_5 pz0_6 pz0_7 pz0_8 pz0_9 pz0_10 pz0_11 pz0_12 pz0_13 pz0_14 pz0_18 pz0_19 pz0_22 pz0_23 v_11 fz1 bx_36 b_53 tf_31 tf_9 bpz0_5 bpz0_6 bpz0_7 bpz0_8 bpz0_10 bpz0_11 bpz0_12 bpz0_13 bpz0_14 bpz0_18 bpz0_22 (iv_w b_35 (by decide)) tfz1) mt_X10_keptBy q_7_236 ⟨Nat.le_of_ble_eq_true rfl, Nat.le_of_ble_eq_true rfl⟩ hK hP hD hS hA hE [0, 4, 6, 7] rfl rfl 6 rfl rfl rfl rfl hl.1 rfl (Nat.le_of_ble_eq_true rfl) dX10_keeps_106 ⟨Nat.le_of_ble_eq_true rfl, Nat.le_of_ble_eq_true rfl⟩) hP hD hS hA [0, 4, 6, 7] [1, 2, 3, 5] rfl rfl rfl (by decide) (fun r_60 w H locs hw hP hD hS => ?_)
              obtain ⟨br_60, er_60, rfl⟩ := hw
              have hP : va_P V.1 vwCl [(z 15, aI V 900 f_6), (z 16, aI V 6 f_7), (z 24, aI V 10000 f_8), (z 28, aZ V 10000 f_10), (z 26, aI V 10000 f_31), (z 25, aI V 40000 f_9), (z 0, .inr (10, mo z 0 pz0_5 pz0_6 pz0_7 pz0_8 pz0_9 pz0_10 pz0_11 pz0_12 pz0_13 pz0_14 pz0_18 pz0_19 pz0_22 pz0_23 v_11)), (z 1, aI V 3075 fz1)] H := hP
              have hD := cpD hP hD
              refine lv_iload hx hb dX10_keeps_109 (lv_at hl 1 rfl) ?_
              refine lv_icmp_le (tgt := 126) hx hb dX10_keeps_111 (by decide) (fun c_61 => ?_) (fun c_61 => ?_)
              · refine lv_iload hx hb dX10_keeps_126 (lv_at hl 1 rfl) ?_
                refine lv_istore (lv' := [(5, .int u_38), (6, .int u_37), (4, .int x_36), (3, .int u_29), (2, .int u_30), (0, .ref (z 0)), (1, .int a1)]) hx hb dX10_keeps_128 hl (by decide) rfl (fun ls hl => ?_)
                obtain ⟨x_62, ex_62⟩ : ∃ z9 : Int32, z9 = u_37 + 1 := ⟨_, rfl⟩
                have bx_62 : iv 1 4 x_62 := by rw [ex_62]; exact iv_add b_53 (iv_c (1 : Int32) (a := 1) (b := 1) (by decide)) (by decide)
                refine lv_iinc (v := x_62) (lv' := [(6, .int x_62), (5, .int u_38), (4, .int x_36), (3, .int u_29), (2, .int u_30), (0, .ref (z 0)), (1, .int a1)]) hx hb dX10_keeps_130 hl (k := 1) rfl (by rw [ex_62]; rfl) (by decide) rfl (fun ls hl => ?_)
                refine lv_goto (tgt := 81) hx hb dX10_keeps_133 (by decide) ?_
                have hP := subP (ws' := [(z 26, aI V 10000 f_31), (z 15, aI V 900 f_6), (z 16, aI V 6 f_7), (z 24, aI V 10000 f_8), (z 25, aI V 40000 f_9), (z 28, aZ V 10000 f_10), (z 0, .inr (10, mo z 0 pz0_5 pz0_6 pz0_7 pz0_8 pz0_9 pz0_10 pz0_11 pz0_12 pz0_13 pz0_14 pz0_18 pz0_19 pz0_22 pz0_23 v_11)), (z 1, aI V 3075 fz1)]) hP [4, 0, 1, 2, 5, 3, 6, 7] rfl
                have hD := subD hP hD [4, 0, 1, 2, 5, 3, 6, 7] rfl rfl
                exact ihn_39 _ _ _ _ (by rw [en_39, ex_62]; exact mu_up b_53 (by decide)) ⟨x_62, u_38, (iv_w bx_62 (by decide)), bu_38, inn_39_0, rfl, hP, hD, hS, lv_sub hl [0, 1, 2, 3, 4, 5, 6] rfl⟩
              · have b_63 : iv 0 268435455 u_38 := iv_l1 (Int32.not_le.mp c_61) bu_38 br_60 (by decide)
                have b_64 : iv 1 268435456 r_60 := iv_l2 (Int32.not_le.mp c_61) bu_38 br_60 (by decide)
                refine lv_aload_n hx hb dX10_keeps_114 rfl (lv_at hl 5 rfl) ?_
                refine lv_iload hx hb dX10_keeps_115 (lv_at hl 2 rfl) ?_
                refine lv_iload hx hb dX10_keeps_117 (lv_at hl 0 rfl) ?_
                refine lv_iload_n hx hb dX10_keeps_119 rfl (lv_at hl 6 rfl) ?_
                refine jnI (wr := [(z 15, aI V 900 f_6), (z 16, aI V 6 f_7), (z 24, aI V 10000 f_8), (z 28, aZ V 10000 f_10)]) (rnV (rest := []) ⟨hx, hb, hml, hown, hg⟩ (k_X10_keptBy_0 l V z x_36 u_37 a1 f_31 f_9 0 pz0_5 pz0_6 pz0_7 pz0_8 pz0_9 pz0_10 pz0_11 pz0_12 pz0_13 pz0_14 pz0_18 pz0_19 pz0_22 pz0_23 v_11 fz1 bx_36 b_53 tf_31 tf_9 bpz0_5 bpz0_6 bpz0_7 bpz0_8 bpz0_10 bpz0_11 bpz0_12 bpz0_13 bpz0_14 bpz0_18 bpz0_22 (iv_w b_35 (by decide)) tfz1) mt_X10_keptBy q_7_236 ⟨Nat.le_of_ble_eq_true rfl, Nat.le_of_ble_eq_true rfl⟩ hK hP hD hS hA hE [4, 5, 6, 7] rfl rfl 6 rfl rfl rfl rfl hl.1 rfl (Nat.le_of_ble_eq_true rfl) dX10_keeps_120 ⟨Nat.le_of_ble_eq_true rfl, Nat.le_of_ble_eq_true rfl⟩) hP hD hS hA [4, 5, 6, 7] [0, 1, 2, 3] rfl rfl rfl (by decide) (fun r_65 w H locs hw hP hD hS => ?_)
                obtain ⟨br_65, er_65, rfl⟩ := hw
                have e9_r_65 : r_65 = r_60 := er_65.trans er_60.symm
                rw [e9_r_65]
                have hP : va_P V.1 vwCl [(z 15, aI V 900 f_6), (z 16, aI V 6 f_7), (z 24, aI V 10000 f_8), (z 28, aZ V 10000 f_10), (z 26, aI V 10000 f_31), (z 25, aI V 40000 f_9), (z 0, .inr (10, mo z 0 pz0_5 pz0_6 pz0_7 pz0_8 pz0_9 pz0_10 pz0_11 pz0_12 pz0_13 pz0_14 pz0_18 pz0_19 pz0_22 pz0_23 v_11)), (z 1, aI V 3075 fz1)] H := hP
                have hD := cpD hP hD
                refine lv_goto (tgt := 128) hx hb dX10_keeps_123 (by decide) ?_
                refine lv_istore (lv' := [(5, .int r_60), (6, .int u_37), (4, .int x_36), (3, .int u_29), (2, .int u_30), (0, .ref (z 0)), (1, .int a1)]) hx hb dX10_keeps_128 hl (by decide) rfl (fun ls hl => ?_)
                obtain ⟨x_66, ex_66⟩ : ∃ z9 : Int32, z9 = u_37 + 1 := ⟨_, rfl⟩
                have bx_66 : iv 1 4 x_66 := by rw [ex_66]; exact iv_add b_53 (iv_c (1 : Int32) (a := 1) (b := 1) (by decide)) (by decide)
                refine lv_iinc (v := x_66) (lv' := [(6, .int x_66), (5, .int r_60), (4, .int x_36), (3, .int u_29), (2, .int u_30), (0, .ref (z 0)), (1, .int a1)]) hx hb dX10_keeps_130 hl (k := 1) rfl (by rw [ex_66]; rfl) (by decide) rfl (fun ls hl => ?_)
                refine lv_goto (tgt := 81) hx hb dX10_keeps_133 (by decide) ?_
                have hP := subP (ws' := [(z 26, aI V 10000 f_31), (z 15, aI V 900 f_6), (z 16, aI V 6 f_7), (z 24, aI V 10000 f_8), (z 25, aI V 40000 f_9), (z 28, aZ V 10000 f_10), (z 0, .inr (10, mo z 0 pz0_5 pz0_6 pz0_7 pz0_8 pz0_9 pz0_10 pz0_11 pz0_12 pz0_13 pz0_14 pz0_18 pz0_19 pz0_22 pz0_23 v_11)), (z 1, aI V 3075 fz1)]) hP [4, 0, 1, 2, 5, 3, 6, 7] rfl
                have hD := subD hP hD [4, 0, 1, 2, 5, 3, 6, 7] rfl rfl
                exact ihn_39 _ _ _ _ (by rw [en_39, ex_66]; exact mu_up b_53 (by decide)) ⟨x_66, r_60, (iv_w bx_66 (by decide)), (iv_w b_64 (by decide)), inn_39_0, rfl, hP, hD, hS, lv_sub hl [0, 1, 2, 3, 4, 5, 6] rfl⟩
    · have b_67 : iv 0 9999 u_15 := iv_l1 (Int32.not_le.mp c_18) bu_15 bv_11 (by decide)
      have b_68 : iv 1 10000 v_11 := iv_l2 (Int32.not_le.mp c_18) bu_15 bv_11 (by decide)
      refine lv_aload_n hx hb dX10_keeps_29 rfl (lv_at hl 1 rfl) ?_
      refine va_get (ci := 10) (v := .ref (z 26)) (C := RX10) (T := TX10) (N := 40) hx hb hg inX10 hown hK hP 6 rfl rfl 26 (by decide) (hg _ q_6_10) (fun _ h9 => h9) rfl dX10_keeps_30 ?_
      refine lv_aload_n hx hb dX10_keeps_33 rfl (lv_at hl 1 rfl) ?_
      refine va_get (ci := 10) (v := .ref (z 24)) (C := RX10) (T := TX10) (N := 40) hx hb hg inX10 hown hK hP 6 rfl rfl 24 (by decide) (hg _ q_6_8) (fun _ h9 => h9) rfl dX10_keeps_34 ?_
      refine lv_iload_n hx hb dX10_keeps_37 rfl (lv_at hl 0 rfl) ?_
      refine va_iald hx hb hK hP 3 0 rfl rfl (iv_in b_67 (by decide)) dX10_keeps_38 ?_
      refine lv_topi (fun x_69 ex_69 => ?_)
      have bx_69 : iv 0 9999 x_69 := by rw [ex_69]; exact tf_8 _
      refine lv_ldcw (v := 268435456) hx hb hown (hg _ q_7_202) dX10_keeps_39 ?_
      refine va_iast hx hb hK hP hD hS 0 0 rfl rfl (iv_in bx_69 (by decide)) dX10_keeps_42 (fun H locs hP hD hS => ?_)
      obtain ⟨f_70, ef_70, tf_70, hP, hD⟩ : ∃ f_70 : Nat → Int32, f_70 = (upd f_16 (x_69 : Int32).toNatClampNeg 268435456) ∧ (∀ j, iv 0 268435456 (f_70 j)) ∧ va_P V.1 vwCl [(z 26, aI V 10000 f_70), (z 15, aI V 900 f_6), (z 16, aI V 6 f_7), (z 24, aI V 10000 f_8), (z 25, aI V 40000 f_9), (z 28, aZ V 10000 f_10), (z 0, .inr (10, mo z 0 pz0_5 pz0_6 pz0_7 pz0_8 pz0_9 pz0_10 pz0_11 pz0_12 pz0_13 pz0_14 pz0_18 pz0_19 pz0_22 pz0_23 v_11)), (z 1, aI V 3075 fz1)] H ∧ va_D A [(z 26, aI V 10000 f_70), (z 15, aI V 900 f_6), (z 16, aI V 6 f_7), (z 24, aI V 10000 f_8), (z 25, aI V 40000 f_9), (z 28, aZ V 10000 f_10), (z 0, .inr (10, mo z 0 pz0_5 pz0_6 pz0_7 pz0_8 pz0_9 pz0_10 pz0_11 pz0_12 pz0_13 pz0_14 pz0_18 pz0_19 pz0_22 pz0_23 v_11)), (z 1, aI V 3075 fz1)] := ⟨_, rfl, ivU tf_16 _ (iv_c (268435456 : Int32) (by decide)), hP, hD⟩
      obtain ⟨x_71, ex_71⟩ : ∃ z9 : Int32, z9 = u_15 + 1 := ⟨_, rfl⟩
      have bx_71 : iv 1 10000 x_71 := by rw [ex_71]; exact iv_add b_67 (iv_c (1 : Int32) (a := 1) (b := 1) (by decide)) (by decide)
      refine lv_iinc (v := x_71) (lv' := [(2, .int x_71), (0, .ref (z 0)), (1, .int a1)]) hx hb dX10_keeps_43 hl (k := 0) rfl (by rw [ex_71]; rfl) (by decide) rfl (fun ls hl => ?_)
      refine lv_goto (tgt := 21) hx hb dX10_keeps_46 (by decide) ?_
      exact ihn_17 _ _ _ _ (by rw [en_17, ex_71]; exact mu_up b_67 (by decide)) ⟨x_71, f_70, (iv_w bx_71 (by decide)), tf_70, inn_17_0, rfl, hP, hD, hS, lv_sub hl [0, 1, 2] rfl⟩
  · have b_72 : iv 0 0 r_1 := iv_q c_3 (iv_c (0 : Int32) (a := 0) (b := 0) (by decide))
    refine lv_bipush (v := (-3)) hx hb dX10_keeps_12 (by decide) ?_
    exact fiI hx hb hr hlk hK hP hD hS dX10_keeps_14 (Nat.le_of_ble_eq_true rfl) (Nat.le_of_ble_eq_true rfl) (⟨0, pz0_29, fz15, fz16, fz24, fz25, fz26, fz28, bpz0_29, tfz16, tfz24, tfz25, tfz26, hf0, rfl⟩)
theorem dX10_reaches_0 : decode cX10_reaches 0 = .ok (.aload_n 0, 1) := by decide +kernel
theorem dX10_reaches_1 : decode cX10_reaches 1 = .ok (.iconst 0, 1) := by decide +kernel
theorem dX10_reaches_2 : decode cX10_reaches 2 = .ok (.putfield 1, 3) := by decide +kernel
theorem dX10_reaches_5 : decode cX10_reaches 5 = .ok (.aload_n 0, 1) := by decide +kernel
theorem dX10_reaches_6 : decode cX10_reaches 6 = .ok (.iload_n 1, 1) := by decide +kernel
theorem dX10_reaches_7 : decode cX10_reaches 7 = .ok (.i2l, 1) := by decide +kernel
theorem dX10_reaches_8 : decode cX10_reaches 8 = .ok (.invokevirtual 262, 3) := by decide +kernel
theorem dX10_reaches_11 : decode cX10_reaches 11 = .ok (.ifCond .eq 13, 3) := by decide +kernel
theorem dX10_reaches_24 : decode cX10_reaches 24 = .ok (.bipush (-2), 2) := by decide +kernel
theorem dX10_reaches_26 : decode cX10_reaches 26 = .ok (.ireturn, 1) := by decide +kernel
theorem dX10_reaches_14 : decode cX10_reaches 14 = .ok (.iload_n 2, 1) := by decide +kernel
theorem dX10_reaches_15 : decode cX10_reaches 15 = .ok (.i2l, 1) := by decide +kernel
theorem dX10_reaches_16 : decode cX10_reaches 16 = .ok (.lconst 0, 1) := by decide +kernel
theorem dX10_reaches_17 : decode cX10_reaches 17 = .ok (.lconst 1, 1) := by decide +kernel
theorem dX10_reaches_18 : decode cX10_reaches 18 = .ok (.invokestatic 159, 3) := by decide +kernel
theorem dX10_reaches_21 : decode cX10_reaches 21 = .ok (.ifCond .ne 6, 3) := by decide +kernel
theorem dX10_reaches_27 : decode cX10_reaches 27 = .ok (.aload_n 0, 1) := by decide +kernel
theorem dX10_reaches_28 : decode cX10_reaches 28 = .ok (.invokevirtual 362, 3) := by decide +kernel
theorem dX10_reaches_31 : decode cX10_reaches 31 = .ok (.aload_n 0, 1) := by decide +kernel
theorem dX10_reaches_32 : decode cX10_reaches 32 = .ok (.getfield 13, 3) := by decide +kernel
theorem dX10_reaches_35 : decode cX10_reaches 35 = .ok (.bipush 46, 2) := by decide +kernel
theorem dX10_reaches_37 : decode cX10_reaches 37 = .ok (.iload_n 1, 1) := by decide +kernel
theorem dX10_reaches_38 : decode cX10_reaches 38 = .ok (.iadd, 1) := by decide +kernel
theorem dX10_reaches_39 : decode cX10_reaches 39 = .ok (.iaload, 1) := by decide +kernel
theorem dX10_reaches_40 : decode cX10_reaches 40 = .ok (.istore_n 3, 1) := by decide +kernel
theorem dX10_reaches_41 : decode cX10_reaches 41 = .ok (.iconst 0, 1) := by decide +kernel
theorem dX10_reaches_42 : decode cX10_reaches 42 = .ok (.istore 4, 2) := by decide +kernel
theorem dX10_reaches_44 : decode cX10_reaches 44 = .ok (.iload 4, 2) := by decide +kernel
theorem dX10_reaches_46 : decode cX10_reaches 46 = .ok (.aload_n 0, 1) := by decide +kernel
theorem dX10_reaches_47 : decode cX10_reaches 47 = .ok (.getfield 355, 3) := by decide +kernel
theorem dX10_reaches_50 : decode cX10_reaches 50 = .ok (.if_icmp .ge 48, 3) := by decide +kernel
theorem dX10_reaches_98 : decode cX10_reaches 98 = .ok (.iload_n 3, 1) := by decide +kernel
theorem dX10_reaches_99 : decode cX10_reaches 99 = .ok (.ireturn, 1) := by decide +kernel
theorem dX10_reaches_53 : decode cX10_reaches 53 = .ok (.aload_n 0, 1) := by decide +kernel
theorem dX10_reaches_54 : decode cX10_reaches 54 = .ok (.getfield 45, 3) := by decide +kernel
theorem dX10_reaches_57 : decode cX10_reaches 57 = .ok (.iload 4, 2) := by decide +kernel
theorem dX10_reaches_59 : decode cX10_reaches 59 = .ok (.iaload, 1) := by decide +kernel
theorem dX10_reaches_60 : decode cX10_reaches 60 = .ok (.iload_n 1, 1) := by decide +kernel
theorem dX10_reaches_61 : decode cX10_reaches 61 = .ok (.invokestatic 231, 3) := by decide +kernel
theorem dX10_reaches_64 : decode cX10_reaches 64 = .ok (.istore 5, 2) := by decide +kernel
theorem dX10_reaches_66 : decode cX10_reaches 66 = .ok (.iload_n 2, 1) := by decide +kernel
theorem dX10_reaches_67 : decode cX10_reaches 67 = .ok (.ifCond .ne 12, 3) := by decide +kernel
theorem dX10_reaches_79 : decode cX10_reaches 79 = .ok (.iload 5, 2) := by decide +kernel
theorem dX10_reaches_81 : decode cX10_reaches 81 = .ok (.iload_n 3, 1) := by decide +kernel
theorem dX10_reaches_82 : decode cX10_reaches 82 = .ok (.if_icmp .ge 8, 3) := by decide +kernel
theorem dX10_reaches_90 : decode cX10_reaches 90 = .ok (.iload_n 3, 1) := by decide +kernel
theorem dX10_reaches_91 : decode cX10_reaches 91 = .ok (.istore_n 3, 1) := by decide +kernel
theorem dX10_reaches_92 : decode cX10_reaches 92 = .ok (.iinc 4 1, 3) := by decide +kernel
theorem dX10_reaches_95 : decode cX10_reaches 95 = .ok (.goto (-51), 3) := by decide +kernel
theorem dX10_reaches_85 : decode cX10_reaches 85 = .ok (.iload 5, 2) := by decide +kernel
theorem dX10_reaches_87 : decode cX10_reaches 87 = .ok (.goto 4, 3) := by decide +kernel
theorem dX10_reaches_70 : decode cX10_reaches 70 = .ok (.iload 5, 2) := by decide +kernel
theorem dX10_reaches_72 : decode cX10_reaches 72 = .ok (.iload_n 3, 1) := by decide +kernel
theorem dX10_reaches_73 : decode cX10_reaches 73 = .ok (.if_icmp .le 17, 3) := by decide +kernel
theorem dX10_reaches_76 : decode cX10_reaches 76 = .ok (.goto 9, 3) := by decide +kernel
set_option maxHeartbeats 4000000 in
set_option maxRecDepth 100000 in
theorem k_X10_reaches_0 (l : Launch) (V : GV) (z : Nat → Nat) (a1 : Int32) (a2 : Int32) (pz0_0 : Int32) (pz0_5 : Int32) (pz0_6 : Int32) (pz0_7 : Int32) (pz0_8 : Int32) (pz0_9 : Int32) (pz0_10 : Int32) (pz0_11 : Int32) (pz0_12 : Int32) (pz0_13 : Int32) (pz0_14 : Int32) (pz0_18 : Int32) (pz0_19 : Int32) (pz0_22 : Int32) (pz0_23 : Int32) (pz0_29 : Int32) (fz1 : Nat → Int32) (fz15 : Nat → Int32) (fz16 : Nat → Int32) (fz24 : Nat → Int32) (fz25 : Nat → Int32) (fz28 : Nat → Int32) (bpz0_5 : iv 0 900 pz0_5) (bpz0_6 : iv 0 900 pz0_6) (bpz0_7 : iv 0 900 pz0_7) (bpz0_8 : iv 0 900 pz0_8) (bpz0_10 : iv 0 999 pz0_10) (bpz0_11 : iv 0 4 pz0_11) (bpz0_12 : iv 0 900 pz0_12) (bpz0_13 : iv 0 4 pz0_13) (bpz0_14 : iv (-1) 900 pz0_14) (bpz0_18 : iv 0 2 pz0_18) (bpz0_22 : iv 0 9999 pz0_22) (bpz0_29 : iv 0 10000 pz0_29) (tfz1 : ivT tA fz1) (tfz16 : ivT tW fz16) (tfz24 : ∀ j, iv 0 9999 (fz24 j)) (tfz25 : ∀ j, iv (-1) 9999 (fz25 j)) (hf0 : RW fz1) : Ct l V yX10_reaches (.code yX10_reaches cX10_reaches 6 (some .int)) 6 [.ref (z 0), .int a1, .int a2] [(z 0, .inr (10, mo z pz0_0 pz0_5 pz0_6 pz0_7 pz0_8 pz0_9 pz0_10 pz0_11 pz0_12 pz0_13 pz0_14 pz0_18 pz0_19 pz0_22 pz0_23 pz0_29)), (z 1, aI V 3075 fz1), (z 15, aI V 900 fz15), (z 16, aI V 6 fz16), (z 24, aI V 10000 fz24), (z 25, aI V 40000 fz25), (z 28, aZ V 10000 fz28)] 0 0 (QI V (fun (r : Int32) (w : va_W) => ∃ (v0 : Int32) (v1 : Int32) (g2 : Nat → Int32) (g3 : Nat → Int32) (g4 : Nat → Int32) (g5 : Nat → Int32) (g6 : Nat → Int32), iv 0 10000 v1 ∧ (ivT tW g3) ∧ (∀ j, iv 0 9999 (g4 j)) ∧ (∀ j, iv (-1) 9999 (g5 j)) ∧ (RW fz1) ∧ w = [(z 0, .inr (10, mo z v0 pz0_5 pz0_6 pz0_7 pz0_8 pz0_9 pz0_10 pz0_11 pz0_12 pz0_13 pz0_14 pz0_18 pz0_19 pz0_22 pz0_23 v1)), (z 1, aI V 3075 fz1), (z 15, aI V 900 g2), (z 16, aI V 6 g3), (z 24, aI V 10000 g4), (z 25, aI V 40000 g5), (z 28, aZ V 10000 g6)])) := by
  refine Ct.of (by decide) (Nat.le_of_ble_eq_true rfl) (fun p e s m below meth c A ls hx hb hr hml hown hlk hnm hg hP hK hD hE hA hS hl => ?_)
  have hl : lv_has ls 6 [(0, .ref (z 0)), (1, .int a1), (2, .int a2)] := hl
  refine lv_aload_n hx hb dX10_reaches_0 rfl (lv_at hl 0 rfl) ?_
  refine lv_iconst (v := 0) hx hb dX10_reaches_1 (by decide) ?_
  refine va_put (ci := 10) (v := .int 0) (ty := .int) (C := RX10) (T := TX10) (N := 40) hx hb hg inX10 tyX10 tyX10_ok nmX10 hown hK hP hD hS 0 rfl rfl 0 (by decide) (hg _ q_5_224) (fun _ h9 => h9) rfl (by decide +kernel) rfl rfl (Nat.le_of_ble_eq_true rfl) dX10_reaches_2 (fun H locs hP hD hS => ?_)
  have hP : va_P V.1 vwCl [(z 0, .inr (10, mo z 0 pz0_5 pz0_6 pz0_7 pz0_8 pz0_9 pz0_10 pz0_11 pz0_12 pz0_13 pz0_14 pz0_18 pz0_19 pz0_22 pz0_23 pz0_29)), (z 1, aI V 3075 fz1), (z 15, aI V 900 fz15), (z 16, aI V 6 fz16), (z 24, aI V 10000 fz24), (z 25, aI V 40000 fz25), (z 28, aZ V 10000 fz28)] H := hP
  have hD := cpD hP hD
  refine lv_aload_n hx hb dX10_reaches_5 rfl (lv_at hl 0 rfl) ?_
  refine lv_iload_n hx hb dX10_reaches_6 rfl (lv_at hl 1 rfl) ?_
  refine lv_i2l hx hb dX10_reaches_7 rfl ?_
  refine lv_topl (fun j_1 ej_1 => ?_)
  refine jnI (wr := [(z 15, aI V 900 fz15), (z 16, aI V 6 fz16), (z 24, aI V 10000 fz24), (z 25, aI V 40000 fz25), (z 28, aZ V 10000 fz28)]) (rnV (rest := []) ⟨hx, hb, hml, hown, hg⟩ (k_X10_isHill_0 l V z j_1 0 pz0_5 pz0_6 pz0_7 pz0_8 pz0_9 pz0_10 pz0_11 pz0_12 pz0_13 pz0_14 pz0_18 pz0_19 pz0_22 pz0_23 pz0_29 fz1 bpz0_5 bpz0_6 bpz0_7 bpz0_8 bpz0_10 bpz0_11 bpz0_12 bpz0_13 bpz0_14 bpz0_18 bpz0_22 bpz0_29 tfz1) mt_X10_isHill q_6_235 ⟨Nat.le_of_ble_eq_true rfl, Nat.le_of_ble_eq_true rfl⟩ hK hP hD hS hA hE [0, 1] rfl rfl 0 rfl rfl rfl rfl hl.1 rfl (Nat.le_of_ble_eq_true rfl) dX10_reaches_8 ⟨Nat.le_of_ble_eq_true rfl, Nat.le_of_ble_eq_true rfl⟩) hP hD hS hA [0, 1] [2, 3, 4, 5, 6] rfl rfl rfl (by decide) (fun r_2 w H locs hw hP hD hS => ?_)
  obtain ⟨br_2, g_3, et_4, rfl⟩ := hw
  have hP : va_P V.1 vwCl [(z 15, aI V 900 fz15), (z 16, aI V 6 fz16), (z 24, aI V 10000 fz24), (z 25, aI V 40000 fz25), (z 28, aZ V 10000 fz28), (z 0, .inr (10, mo z 0 pz0_5 pz0_6 pz0_7 pz0_8 pz0_9 pz0_10 pz0_11 pz0_12 pz0_13 pz0_14 pz0_18 pz0_19 pz0_22 pz0_23 pz0_29)), (z 1, aI V 3075 fz1)] H := hP
  have hD := cpD hP hD
  refine lv_if_eq (tgt := 24) hx hb dX10_reaches_11 (by decide) (fun c_5 => ?_) (fun c_5 => ?_)
  · have b_6 : iv 0 0 r_2 := iv_q c_5 (iv_c (0 : Int32) (a := 0) (b := 0) (by decide))
    refine lv_bipush (v := (-2)) hx hb dX10_reaches_24 (by decide) ?_
    have hP := subP (ws' := [(z 0, .inr (10, mo z 0 pz0_5 pz0_6 pz0_7 pz0_8 pz0_9 pz0_10 pz0_11 pz0_12 pz0_13 pz0_14 pz0_18 pz0_19 pz0_22 pz0_23 pz0_29)), (z 1, aI V 3075 fz1), (z 15, aI V 900 fz15), (z 16, aI V 6 fz16), (z 24, aI V 10000 fz24), (z 25, aI V 40000 fz25), (z 28, aZ V 10000 fz28)]) hP [5, 6, 0, 1, 2, 3, 4] rfl
    have hD := subD hP hD [5, 6, 0, 1, 2, 3, 4] rfl rfl
    exact fiI hx hb hr hlk hK hP hD hS dX10_reaches_26 (Nat.le_of_ble_eq_true rfl) (Nat.le_of_ble_eq_true rfl) (⟨0, pz0_29, fz15, fz16, fz24, fz25, fz28, bpz0_29, tfz16, tfz24, tfz25, hf0, rfl⟩)
  · have b_7 : iv 1 1 r_2 := iv_n0 c_5 br_2 (iv_c (0 : Int32) (a := 0) (b := 0) (by decide)) (by decide)
    have b_8 : ivL 0 3 j_1 := ivL_cap (g_3 (iv_eqp b_7 (iv_c (1 : Int32) (by decide)))) (ivL_top j_1) (by decide)
    have b_9 : iv 0 3 a1 := iv_cap (ivL_i ej_1 b_8) (iv_top a1) (by decide)
    refine lv_iload_n hx hb dX10_reaches_14 rfl (lv_at hl 2 rfl) ?_
    refine lv_i2l hx hb dX10_reaches_15 rfl ?_
    refine lv_topl (fun j_10 ej_10 => ?_)
    refine lv_lconst (v := 0) hx hb dX10_reaches_16 (by decide) ?_
    refine lv_lconst (v := 1) hx hb dX10_reaches_17 (by decide) ?_
    refine jnI (wr := [(z 15, aI V 900 fz15), (z 16, aI V 6 fz16), (z 24, aI V 10000 fz24), (z 25, aI V 40000 fz25), (z 28, aZ V 10000 fz28), (z 0, .inr (10, mo z 0 pz0_5 pz0_6 pz0_7 pz0_8 pz0_9 pz0_10 pz0_11 pz0_12 pz0_13 pz0_14 pz0_18 pz0_19 pz0_22 pz0_23 pz0_29)), (z 1, aI V 3075 fz1)]) (rnS (rest := []) ⟨hx, hb, hml, hown, hg⟩ (k_X10_within_0 l V j_10 0 1) mt_X10_within q_6_114 ⟨Nat.le_of_ble_eq_true rfl, Nat.le_of_ble_eq_true rfl⟩ hK hP hD hS hA hE [] rfl rfl rfl hl.1 rfl (Nat.le_of_ble_eq_true rfl) dX10_reaches_18 ⟨Nat.le_of_ble_eq_true rfl, Nat.le_of_ble_eq_true rfl⟩) hP hD hS hA [] [0, 1, 2, 3, 4, 5, 6] rfl rfl rfl (by decide) (fun r_11 w H locs hw hP hD hS => ?_)
    obtain ⟨br_11, g_12, g_13, g_14, et_15, rfl⟩ := hw
    have hP : va_P V.1 vwCl [(z 15, aI V 900 fz15), (z 16, aI V 6 fz16), (z 24, aI V 10000 fz24), (z 25, aI V 40000 fz25), (z 28, aZ V 10000 fz28), (z 0, .inr (10, mo z 0 pz0_5 pz0_6 pz0_7 pz0_8 pz0_9 pz0_10 pz0_11 pz0_12 pz0_13 pz0_14 pz0_18 pz0_19 pz0_22 pz0_23 pz0_29)), (z 1, aI V 3075 fz1)] H := hP
    have hD := cpD hP hD
    refine lv_if_ne (tgt := 27) hx hb dX10_reaches_21 (by decide) (fun c_16 => ?_) (fun c_16 => ?_)
    · have b_17 : iv 1 1 r_11 := iv_n0 c_16 br_11 (iv_c (0 : Int32) (a := 0) (b := 0) (by decide)) (by decide)
      have c_18 : (0 : Int64) ≤ j_10 := (g_13 (iv_eqp b_17 (iv_c (1 : Int32) (by decide))))
      have b_19 : ivL 0 9223372036854775807 j_10 := ivL_e2 c_18 (ivL_c (0 : Int64) (a := 0) (b := 0) (by decide)) (ivL_top j_10) (by decide)
      have b_20 : iv 0 2147483647 a2 := iv_cap (ivL_i ej_10 b_19) (iv_top a2) (by decide)
      have c_21 : j_10 ≤ 1 := (g_14 (iv_eqp b_17 (iv_c (1 : Int32) (by decide))))
      have b_22 : ivL 0 1 j_10 := ivL_e1 c_21 b_19 (ivL_c (1 : Int64) (a := 1) (b := 1) (by decide)) (by decide)
      have b_23 : iv 0 1 a2 := iv_cap (ivL_i ej_10 b_22) b_20 (by decide)
      refine lv_aload_n hx hb dX10_reaches_27 rfl (lv_at hl 0 rfl) ?_
      refine jnV (wr := []) (rnV (rest := []) ⟨hx, hb, hml, hown, hg⟩ (k_X10_laysStands_0 l V z fz15 fz16 fz24 fz25 fz28 0 pz0_5 pz0_6 pz0_7 pz0_8 pz0_9 pz0_10 pz0_11 pz0_12 pz0_13 pz0_14 pz0_18 pz0_19 pz0_22 pz0_23 pz0_29 fz1 tfz16 tfz24 tfz25 bpz0_5 bpz0_6 bpz0_7 bpz0_8 bpz0_10 bpz0_11 bpz0_12 bpz0_13 bpz0_14 bpz0_18 bpz0_22 bpz0_29 tfz1 hf0) mt_X10_laysStands q_7_194 ⟨Nat.le_of_ble_eq_true rfl, Nat.le_of_ble_eq_true rfl⟩ hK hP hD hS hA hE [0, 1, 2, 3, 4, 5, 6] rfl rfl 5 rfl rfl rfl rfl hl.1 rfl (Nat.le_of_ble_eq_true rfl) dX10_reaches_28 ⟨Nat.le_of_ble_eq_true rfl, Nat.le_of_ble_eq_true rfl⟩) hP hD hS hA [0, 1, 2, 3, 4, 5, 6] [] rfl rfl rfl (by decide) (fun  w H locs hw hP hD hS => ?_)
      obtain ⟨f_24, f_25, f_26, f_27, f_28, v_29, tf_25, tf_26, tf_27, bv_29, g_30, g_31, g_32, rfl⟩ := hw
      have hP : va_P V.1 vwCl [(z 15, aI V 900 f_24), (z 16, aI V 6 f_25), (z 24, aI V 10000 f_26), (z 25, aI V 40000 f_27), (z 28, aZ V 10000 f_28), (z 0, .inr (10, mo z 0 pz0_5 pz0_6 pz0_7 pz0_8 pz0_9 pz0_10 pz0_11 pz0_12 pz0_13 pz0_14 pz0_18 pz0_19 pz0_22 pz0_23 v_29)), (z 1, aI V 3075 fz1)] H := hP
      have hD := cpD hP hD
      refine lv_aload_n hx hb dX10_reaches_31 rfl (lv_at hl 0 rfl) ?_
      refine va_get (ci := 10) (v := .ref (z 1)) (C := RX10) (T := TX10) (N := 40) hx hb hg inX10 hown hK hP 5 rfl rfl 1 (by decide) (hg _ q_5_225) (fun _ h9 => h9) rfl dX10_reaches_32 ?_
      refine lv_bipush (v := 46) hx hb dX10_reaches_35 (by decide) ?_
      refine lv_iload_n hx hb dX10_reaches_37 rfl (lv_at hl 1 rfl) ?_
      refine lv_iadd hx hb dX10_reaches_38 ?_
      refine lv_topi (fun x_33 ex_33 => ?_)
      have bx_33 : iv 46 49 x_33 := by rw [ex_33]; exact iv_add (iv_c (46 : Int32) (a := 46) (b := 46) (by decide)) b_9 (by decide)
      refine va_iald hx hb hK hP 6 0 rfl rfl (iv_in bx_33 (by decide)) dX10_reaches_39 ?_
      refine lv_topi (fun x_34 ex_34 => ?_)
      have bx_34 : iv 0 4 x_34 := by rw [ex_34]; exact rdT (a := 46) (n := 4) tfz1 bx_33 (by decide) (by decide +kernel)
      refine lv_istore_n (lv' := [(3, .int x_34), (0, .ref (z 0)), (1, .int a1), (2, .int a2)]) hx hb dX10_reaches_40 rfl hl (by decide) rfl (fun ls hl => ?_)
      refine lv_iconst (v := 0) hx hb dX10_reaches_41 (by decide) ?_
      refine lv_istore (lv' := [(4, .int 0), (3, .int x_34), (0, .ref (z 0)), (1, .int a1), (2, .int a2)]) hx hb dX10_reaches_42 hl (by decide) rfl (fun ls hl => ?_)
      refine loopF (X := fun (n_37 : Nat) (H : Heap) (locs : List Loc) (ls : Array Slot) => ∃ (u_35 : Int32) (u_36 : Int32), (iv 0 2147483647 u_35) ∧ (RW fz1) ∧ n_37 = (2147483647 - (u_35 : Int32).toInt).toNat ∧ va_P V.1 vwCl [(z 15, aI V 900 f_24), (z 16, aI V 6 f_25), (z 24, aI V 10000 f_26), (z 25, aI V 40000 f_27), (z 28, aZ V 10000 f_28), (z 0, .inr (10, mo z 0 pz0_5 pz0_6 pz0_7 pz0_8 pz0_9 pz0_10 pz0_11 pz0_12 pz0_13 pz0_14 pz0_18 pz0_19 pz0_22 pz0_23 v_29)), (z 1, aI V 3075 fz1)] H ∧ va_D A [(z 15, aI V 900 f_24), (z 16, aI V 6 f_25), (z 24, aI V 10000 f_26), (z 25, aI V 40000 f_27), (z 28, aZ V 10000 f_28), (z 0, .inr (10, mo z 0 pz0_5 pz0_6 pz0_7 pz0_8 pz0_9 pz0_10 pz0_11 pz0_12 pz0_13 pz0_14 pz0_18 pz0_19 pz0_22 pz0_23 v_29)), (z 1, aI V 3075 fz1)] ∧ va_S A s.heap H locs ∧ lv_has ls 6 [(4, .int u_35), (3, .int u_36), (0, .ref (z 0)), (1, .int a1), (2, .int a2)]) (g := fun ls => F0 m 44 ls []) (fun n_37 H locs ls hX ihn_37 => ?_) _ ⟨0, x_34, (iv_c (0 : Int32) (by decide)), g_30, rfl, hP, hD, hS, lv_sub hl [0, 1, 2, 3, 4] rfl⟩
      obtain ⟨u_35, u_36, bu_35, inn_37_0, en_37, hP, hD, hS, hl⟩ := hX
      refine lv_iload hx hb dX10_reaches_44 (lv_at hl 0 rfl) ?_
      refine lv_aload_n hx hb dX10_reaches_46 rfl (lv_at hl 2 rfl) ?_
      refine va_get (ci := 10) (v := .int v_29) (C := RX10) (T := TX10) (N := 40) hx hb hg inX10 hown hK hP 5 rfl rfl 29 (by decide) (hg _ q_6_13) (fun _ h9 => h9) rfl dX10_reaches_47 ?_
      refine lv_icmp_ge (tgt := 98) hx hb dX10_reaches_50 (by decide) (fun c_38 => ?_) (fun c_38 => ?_)
      · refine lv_iload_n hx hb dX10_reaches_98 rfl (lv_at hl 1 rfl) ?_
        have hP := subP (ws' := [(z 0, .inr (10, mo z 0 pz0_5 pz0_6 pz0_7 pz0_8 pz0_9 pz0_10 pz0_11 pz0_12 pz0_13 pz0_14 pz0_18 pz0_19 pz0_22 pz0_23 v_29)), (z 1, aI V 3075 fz1), (z 15, aI V 900 f_24), (z 16, aI V 6 f_25), (z 24, aI V 10000 f_26), (z 25, aI V 40000 f_27), (z 28, aZ V 10000 f_28)]) hP [5, 6, 0, 1, 2, 3, 4] rfl
        have hD := subD hP hD [5, 6, 0, 1, 2, 3, 4] rfl rfl
        exact fiI hx hb hr hlk hK hP hD hS dX10_reaches_99 (Nat.le_of_ble_eq_true rfl) (Nat.le_of_ble_eq_true rfl) (⟨0, v_29, f_24, f_25, f_26, f_27, f_28, bv_29, tf_25, tf_26, tf_27, inn_37_0, rfl⟩)
      · have b_39 : iv 0 9999 u_35 := iv_l1 (Int32.not_le.mp c_38) bu_35 bv_29 (by decide)
        have b_40 : iv 1 10000 v_29 := iv_l2 (Int32.not_le.mp c_38) bu_35 bv_29 (by decide)
        refine lv_aload_n hx hb dX10_reaches_53 rfl (lv_at hl 2 rfl) ?_
        refine va_get (ci := 10) (v := .ref (z 24)) (C := RX10) (T := TX10) (N := 40) hx hb hg inX10 hown hK hP 5 rfl rfl 24 (by decide) (hg _ q_6_8) (fun _ h9 => h9) rfl dX10_reaches_54 ?_
        refine lv_iload hx hb dX10_reaches_57 (lv_at hl 0 rfl) ?_
        refine va_iald hx hb hK hP 2 0 rfl rfl (iv_in b_39 (by decide)) dX10_reaches_59 ?_
        refine lv_topi (fun x_41 ex_41 => ?_)
        have bx_41 : iv 0 9999 x_41 := by rw [ex_41]; exact tf_26 _
        refine lv_iload_n hx hb dX10_reaches_60 rfl (lv_at hl 3 rfl) ?_
        refine jnI (wr := [(z 15, aI V 900 f_24), (z 16, aI V 6 f_25), (z 24, aI V 10000 f_26), (z 25, aI V 40000 f_27), (z 28, aZ V 10000 f_28), (z 0, .inr (10, mo z 0 pz0_5 pz0_6 pz0_7 pz0_8 pz0_9 pz0_10 pz0_11 pz0_12 pz0_13 pz0_14 pz0_18 pz0_19 pz0_22 pz0_23 v_29)), (z 1, aI V 3075 fz1)]) (rnS (rest := []) ⟨hx, hb, hml, hown, hg⟩ (k_X10_stackIn_0 l V x_41 a1 bx_41 b_9) mt_X10_stackIn q_7_26 ⟨Nat.le_of_ble_eq_true rfl, Nat.le_of_ble_eq_true rfl⟩ hK hP hD hS hA hE [] rfl rfl rfl hl.1 rfl (Nat.le_of_ble_eq_true rfl) dX10_reaches_61 ⟨Nat.le_of_ble_eq_true rfl, Nat.le_of_ble_eq_true rfl⟩) hP hD hS hA [] [0, 1, 2, 3, 4, 5, 6] rfl rfl rfl (by decide) (fun r_42 w H locs hw hP hD hS => ?_)
        obtain ⟨br_42, er_42, et_43, rfl⟩ := hw
        have hP : va_P V.1 vwCl [(z 15, aI V 900 f_24), (z 16, aI V 6 f_25), (z 24, aI V 10000 f_26), (z 25, aI V 40000 f_27), (z 28, aZ V 10000 f_28), (z 0, .inr (10, mo z 0 pz0_5 pz0_6 pz0_7 pz0_8 pz0_9 pz0_10 pz0_11 pz0_12 pz0_13 pz0_14 pz0_18 pz0_19 pz0_22 pz0_23 v_29)), (z 1, aI V 3075 fz1)] H := hP
        have hD := cpD hP hD
        refine lv_istore (lv' := [(5, .int r_42), (4, .int u_35), (3, .int u_36), (0, .ref (z 0)), (1, .int a1), (2, .int a2)]) hx hb dX10_reaches_64 hl (by decide) rfl (fun ls hl => ?_)
        refine lv_iload_n hx hb dX10_reaches_66 rfl (lv_at hl 5 rfl) ?_
        refine lv_if_ne (tgt := 79) hx hb dX10_reaches_67 (by decide) (fun c_44 => ?_) (fun c_44 => ?_)
        · have b_45 : iv 1 1 a2 := iv_n0 c_44 b_23 (iv_c (0 : Int32) (a := 0) (b := 0) (by decide)) (by decide)
          refine lv_iload hx hb dX10_reaches_79 (lv_at hl 0 rfl) ?_
          refine lv_iload_n hx hb dX10_reaches_81 rfl (lv_at hl 2 rfl) ?_
          refine lv_icmp_ge (tgt := 90) hx hb dX10_reaches_82 (by decide) (fun c_46 => ?_) (fun c_46 => ?_)
          · have b_47 : iv (-2147483648) 4 u_36 := iv_e1 c_46 (iv_top u_36) br_42 (by decide)
            refine lv_iload_n hx hb dX10_reaches_90 rfl (lv_at hl 2 rfl) ?_
            refine lv_istore_n (lv' := [(3, .int u_36), (5, .int r_42), (4, .int u_35), (0, .ref (z 0)), (1, .int a1), (2, .int a2)]) hx hb dX10_reaches_91 rfl hl (by decide) rfl (fun ls hl => ?_)
            obtain ⟨x_48, ex_48⟩ : ∃ z9 : Int32, z9 = u_35 + 1 := ⟨_, rfl⟩
            have bx_48 : iv 1 10000 x_48 := by rw [ex_48]; exact iv_add b_39 (iv_c (1 : Int32) (a := 1) (b := 1) (by decide)) (by decide)
            refine lv_iinc (v := x_48) (lv' := [(4, .int x_48), (3, .int u_36), (5, .int r_42), (0, .ref (z 0)), (1, .int a1), (2, .int a2)]) hx hb dX10_reaches_92 hl (k := 2) rfl (by rw [ex_48]; rfl) (by decide) rfl (fun ls hl => ?_)
            refine lv_goto (tgt := 44) hx hb dX10_reaches_95 (by decide) ?_
            exact ihn_37 _ _ _ _ (by rw [en_37, ex_48]; exact mu_up b_39 (by decide)) ⟨x_48, u_36, (iv_w bx_48 (by decide)), inn_37_0, rfl, hP, hD, hS, lv_sub hl [0, 1, 3, 4, 5] rfl⟩
          · have b_49 : iv 1 2147483647 u_36 := iv_l2 (Int32.not_le.mp c_46) br_42 (iv_top u_36) (by decide)
            refine lv_iload hx hb dX10_reaches_85 (lv_at hl 0 rfl) ?_
            refine lv_goto (tgt := 91) hx hb dX10_reaches_87 (by decide) ?_
            refine lv_istore_n (lv' := [(3, .int r_42), (5, .int r_42), (4, .int u_35), (0, .ref (z 0)), (1, .int a1), (2, .int a2)]) hx hb dX10_reaches_91 rfl hl (by decide) rfl (fun ls hl => ?_)
            obtain ⟨x_50, ex_50⟩ : ∃ z9 : Int32, z9 = u_35 + 1 := ⟨_, rfl⟩
            have bx_50 : iv 1 10000 x_50 := by rw [ex_50]; exact iv_add b_39 (iv_c (1 : Int32) (a := 1) (b := 1) (by decide)) (by decide)
            refine lv_iinc (v := x_50) (lv' := [(4, .int x_50), (3, .int r_42), (5, .int r_42), (0, .ref (z 0)), (1, .int a1), (2, .int a2)]) hx hb dX10_reaches_92 hl (k := 2) rfl (by rw [ex_50]; rfl) (by decide) rfl (fun ls hl => ?_)
            refine lv_goto (tgt := 44) hx hb dX10_reaches_95 (by decide) ?_
            exact ihn_37 _ _ _ _ (by rw [en_37, ex_50]; exact mu_up b_39 (by decide)) ⟨x_50, r_42, (iv_w bx_50 (by decide)), inn_37_0, rfl, hP, hD, hS, lv_sub hl [0, 1, 3, 4, 5] rfl⟩
        · have b_51 : iv 0 0 a2 := iv_q c_44 (iv_c (0 : Int32) (a := 0) (b := 0) (by decide))
          refine lv_iload hx hb dX10_reaches_70 (lv_at hl 0 rfl) ?_
          refine lv_iload_n hx hb dX10_reaches_72 rfl (lv_at hl 2 rfl) ?_
          refine lv_icmp_le (tgt := 90) hx hb dX10_reaches_73 (by decide) (fun c_52 => ?_) (fun c_52 => ?_)
          · have b_53 : iv 0 2147483647 u_36 := iv_e2 c_52 br_42 (iv_top u_36) (by decide)
            refine lv_iload_n hx hb dX10_reaches_90 rfl (lv_at hl 2 rfl) ?_
            refine lv_istore_n (lv' := [(3, .int u_36), (5, .int r_42), (4, .int u_35), (0, .ref (z 0)), (1, .int a1), (2, .int a2)]) hx hb dX10_reaches_91 rfl hl (by decide) rfl (fun ls hl => ?_)
            obtain ⟨x_54, ex_54⟩ : ∃ z9 : Int32, z9 = u_35 + 1 := ⟨_, rfl⟩
            have bx_54 : iv 1 10000 x_54 := by rw [ex_54]; exact iv_add b_39 (iv_c (1 : Int32) (a := 1) (b := 1) (by decide)) (by decide)
            refine lv_iinc (v := x_54) (lv' := [(4, .int x_54), (3, .int u_36), (5, .int r_42), (0, .ref (z 0)), (1, .int a1), (2, .int a2)]) hx hb dX10_reaches_92 hl (k := 2) rfl (by rw [ex_54]; rfl) (by decide) rfl (fun ls hl => ?_)
            refine lv_goto (tgt := 44) hx hb dX10_reaches_95 (by decide) ?_
            exact ihn_37 _ _ _ _ (by rw [en_37, ex_54]; exact mu_up b_39 (by decide)) ⟨x_54, u_36, (iv_w bx_54 (by decide)), inn_37_0, rfl, hP, hD, hS, lv_sub hl [0, 1, 3, 4, 5] rfl⟩
          · have b_55 : iv (-2147483648) 3 u_36 := iv_l1 (Int32.not_le.mp c_52) (iv_top u_36) br_42 (by decide)
            refine lv_goto (tgt := 85) hx hb dX10_reaches_76 (by decide) ?_
            refine lv_iload hx hb dX10_reaches_85 (lv_at hl 0 rfl) ?_
            refine lv_goto (tgt := 91) hx hb dX10_reaches_87 (by decide) ?_
            refine lv_istore_n (lv' := [(3, .int r_42), (5, .int r_42), (4, .int u_35), (0, .ref (z 0)), (1, .int a1), (2, .int a2)]) hx hb dX10_reaches_91 rfl hl (by decide) rfl (fun ls hl => ?_)
            obtain ⟨x_56, ex_56⟩ : ∃ z9 : Int32, z9 = u_35 + 1 := ⟨_, rfl⟩
            have bx_56 : iv 1 10000 x_56 := by rw [ex_56]; exact iv_add b_39 (iv_c (1 : Int32) (a := 1) (b := 1) (by decide)) (by decide)
            refine lv_iinc (v := x_56) (lv' := [(4, .int x_56), (3, .int r_42), (5, .int r_42), (0, .ref (z 0)), (1, .int a1), (2, .int a2)]) hx hb dX10_reaches_92 hl (k := 2) rfl (by rw [ex_56]; rfl) (by decide) rfl (fun ls hl => ?_)
            refine lv_goto (tgt := 44) hx hb dX10_reaches_95 (by decide) ?_
            exact ihn_37 _ _ _ _ (by rw [en_37, ex_56]; exact mu_up b_39 (by decide)) ⟨x_56, r_42, (iv_w bx_56 (by decide)), inn_37_0, rfl, hP, hD, hS, lv_sub hl [0, 1, 3, 4, 5] rfl⟩
    · have b_57 : iv 0 0 r_11 := iv_q c_16 (iv_c (0 : Int32) (a := 0) (b := 0) (by decide))
      refine lv_bipush (v := (-2)) hx hb dX10_reaches_24 (by decide) ?_
      have hP := subP (ws' := [(z 0, .inr (10, mo z 0 pz0_5 pz0_6 pz0_7 pz0_8 pz0_9 pz0_10 pz0_11 pz0_12 pz0_13 pz0_14 pz0_18 pz0_19 pz0_22 pz0_23 pz0_29)), (z 1, aI V 3075 fz1), (z 15, aI V 900 fz15), (z 16, aI V 6 fz16), (z 24, aI V 10000 fz24), (z 25, aI V 40000 fz25), (z 28, aZ V 10000 fz28)]) hP [5, 6, 0, 1, 2, 3, 4] rfl
      have hD := subD hP hD [5, 6, 0, 1, 2, 3, 4] rfl rfl
      exact fiI hx hb hr hlk hK hP hD hS dX10_reaches_26 (Nat.le_of_ble_eq_true rfl) (Nat.le_of_ble_eq_true rfl) (⟨0, pz0_29, fz15, fz16, fz24, fz25, fz28, bpz0_29, tfz16, tfz24, tfz25, hf0, rfl⟩)
theorem dX10_stands_0 : decode cX10_stands 0 = .ok (.aload_n 0, 1) := by decide +kernel
theorem dX10_stands_1 : decode cX10_stands 1 = .ok (.iconst 0, 1) := by decide +kernel
theorem dX10_stands_2 : decode cX10_stands 2 = .ok (.putfield 1, 3) := by decide +kernel
theorem dX10_stands_5 : decode cX10_stands 5 = .ok (.aload_n 0, 1) := by decide +kernel
theorem dX10_stands_6 : decode cX10_stands 6 = .ok (.invokevirtual 362, 3) := by decide +kernel
theorem dX10_stands_9 : decode cX10_stands 9 = .ok (.aload_n 0, 1) := by decide +kernel
theorem dX10_stands_10 : decode cX10_stands 10 = .ok (.getfield 355, 3) := by decide +kernel
theorem dX10_stands_13 : decode cX10_stands 13 = .ok (.ireturn, 1) := by decide +kernel
set_option maxHeartbeats 4000000 in
set_option maxRecDepth 100000 in
theorem k_X10_stands_0 (l : Launch) (V : GV) (z : Nat → Nat) (pz0_0 : Int32) (pz0_5 : Int32) (pz0_6 : Int32) (pz0_7 : Int32) (pz0_8 : Int32) (pz0_9 : Int32) (pz0_10 : Int32) (pz0_11 : Int32) (pz0_12 : Int32) (pz0_13 : Int32) (pz0_14 : Int32) (pz0_18 : Int32) (pz0_19 : Int32) (pz0_22 : Int32) (pz0_23 : Int32) (pz0_29 : Int32) (fz1 : Nat → Int32) (fz15 : Nat → Int32) (fz16 : Nat → Int32) (fz24 : Nat → Int32) (fz25 : Nat → Int32) (fz28 : Nat → Int32) (bpz0_5 : iv 0 900 pz0_5) (bpz0_6 : iv 0 900 pz0_6) (bpz0_7 : iv 0 900 pz0_7) (bpz0_8 : iv 0 900 pz0_8) (bpz0_10 : iv 0 999 pz0_10) (bpz0_11 : iv 0 4 pz0_11) (bpz0_12 : iv 0 900 pz0_12) (bpz0_13 : iv 0 4 pz0_13) (bpz0_14 : iv (-1) 900 pz0_14) (bpz0_18 : iv 0 2 pz0_18) (bpz0_22 : iv 0 9999 pz0_22) (bpz0_29 : iv 0 10000 pz0_29) (tfz1 : ivT tA fz1) (tfz16 : ivT tW fz16) (tfz24 : ∀ j, iv 0 9999 (fz24 j)) (tfz25 : ∀ j, iv (-1) 9999 (fz25 j)) (hf0 : RW fz1) : Ct l V yX10_stands (.code yX10_stands cX10_stands 1 (some .int)) 6 [.ref (z 0)] [(z 0, .inr (10, mo z pz0_0 pz0_5 pz0_6 pz0_7 pz0_8 pz0_9 pz0_10 pz0_11 pz0_12 pz0_13 pz0_14 pz0_18 pz0_19 pz0_22 pz0_23 pz0_29)), (z 1, aI V 3075 fz1), (z 15, aI V 900 fz15), (z 16, aI V 6 fz16), (z 24, aI V 10000 fz24), (z 25, aI V 40000 fz25), (z 28, aZ V 10000 fz28)] 0 0 (QI V (fun (r : Int32) (w : va_W) => ∃ (v0 : Int32) (v1 : Int32) (g2 : Nat → Int32) (g3 : Nat → Int32) (g4 : Nat → Int32) (g5 : Nat → Int32) (g6 : Nat → Int32), iv 0 10000 v1 ∧ (ivT tW g3) ∧ (∀ j, iv 0 9999 (g4 j)) ∧ (∀ j, iv (-1) 9999 (g5 j)) ∧ iv 0 10000 r ∧ (RW fz1) ∧ w = [(z 0, .inr (10, mo z v0 pz0_5 pz0_6 pz0_7 pz0_8 pz0_9 pz0_10 pz0_11 pz0_12 pz0_13 pz0_14 pz0_18 pz0_19 pz0_22 pz0_23 v1)), (z 1, aI V 3075 fz1), (z 15, aI V 900 g2), (z 16, aI V 6 g3), (z 24, aI V 10000 g4), (z 25, aI V 40000 g5), (z 28, aZ V 10000 g6)])) := by
  refine Ct.of (by decide) (Nat.le_of_ble_eq_true rfl) (fun p e s m below meth c A ls hx hb hr hml hown hlk hnm hg hP hK hD hE hA hS hl => ?_)
  have hl : lv_has ls 1 [(0, .ref (z 0))] := hl
  refine lv_aload_n hx hb dX10_stands_0 rfl (lv_at hl 0 rfl) ?_
  refine lv_iconst (v := 0) hx hb dX10_stands_1 (by decide) ?_
  refine va_put (ci := 10) (v := .int 0) (ty := .int) (C := RX10) (T := TX10) (N := 40) hx hb hg inX10 tyX10 tyX10_ok nmX10 hown hK hP hD hS 0 rfl rfl 0 (by decide) (hg _ q_5_224) (fun _ h9 => h9) rfl (by decide +kernel) rfl rfl (Nat.le_of_ble_eq_true rfl) dX10_stands_2 (fun H locs hP hD hS => ?_)
  have hP : va_P V.1 vwCl [(z 0, .inr (10, mo z 0 pz0_5 pz0_6 pz0_7 pz0_8 pz0_9 pz0_10 pz0_11 pz0_12 pz0_13 pz0_14 pz0_18 pz0_19 pz0_22 pz0_23 pz0_29)), (z 1, aI V 3075 fz1), (z 15, aI V 900 fz15), (z 16, aI V 6 fz16), (z 24, aI V 10000 fz24), (z 25, aI V 40000 fz25), (z 28, aZ V 10000 fz28)] H := hP
  have hD := cpD hP hD
  refine lv_aload_n hx hb dX10_stands_5 rfl (lv_at hl 0 rfl) ?_
  refine jnV (wr := []) (rnV (rest := []) ⟨hx, hb, hml, hown, hg⟩ (k_X10_laysStands_0 l V z fz15 fz16 fz24 fz25 fz28 0 pz0_5 pz0_6 pz0_7 pz0_8 pz0_9 pz0_10 pz0_11 pz0_12 pz0_13 pz0_14 pz0_18 pz0_19 pz0_22 pz0_23 pz0_29 fz1 tfz16 tfz24 tfz25 bpz0_5 bpz0_6 bpz0_7 bpz0_8 bpz0_10 bpz0_11 bpz0_12 bpz0_13 bpz0_14 bpz0_18 bpz0_22 bpz0_29 tfz1 hf0) mt_X10_laysStands q_7_194 ⟨Nat.le_of_ble_eq_true rfl, Nat.le_of_ble_eq_true rfl⟩ hK hP hD hS hA hE [2, 3, 4, 5, 6, 0, 1] rfl rfl 0 rfl rfl rfl rfl hl.1 rfl (Nat.le_of_ble_eq_true rfl) dX10_stands_6 ⟨Nat.le_of_ble_eq_true rfl, Nat.le_of_ble_eq_true rfl⟩) hP hD hS hA [2, 3, 4, 5, 6, 0, 1] [] rfl rfl rfl (by decide) (fun  w H locs hw hP hD hS => ?_)
  obtain ⟨f_1, f_2, f_3, f_4, f_5, v_6, tf_2, tf_3, tf_4, bv_6, g_7, g_8, g_9, rfl⟩ := hw
  have hP : va_P V.1 vwCl [(z 15, aI V 900 f_1), (z 16, aI V 6 f_2), (z 24, aI V 10000 f_3), (z 25, aI V 40000 f_4), (z 28, aZ V 10000 f_5), (z 0, .inr (10, mo z 0 pz0_5 pz0_6 pz0_7 pz0_8 pz0_9 pz0_10 pz0_11 pz0_12 pz0_13 pz0_14 pz0_18 pz0_19 pz0_22 pz0_23 v_6)), (z 1, aI V 3075 fz1)] H := hP
  have hD := cpD hP hD
  refine lv_aload_n hx hb dX10_stands_9 rfl (lv_at hl 0 rfl) ?_
  refine va_get (ci := 10) (v := .int v_6) (C := RX10) (T := TX10) (N := 40) hx hb hg inX10 hown hK hP 5 rfl rfl 29 (by decide) (hg _ q_6_13) (fun _ h9 => h9) rfl dX10_stands_10 ?_
  have hP := subP (ws' := [(z 0, .inr (10, mo z 0 pz0_5 pz0_6 pz0_7 pz0_8 pz0_9 pz0_10 pz0_11 pz0_12 pz0_13 pz0_14 pz0_18 pz0_19 pz0_22 pz0_23 v_6)), (z 1, aI V 3075 fz1), (z 15, aI V 900 f_1), (z 16, aI V 6 f_2), (z 24, aI V 10000 f_3), (z 25, aI V 40000 f_4), (z 28, aZ V 10000 f_5)]) hP [5, 6, 0, 1, 2, 3, 4] rfl
  have hD := subD hP hD [5, 6, 0, 1, 2, 3, 4] rfl rfl
  exact fiI hx hb hr hlk hK hP hD hS dX10_stands_13 (Nat.le_of_ble_eq_true rfl) (Nat.le_of_ble_eq_true rfl) (⟨0, v_6, f_1, f_2, f_3, f_4, f_5, bv_6, tf_2, tf_3, tf_4, bv_6, g_7, rfl⟩)
theorem dX10_litBy_0 : decode cX10_litBy 0 = .ok (.aload_n 0, 1) := by decide +kernel
theorem dX10_litBy_1 : decode cX10_litBy 1 = .ok (.getfield 13, 3) := by decide +kernel
theorem dX10_litBy_4 : decode cX10_litBy 4 = .ok (.bipush 46, 2) := by decide +kernel
theorem dX10_litBy_6 : decode cX10_litBy 6 = .ok (.iload_n 1, 1) := by decide +kernel
theorem dX10_litBy_7 : decode cX10_litBy 7 = .ok (.iadd, 1) := by decide +kernel
theorem dX10_litBy_8 : decode cX10_litBy 8 = .ok (.iaload, 1) := by decide +kernel
theorem dX10_litBy_9 : decode cX10_litBy 9 = .ok (.ifCond .ne 5, 3) := by decide +kernel
theorem dX10_litBy_14 : decode cX10_litBy 14 = .ok (.iconst 1, 1) := by decide +kernel
theorem dX10_litBy_15 : decode cX10_litBy 15 = .ok (.iload_n 1, 1) := by decide +kernel
theorem dX10_litBy_16 : decode cX10_litBy 16 = .ok (.ishl, 1) := by decide +kernel
theorem dX10_litBy_17 : decode cX10_litBy 17 = .ok (.istore_n 2, 1) := by decide +kernel
theorem dX10_litBy_18 : decode cX10_litBy 18 = .ok (.iconst 1, 1) := by decide +kernel
theorem dX10_litBy_19 : decode cX10_litBy 19 = .ok (.istore_n 3, 1) := by decide +kernel
theorem dX10_litBy_20 : decode cX10_litBy 20 = .ok (.iload_n 3, 1) := by decide +kernel
theorem dX10_litBy_21 : decode cX10_litBy 21 = .ok (.ifCond .eq 151, 3) := by decide +kernel
theorem dX10_litBy_172 : decode cX10_litBy 172 = .ok (.iload_n 2, 1) := by decide +kernel
theorem dX10_litBy_173 : decode cX10_litBy 173 = .ok (.ireturn, 1) := by decide +kernel
theorem dX10_litBy_24 : decode cX10_litBy 24 = .ok (.iload_n 2, 1) := by decide +kernel
theorem dX10_litBy_25 : decode cX10_litBy 25 = .ok (.istore 4, 2) := by decide +kernel
theorem dX10_litBy_27 : decode cX10_litBy 27 = .ok (.iconst 1, 1) := by decide +kernel
theorem dX10_litBy_28 : decode cX10_litBy 28 = .ok (.istore 5, 2) := by decide +kernel
theorem dX10_litBy_30 : decode cX10_litBy 30 = .ok (.iload 5, 2) := by decide +kernel
theorem dX10_litBy_32 : decode cX10_litBy 32 = .ok (.aload_n 0, 1) := by decide +kernel
theorem dX10_litBy_33 : decode cX10_litBy 33 = .ok (.getfield 13, 3) := by decide +kernel
theorem dX10_litBy_36 : decode cX10_litBy 36 = .ok (.iconst 1, 1) := by decide +kernel
theorem dX10_litBy_37 : decode cX10_litBy 37 = .ok (.iaload, 1) := by decide +kernel
theorem dX10_litBy_38 : decode cX10_litBy 38 = .ok (.if_icmp .ge 119, 3) := by decide +kernel
theorem dX10_litBy_157 : decode cX10_litBy 157 = .ok (.iload_n 2, 1) := by decide +kernel
theorem dX10_litBy_158 : decode cX10_litBy 158 = .ok (.iload 4, 2) := by decide +kernel
theorem dX10_litBy_160 : decode cX10_litBy 160 = .ok (.if_icmp .eq 7, 3) := by decide +kernel
theorem dX10_litBy_167 : decode cX10_litBy 167 = .ok (.iconst 0, 1) := by decide +kernel
theorem dX10_litBy_168 : decode cX10_litBy 168 = .ok (.istore_n 3, 1) := by decide +kernel
theorem dX10_litBy_169 : decode cX10_litBy 169 = .ok (.goto (-149), 3) := by decide +kernel
theorem dX10_litBy_163 : decode cX10_litBy 163 = .ok (.iconst 1, 1) := by decide +kernel
theorem dX10_litBy_164 : decode cX10_litBy 164 = .ok (.goto 4, 3) := by decide +kernel
theorem dX10_litBy_41 : decode cX10_litBy 41 = .ok (.aload_n 0, 1) := by decide +kernel
theorem dX10_litBy_42 : decode cX10_litBy 42 = .ok (.getfield 13, 3) := by decide +kernel
theorem dX10_litBy_45 : decode cX10_litBy 45 = .ok (.bipush 14, 2) := by decide +kernel
theorem dX10_litBy_47 : decode cX10_litBy 47 = .ok (.iload 5, 2) := by decide +kernel
theorem dX10_litBy_49 : decode cX10_litBy 49 = .ok (.iadd, 1) := by decide +kernel
theorem dX10_litBy_50 : decode cX10_litBy 50 = .ok (.iaload, 1) := by decide +kernel
theorem dX10_litBy_51 : decode cX10_litBy 51 = .ok (.istore 6, 2) := by decide +kernel
theorem dX10_litBy_53 : decode cX10_litBy 53 = .ok (.iload_n 2, 1) := by decide +kernel
theorem dX10_litBy_54 : decode cX10_litBy 54 = .ok (.i2l, 1) := by decide +kernel
theorem dX10_litBy_55 : decode cX10_litBy 55 = .ok (.iload 5, 2) := by decide +kernel
theorem dX10_litBy_57 : decode cX10_litBy 57 = .ok (.iconst 1, 1) := by decide +kernel
theorem dX10_litBy_58 : decode cX10_litBy 58 = .ok (.isub, 1) := by decide +kernel
theorem dX10_litBy_59 : decode cX10_litBy 59 = .ok (.invokestatic 244, 3) := by decide +kernel
theorem dX10_litBy_62 : decode cX10_litBy 62 = .ok (.ifCond .eq 40, 3) := by decide +kernel
theorem dX10_litBy_102 : decode cX10_litBy 102 = .ok (.iload_n 2, 1) := by decide +kernel
theorem dX10_litBy_103 : decode cX10_litBy 103 = .ok (.i2l, 1) := by decide +kernel
theorem dX10_litBy_104 : decode cX10_litBy 104 = .ok (.iload 5, 2) := by decide +kernel
theorem dX10_litBy_106 : decode cX10_litBy 106 = .ok (.invokestatic 244, 3) := by decide +kernel
theorem dX10_litBy_109 : decode cX10_litBy 109 = .ok (.ifCond .eq 42, 3) := by decide +kernel
theorem dX10_litBy_151 : decode cX10_litBy 151 = .ok (.iinc 5 1, 3) := by decide +kernel
theorem dX10_litBy_154 : decode cX10_litBy 154 = .ok (.goto (-124), 3) := by decide +kernel
theorem dX10_litBy_112 : decode cX10_litBy 112 = .ok (.iload 6, 2) := by decide +kernel
theorem dX10_litBy_114 : decode cX10_litBy 114 = .ok (.aload_n 0, 1) := by decide +kernel
theorem dX10_litBy_115 : decode cX10_litBy 115 = .ok (.getfield 13, 3) := by decide +kernel
theorem dX10_litBy_118 : decode cX10_litBy 118 = .ok (.bipush 46, 2) := by decide +kernel
theorem dX10_litBy_120 : decode cX10_litBy 120 = .ok (.iload 5, 2) := by decide +kernel
theorem dX10_litBy_122 : decode cX10_litBy 122 = .ok (.iadd, 1) := by decide +kernel
theorem dX10_litBy_123 : decode cX10_litBy 123 = .ok (.iaload, 1) := by decide +kernel
theorem dX10_litBy_124 : decode cX10_litBy 124 = .ok (.if_icmp .gt 27, 3) := by decide +kernel
theorem dX10_litBy_127 : decode cX10_litBy 127 = .ok (.aload_n 0, 1) := by decide +kernel
theorem dX10_litBy_128 : decode cX10_litBy 128 = .ok (.getfield 13, 3) := by decide +kernel
theorem dX10_litBy_131 : decode cX10_litBy 131 = .ok (.bipush 46, 2) := by decide +kernel
theorem dX10_litBy_133 : decode cX10_litBy 133 = .ok (.iload 5, 2) := by decide +kernel
theorem dX10_litBy_135 : decode cX10_litBy 135 = .ok (.iadd, 1) := by decide +kernel
theorem dX10_litBy_136 : decode cX10_litBy 136 = .ok (.iconst 1, 1) := by decide +kernel
theorem dX10_litBy_137 : decode cX10_litBy 137 = .ok (.isub, 1) := by decide +kernel
theorem dX10_litBy_138 : decode cX10_litBy 138 = .ok (.iaload, 1) := by decide +kernel
theorem dX10_litBy_139 : decode cX10_litBy 139 = .ok (.ifCond .le 12, 3) := by decide +kernel
theorem dX10_litBy_142 : decode cX10_litBy 142 = .ok (.iload_n 2, 1) := by decide +kernel
theorem dX10_litBy_143 : decode cX10_litBy 143 = .ok (.iconst 1, 1) := by decide +kernel
theorem dX10_litBy_144 : decode cX10_litBy 144 = .ok (.iload 5, 2) := by decide +kernel
theorem dX10_litBy_146 : decode cX10_litBy 146 = .ok (.iconst 1, 1) := by decide +kernel
theorem dX10_litBy_147 : decode cX10_litBy 147 = .ok (.isub, 1) := by decide +kernel
theorem dX10_litBy_148 : decode cX10_litBy 148 = .ok (.ishl, 1) := by decide +kernel
theorem dX10_litBy_149 : decode cX10_litBy 149 = .ok (.ior, 1) := by decide +kernel
theorem dX10_litBy_150 : decode cX10_litBy 150 = .ok (.istore_n 2, 1) := by decide +kernel
theorem dX10_litBy_65 : decode cX10_litBy 65 = .ok (.iload 6, 2) := by decide +kernel
theorem dX10_litBy_67 : decode cX10_litBy 67 = .ok (.aload_n 0, 1) := by decide +kernel
theorem dX10_litBy_68 : decode cX10_litBy 68 = .ok (.getfield 13, 3) := by decide +kernel
theorem dX10_litBy_71 : decode cX10_litBy 71 = .ok (.bipush 46, 2) := by decide +kernel
theorem dX10_litBy_73 : decode cX10_litBy 73 = .ok (.iload 5, 2) := by decide +kernel
theorem dX10_litBy_75 : decode cX10_litBy 75 = .ok (.iadd, 1) := by decide +kernel
theorem dX10_litBy_76 : decode cX10_litBy 76 = .ok (.iconst 1, 1) := by decide +kernel
theorem dX10_litBy_77 : decode cX10_litBy 77 = .ok (.isub, 1) := by decide +kernel
theorem dX10_litBy_78 : decode cX10_litBy 78 = .ok (.iaload, 1) := by decide +kernel
theorem dX10_litBy_79 : decode cX10_litBy 79 = .ok (.if_icmp .gt 23, 3) := by decide +kernel
theorem dX10_litBy_82 : decode cX10_litBy 82 = .ok (.aload_n 0, 1) := by decide +kernel
theorem dX10_litBy_83 : decode cX10_litBy 83 = .ok (.getfield 13, 3) := by decide +kernel
theorem dX10_litBy_86 : decode cX10_litBy 86 = .ok (.bipush 46, 2) := by decide +kernel
theorem dX10_litBy_88 : decode cX10_litBy 88 = .ok (.iload 5, 2) := by decide +kernel
theorem dX10_litBy_90 : decode cX10_litBy 90 = .ok (.iadd, 1) := by decide +kernel
theorem dX10_litBy_91 : decode cX10_litBy 91 = .ok (.iaload, 1) := by decide +kernel
theorem dX10_litBy_92 : decode cX10_litBy 92 = .ok (.ifCond .le 10, 3) := by decide +kernel
theorem dX10_litBy_95 : decode cX10_litBy 95 = .ok (.iload_n 2, 1) := by decide +kernel
theorem dX10_litBy_96 : decode cX10_litBy 96 = .ok (.iconst 1, 1) := by decide +kernel
theorem dX10_litBy_97 : decode cX10_litBy 97 = .ok (.iload 5, 2) := by decide +kernel
theorem dX10_litBy_99 : decode cX10_litBy 99 = .ok (.ishl, 1) := by decide +kernel
theorem dX10_litBy_100 : decode cX10_litBy 100 = .ok (.ior, 1) := by decide +kernel
theorem dX10_litBy_101 : decode cX10_litBy 101 = .ok (.istore_n 2, 1) := by decide +kernel
theorem dX10_litBy_12 : decode cX10_litBy 12 = .ok (.iconst 0, 1) := by decide +kernel
theorem dX10_litBy_13 : decode cX10_litBy 13 = .ok (.ireturn, 1) := by decide +kernel
set_option maxHeartbeats 4000000 in
set_option maxRecDepth 100000 in
theorem k_X10_litBy_0 (l : Launch) (V : GV) (z : Nat → Nat) (a1 : Int32) (pz0_0 : Int32) (pz0_5 : Int32) (pz0_6 : Int32) (pz0_7 : Int32) (pz0_8 : Int32) (pz0_9 : Int32) (pz0_10 : Int32) (pz0_11 : Int32) (pz0_12 : Int32) (pz0_13 : Int32) (pz0_14 : Int32) (pz0_18 : Int32) (pz0_19 : Int32) (pz0_22 : Int32) (pz0_23 : Int32) (pz0_29 : Int32) (fz1 : Nat → Int32) (ba1 : iv 0 3 a1) (bpz0_5 : iv 0 900 pz0_5) (bpz0_6 : iv 0 900 pz0_6) (bpz0_7 : iv 0 900 pz0_7) (bpz0_8 : iv 0 900 pz0_8) (bpz0_10 : iv 0 999 pz0_10) (bpz0_11 : iv 0 4 pz0_11) (bpz0_12 : iv 0 900 pz0_12) (bpz0_13 : iv 0 4 pz0_13) (bpz0_14 : iv (-1) 900 pz0_14) (bpz0_18 : iv 0 2 pz0_18) (bpz0_22 : iv 0 9999 pz0_22) (bpz0_29 : iv 0 10000 pz0_29) (tfz1 : ivT tA fz1) : Ct l V yX10_litBy (.code yX10_litBy cX10_litBy 7 (some .int)) 2 [.ref (z 0), .int a1] [(z 0, .inr (10, mo z pz0_0 pz0_5 pz0_6 pz0_7 pz0_8 pz0_9 pz0_10 pz0_11 pz0_12 pz0_13 pz0_14 pz0_18 pz0_19 pz0_22 pz0_23 pz0_29)), (z 1, aI V 3075 fz1)] 0 0 (QI V (fun (r : Int32) (w : va_W) => iv 0 15 r ∧ w = [(z 0, .inr (10, mo z pz0_0 pz0_5 pz0_6 pz0_7 pz0_8 pz0_9 pz0_10 pz0_11 pz0_12 pz0_13 pz0_14 pz0_18 pz0_19 pz0_22 pz0_23 pz0_29)), (z 1, aI V 3075 fz1)])) := by
  refine Ct.of (by decide) (Nat.le_of_ble_eq_true rfl) (fun p e s m below meth c A ls hx hb hr hml hown hlk hnm hg hP hK hD hE hA hS hl => ?_)
  have hl : lv_has ls 7 [(0, .ref (z 0)), (1, .int a1)] := hl
  refine lv_aload_n hx hb dX10_litBy_0 rfl (lv_at hl 0 rfl) ?_
  refine va_get (ci := 10) (v := .ref (z 1)) (C := RX10) (T := TX10) (N := 40) hx hb hg inX10 hown hK hP 0 rfl rfl 1 (by decide) (hg _ q_5_225) (fun _ h9 => h9) rfl dX10_litBy_1 ?_
  refine lv_bipush (v := 46) hx hb dX10_litBy_4 (by decide) ?_
  refine lv_iload_n hx hb dX10_litBy_6 rfl (lv_at hl 1 rfl) ?_
  refine lv_iadd hx hb dX10_litBy_7 ?_
  refine lv_topi (fun x_1 ex_1 => ?_)
  have bx_1 : iv 46 49 x_1 := by rw [ex_1]; exact iv_add (iv_c (46 : Int32) (a := 46) (b := 46) (by decide)) ba1 (by decide)
  refine va_iald hx hb hK hP 1 0 rfl rfl (iv_in bx_1 (by decide)) dX10_litBy_8 ?_
  refine lv_topi (fun x_2 ex_2 => ?_)
  have bx_2 : iv 0 4 x_2 := by rw [ex_2]; exact rdT (a := 46) (n := 4) tfz1 bx_1 (by decide) (by decide +kernel)
  refine lv_if_ne (tgt := 14) hx hb dX10_litBy_9 (by decide) (fun c_3 => ?_) (fun c_3 => ?_)
  · have b_4 : iv 1 4 x_2 := iv_n0 c_3 bx_2 (iv_c (0 : Int32) (a := 0) (b := 0) (by decide)) (by decide)
    refine lv_iconst (v := 1) hx hb dX10_litBy_14 (by decide) ?_
    refine lv_iload_n hx hb dX10_litBy_15 rfl (lv_at hl 1 rfl) ?_
    refine lv_ishl hx hb dX10_litBy_16 ?_
    refine lv_topi (fun x_5 ex_5 => ?_)
    have bx_5 : iv 1 8 x_5 := by rw [ex_5]; exact iv_shl1 ba1 (by decide)
    refine lv_istore_n (lv' := [(2, .int x_5), (0, .ref (z 0)), (1, .int a1)]) hx hb dX10_litBy_17 rfl hl (by decide) rfl (fun ls hl => ?_)
    refine lv_iconst (v := 1) hx hb dX10_litBy_18 (by decide) ?_
    refine lv_istore_n (lv' := [(3, .int 1), (2, .int x_5), (0, .ref (z 0)), (1, .int a1)]) hx hb dX10_litBy_19 rfl hl (by decide) rfl (fun ls hl => ?_)
    refine loopF (X := fun (n_8 : Nat) (H : Heap) (locs : List Loc) (ls : Array Slot) => ∃ (u_6 : Int32) (u_7 : Int32), (iv 0 1 u_6) ∧ (iv 0 15 u_7) ∧ n_8 = (2 * (15 - (u_7 : Int32).toInt) + (u_6 : Int32).toInt).toNat ∧ va_P V.1 vwCl [(z 0, .inr (10, mo z pz0_0 pz0_5 pz0_6 pz0_7 pz0_8 pz0_9 pz0_10 pz0_11 pz0_12 pz0_13 pz0_14 pz0_18 pz0_19 pz0_22 pz0_23 pz0_29)), (z 1, aI V 3075 fz1)] H ∧ va_D A [(z 0, .inr (10, mo z pz0_0 pz0_5 pz0_6 pz0_7 pz0_8 pz0_9 pz0_10 pz0_11 pz0_12 pz0_13 pz0_14 pz0_18 pz0_19 pz0_22 pz0_23 pz0_29)), (z 1, aI V 3075 fz1)] ∧ va_S A s.heap H locs ∧ lv_has ls 7 [(3, .int u_6), (2, .int u_7), (0, .ref (z 0)), (1, .int a1)]) (g := fun ls => F0 m 20 ls []) (fun n_8 H locs ls hX ihn_8 => ?_) _ ⟨1, x_5, (iv_c (1 : Int32) (by decide)), (iv_w bx_5 (by decide)), rfl, hP, hD, hS, lv_sub hl [0, 1, 2, 3] rfl⟩
    obtain ⟨u_6, u_7, bu_6, bu_7, en_8, hP, hD, hS, hl⟩ := hX
    refine lv_iload_n hx hb dX10_litBy_20 rfl (lv_at hl 0 rfl) ?_
    refine lv_if_eq (tgt := 172) hx hb dX10_litBy_21 (by decide) (fun c_9 => ?_) (fun c_9 => ?_)
    · have b_10 : iv 0 0 u_6 := iv_q c_9 (iv_c (0 : Int32) (a := 0) (b := 0) (by decide))
      refine lv_iload_n hx hb dX10_litBy_172 rfl (lv_at hl 1 rfl) ?_
      exact fiI hx hb hr hlk hK hP hD hS dX10_litBy_173 (Nat.le_of_ble_eq_true rfl) (Nat.le_of_ble_eq_true rfl) (⟨bu_7, rfl⟩)
    · have b_11 : iv 1 1 u_6 := iv_n0 c_9 bu_6 (iv_c (0 : Int32) (a := 0) (b := 0) (by decide)) (by decide)
      refine lv_iload_n hx hb dX10_litBy_24 rfl (lv_at hl 1 rfl) ?_
      refine lv_istore (lv' := [(4, .int u_7), (3, .int u_6), (2, .int u_7), (0, .ref (z 0)), (1, .int a1)]) hx hb dX10_litBy_25 hl (by decide) rfl (fun ls hl => ?_)
      refine lv_iconst (v := 1) hx hb dX10_litBy_27 (by decide) ?_
      refine lv_istore (lv' := [(5, .int 1), (4, .int u_7), (3, .int u_6), (2, .int u_7), (0, .ref (z 0)), (1, .int a1)]) hx hb dX10_litBy_28 hl (by decide) rfl (fun ls hl => ?_)
      refine loopF (X := fun (n_14 : Nat) (H : Heap) (locs : List Loc) (ls : Array Slot) => ∃ (u_12 : Int32) (u_13 : Int32), (iv 1 4 u_12) ∧ (iv 0 15 u_13) ∧ ((u_7 : Int32).toInt ≤ (u_13 : Int32).toInt) ∧ n_14 = (2147483647 - (u_12 : Int32).toInt).toNat ∧ va_P V.1 vwCl [(z 0, .inr (10, mo z pz0_0 pz0_5 pz0_6 pz0_7 pz0_8 pz0_9 pz0_10 pz0_11 pz0_12 pz0_13 pz0_14 pz0_18 pz0_19 pz0_22 pz0_23 pz0_29)), (z 1, aI V 3075 fz1)] H ∧ va_D A [(z 0, .inr (10, mo z pz0_0 pz0_5 pz0_6 pz0_7 pz0_8 pz0_9 pz0_10 pz0_11 pz0_12 pz0_13 pz0_14 pz0_18 pz0_19 pz0_22 pz0_23 pz0_29)), (z 1, aI V 3075 fz1)] ∧ va_S A s.heap H locs ∧ lv_has ls 7 [(5, .int u_12), (4, .int u_7), (3, .int u_6), (2, .int u_13), (0, .ref (z 0)), (1, .int a1)]) (g := fun ls => F0 m 30 ls []) (fun n_14 H locs ls hX ihn_14 => ?_) _ ⟨1, u_7, (iv_c (1 : Int32) (by decide)), bu_7, (Int.le_refl _), rfl, hP, hD, hS, lv_sub hl [0, 1, 2, 3, 4, 5] rfl⟩
      obtain ⟨u_12, u_13, bu_12, bu_13, inn_14_0, en_14, hP, hD, hS, hl⟩ := hX
      refine lv_iload hx hb dX10_litBy_30 (lv_at hl 0 rfl) ?_
      refine lv_aload_n hx hb dX10_litBy_32 rfl (lv_at hl 4 rfl) ?_
      refine va_get (ci := 10) (v := .ref (z 1)) (C := RX10) (T := TX10) (N := 40) hx hb hg inX10 hown hK hP 0 rfl rfl 1 (by decide) (hg _ q_5_225) (fun _ h9 => h9) rfl dX10_litBy_33 ?_
      refine lv_iconst (v := 1) hx hb dX10_litBy_36 (by decide) ?_
      refine va_iald hx hb hK hP 1 0 rfl rfl (vin (by decide +kernel)) dX10_litBy_37 ?_
      refine lv_topi (fun x_15 ex_15 => ?_)
      have bx_15 : iv 0 4 x_15 := by rw [ex_15]; exact rdT (a := 1) (n := 1) tfz1 (iv_c (1 : Int32) (a := 1) (b := 1) (by decide)) (by decide) (by decide +kernel)
      refine lv_icmp_ge (tgt := 157) hx hb dX10_litBy_38 (by decide) (fun c_16 => ?_) (fun c_16 => ?_)
      · refine lv_iload_n hx hb dX10_litBy_157 rfl (lv_at hl 3 rfl) ?_
        refine lv_iload hx hb dX10_litBy_158 (lv_at hl 1 rfl) ?_
        refine lv_icmp_eq (tgt := 167) hx hb dX10_litBy_160 (by decide) (fun c_17 => ?_) (fun c_17 => ?_)
        · refine lv_iconst (v := 0) hx hb dX10_litBy_167 (by decide) ?_
          refine lv_istore_n (lv' := [(3, .int 0), (5, .int u_12), (4, .int u_7), (2, .int u_13), (0, .ref (z 0)), (1, .int a1)]) hx hb dX10_litBy_168 rfl hl (by decide) rfl (fun ls hl => ?_)
          refine lv_goto (tgt := 20) hx hb dX10_litBy_169 (by decide) ?_
          exact ihn_8 _ _ _ _ (by rw [en_8]; have q9 := inn_14_0; have q_m : iv _ _ _ := b_11; have q_v : iv _ _ _ := bu_13; have q_2 : (0 : Int32).toInt = 0 := (by decide); unfold iv at q_m q_v; omega) ⟨0, u_13, (iv_c (0 : Int32) (by decide)), bu_13, rfl, hP, hD, hS, lv_sub hl [0, 3, 4, 5] rfl⟩
        · refine lv_iconst (v := 1) hx hb dX10_litBy_163 (by decide) ?_
          refine lv_goto (tgt := 168) hx hb dX10_litBy_164 (by decide) ?_
          refine lv_istore_n (lv' := [(3, .int 1), (5, .int u_12), (4, .int u_7), (2, .int u_13), (0, .ref (z 0)), (1, .int a1)]) hx hb dX10_litBy_168 rfl hl (by decide) rfl (fun ls hl => ?_)
          refine lv_goto (tgt := 20) hx hb dX10_litBy_169 (by decide) ?_
          exact ihn_8 _ _ _ _ (by rw [en_8]; have q9 := inn_14_0; have q_ne := ne_toInt c_17; have q_m : iv _ _ _ := b_11; have q_v : iv _ _ _ := bu_13; have q_2 : (1 : Int32).toInt = 1 := (by decide); unfold iv at q_m q_v; omega) ⟨1, u_13, (iv_c (1 : Int32) (by decide)), bu_13, rfl, hP, hD, hS, lv_sub hl [0, 3, 4, 5] rfl⟩
      · have b_18 : iv 1 3 u_12 := iv_l1 (Int32.not_le.mp c_16) bu_12 bx_15 (by decide)
        have b_19 : iv 2 4 x_15 := iv_l2 (Int32.not_le.mp c_16) bu_12 bx_15 (by decide)
        refine lv_aload_n hx hb dX10_litBy_41 rfl (lv_at hl 4 rfl) ?_
        refine va_get (ci := 10) (v := .ref (z 1)) (C := RX10) (T := TX10) (N := 40) hx hb hg inX10 hown hK hP 0 rfl rfl 1 (by decide) (hg _ q_5_225) (fun _ h9 => h9) rfl dX10_litBy_42 ?_
        refine lv_bipush (v := 14) hx hb dX10_litBy_45 (by decide) ?_
        refine lv_iload hx hb dX10_litBy_47 (lv_at hl 0 rfl) ?_
        refine lv_iadd hx hb dX10_litBy_49 ?_
        refine lv_topi (fun x_20 ex_20 => ?_)
        have bx_20 : iv 15 17 x_20 := by rw [ex_20]; exact iv_add (iv_c (14 : Int32) (a := 14) (b := 14) (by decide)) b_18 (by decide)
        refine va_iald hx hb hK hP 1 0 rfl rfl (iv_in bx_20 (by decide)) dX10_litBy_50 ?_
        refine lv_topi (fun x_21 ex_21 => ?_)
        have bx_21 : iv 0 9 x_21 := by rw [ex_21]; exact rdT (a := 15) (n := 3) tfz1 bx_20 (by decide) (by decide +kernel)
        refine lv_istore (lv' := [(6, .int x_21), (5, .int u_12), (4, .int u_7), (3, .int u_6), (2, .int u_13), (0, .ref (z 0)), (1, .int a1)]) hx hb dX10_litBy_51 hl (by decide) rfl (fun ls hl => ?_)
        refine lv_iload_n hx hb dX10_litBy_53 rfl (lv_at hl 4 rfl) ?_
        refine lv_i2l hx hb dX10_litBy_54 rfl ?_
        refine lv_topl (fun j_22 ej_22 => ?_)
        have bj_22 : ivL 0 15 j_22 := by rw [ej_22]; exact ivL_of bu_13
        refine lv_iload hx hb dX10_litBy_55 (lv_at hl 1 rfl) ?_
        refine lv_iconst (v := 1) hx hb dX10_litBy_57 (by decide) ?_
        refine lv_isub hx hb dX10_litBy_58 ?_
        refine lv_topi (fun x_23 ex_23 => ?_)
        have bx_23 : iv 0 2 x_23 := by rw [ex_23]; exact iv_sub b_18 (iv_c (1 : Int32) (a := 1) (b := 1) (by decide)) (by decide)
        refine jnI (wr := [(z 0, .inr (10, mo z pz0_0 pz0_5 pz0_6 pz0_7 pz0_8 pz0_9 pz0_10 pz0_11 pz0_12 pz0_13 pz0_14 pz0_18 pz0_19 pz0_22 pz0_23 pz0_29)), (z 1, aI V 3075 fz1)]) (rnS (rest := []) ⟨hx, hb, hml, hown, hg⟩ (k_X10_isIn_0 l V j_22 x_23 (iv_w bx_23 (by decide))) mt_X10_isIn q_7_32 ⟨Nat.le_of_ble_eq_true rfl, Nat.le_of_ble_eq_true rfl⟩ hK hP hD hS hA hE [] rfl rfl rfl hl.1 rfl (Nat.le_of_ble_eq_true rfl) dX10_litBy_59 ⟨Nat.le_of_ble_eq_true rfl, Nat.le_of_ble_eq_true rfl⟩) hP hD hS hA [] [0, 1] rfl rfl rfl (by decide) (fun r_24 w H locs hw hP hD hS => ?_)
        obtain ⟨br_24, et_25, rfl⟩ := hw
        have hP : va_P V.1 vwCl [(z 0, .inr (10, mo z pz0_0 pz0_5 pz0_6 pz0_7 pz0_8 pz0_9 pz0_10 pz0_11 pz0_12 pz0_13 pz0_14 pz0_18 pz0_19 pz0_22 pz0_23 pz0_29)), (z 1, aI V 3075 fz1)] H := hP
        have hD := cpD hP hD
        refine lv_if_eq (tgt := 102) hx hb dX10_litBy_62 (by decide) (fun c_26 => ?_) (fun c_26 => ?_)
        · have b_27 : iv 0 0 r_24 := iv_q c_26 (iv_c (0 : Int32) (a := 0) (b := 0) (by decide))
          refine lv_iload_n hx hb dX10_litBy_102 rfl (lv_at hl 4 rfl) ?_
          refine lv_i2l hx hb dX10_litBy_103 rfl ?_
          refine lv_topl (fun j_28 ej_28 => ?_)
          have bj_28 : ivL 0 15 j_28 := by rw [ej_28]; exact ivL_of bu_13
          refine lv_iload hx hb dX10_litBy_104 (lv_at hl 1 rfl) ?_
          refine jnI (wr := [(z 0, .inr (10, mo z pz0_0 pz0_5 pz0_6 pz0_7 pz0_8 pz0_9 pz0_10 pz0_11 pz0_12 pz0_13 pz0_14 pz0_18 pz0_19 pz0_22 pz0_23 pz0_29)), (z 1, aI V 3075 fz1)]) (rnS (rest := []) ⟨hx, hb, hml, hown, hg⟩ (k_X10_isIn_0 l V j_28 u_12 (iv_w b_18 (by decide))) mt_X10_isIn q_7_32 ⟨Nat.le_of_ble_eq_true rfl, Nat.le_of_ble_eq_true rfl⟩ hK hP hD hS hA hE [] rfl rfl rfl hl.1 rfl (Nat.le_of_ble_eq_true rfl) dX10_litBy_106 ⟨Nat.le_of_ble_eq_true rfl, Nat.le_of_ble_eq_true rfl⟩) hP hD hS hA [] [0, 1] rfl rfl rfl (by decide) (fun r_29 w H locs hw hP hD hS => ?_)
          obtain ⟨br_29, et_30, rfl⟩ := hw
          have hP : va_P V.1 vwCl [(z 0, .inr (10, mo z pz0_0 pz0_5 pz0_6 pz0_7 pz0_8 pz0_9 pz0_10 pz0_11 pz0_12 pz0_13 pz0_14 pz0_18 pz0_19 pz0_22 pz0_23 pz0_29)), (z 1, aI V 3075 fz1)] H := hP
          have hD := cpD hP hD
          refine lv_if_eq (tgt := 151) hx hb dX10_litBy_109 (by decide) (fun c_31 => ?_) (fun c_31 => ?_)
          · have b_32 : iv 0 0 r_29 := iv_q c_31 (iv_c (0 : Int32) (a := 0) (b := 0) (by decide))
            obtain ⟨x_33, ex_33⟩ : ∃ z9 : Int32, z9 = u_12 + 1 := ⟨_, rfl⟩
            have bx_33 : iv 2 4 x_33 := by rw [ex_33]; exact iv_add b_18 (iv_c (1 : Int32) (a := 1) (b := 1) (by decide)) (by decide)
            refine lv_iinc (v := x_33) (lv' := [(5, .int x_33), (6, .int x_21), (4, .int u_7), (3, .int u_6), (2, .int u_13), (0, .ref (z 0)), (1, .int a1)]) hx hb dX10_litBy_151 hl (k := 1) rfl (by rw [ex_33]; rfl) (by decide) rfl (fun ls hl => ?_)
            refine lv_goto (tgt := 30) hx hb dX10_litBy_154 (by decide) ?_
            exact ihn_14 _ _ _ _ (by rw [en_14, ex_33]; exact mu_up b_18 (by decide)) ⟨x_33, u_13, (iv_w bx_33 (by decide)), bu_13, inn_14_0, rfl, hP, hD, hS, lv_sub hl [0, 2, 3, 4, 5, 6] rfl⟩
          · have b_34 : iv 1 1 r_29 := iv_n0 c_31 br_29 (iv_c (0 : Int32) (a := 0) (b := 0) (by decide)) (by decide)
            refine lv_iload hx hb dX10_litBy_112 (lv_at hl 0 rfl) ?_
            refine lv_aload_n hx hb dX10_litBy_114 rfl (lv_at hl 5 rfl) ?_
            refine va_get (ci := 10) (v := .ref (z 1)) (C := RX10) (T := TX10) (N := 40) hx hb hg inX10 hown hK hP 0 rfl rfl 1 (by decide) (hg _ q_5_225) (fun _ h9 => h9) rfl dX10_litBy_115 ?_
            refine lv_bipush (v := 46) hx hb dX10_litBy_118 (by decide) ?_
            refine lv_iload hx hb dX10_litBy_120 (lv_at hl 1 rfl) ?_
            refine lv_iadd hx hb dX10_litBy_122 ?_
            refine lv_topi (fun x_35 ex_35 => ?_)
            have bx_35 : iv 47 49 x_35 := by rw [ex_35]; exact iv_add (iv_c (46 : Int32) (a := 46) (b := 46) (by decide)) b_18 (by decide)
            refine va_iald hx hb hK hP 1 0 rfl rfl (iv_in bx_35 (by decide)) dX10_litBy_123 ?_
            refine lv_topi (fun x_36 ex_36 => ?_)
            have bx_36 : iv 0 4 x_36 := by rw [ex_36]; exact rdT (a := 47) (n := 3) tfz1 bx_35 (by decide) (by decide +kernel)
            refine lv_icmp_gt (tgt := 151) hx hb dX10_litBy_124 (by decide) (fun c_37 => ?_) (fun c_37 => ?_)
            · have b_38 : iv 1 9 x_21 := iv_l2 c_37 bx_36 bx_21 (by decide)
              obtain ⟨x_39, ex_39⟩ : ∃ z9 : Int32, z9 = u_12 + 1 := ⟨_, rfl⟩
              have bx_39 : iv 2 4 x_39 := by rw [ex_39]; exact iv_add b_18 (iv_c (1 : Int32) (a := 1) (b := 1) (by decide)) (by decide)
              refine lv_iinc (v := x_39) (lv' := [(5, .int x_39), (6, .int x_21), (4, .int u_7), (3, .int u_6), (2, .int u_13), (0, .ref (z 0)), (1, .int a1)]) hx hb dX10_litBy_151 hl (k := 1) rfl (by rw [ex_39]; rfl) (by decide) rfl (fun ls hl => ?_)
              refine lv_goto (tgt := 30) hx hb dX10_litBy_154 (by decide) ?_
              exact ihn_14 _ _ _ _ (by rw [en_14, ex_39]; exact mu_up b_18 (by decide)) ⟨x_39, u_13, (iv_w bx_39 (by decide)), bu_13, inn_14_0, rfl, hP, hD, hS, lv_sub hl [0, 2, 3, 4, 5, 6] rfl⟩
            · have b_40 : iv 0 4 x_21 := iv_e1 (Int32.not_lt.mp c_37) bx_21 bx_36 (by decide)
              refine lv_aload_n hx hb dX10_litBy_127 rfl (lv_at hl 5 rfl) ?_
              refine va_get (ci := 10) (v := .ref (z 1)) (C := RX10) (T := TX10) (N := 40) hx hb hg inX10 hown hK hP 0 rfl rfl 1 (by decide) (hg _ q_5_225) (fun _ h9 => h9) rfl dX10_litBy_128 ?_
              refine lv_bipush (v := 46) hx hb dX10_litBy_131 (by decide) ?_
              refine lv_iload hx hb dX10_litBy_133 (lv_at hl 1 rfl) ?_
              refine lv_iadd hx hb dX10_litBy_135 ?_
              refine tpi (y := x_35) ex_35.symm ?_
              refine lv_iconst (v := 1) hx hb dX10_litBy_136 (by decide) ?_
              refine lv_isub hx hb dX10_litBy_137 ?_
              refine lv_topi (fun x_41 ex_41 => ?_)
              have bx_41 : iv 46 48 x_41 := by rw [ex_41]; exact iv_sub bx_35 (iv_c (1 : Int32) (a := 1) (b := 1) (by decide)) (by decide)
              refine va_iald hx hb hK hP 1 0 rfl rfl (iv_in bx_41 (by decide)) dX10_litBy_138 ?_
              refine lv_topi (fun x_42 ex_42 => ?_)
              have bx_42 : iv 0 4 x_42 := by rw [ex_42]; exact rdT (a := 46) (n := 3) tfz1 bx_41 (by decide) (by decide +kernel)
              refine lv_if_le (tgt := 151) hx hb dX10_litBy_139 (by decide) (fun c_43 => ?_) (fun c_43 => ?_)
              · have b_44 : iv 0 0 x_42 := iv_e1 c_43 bx_42 (iv_c (0 : Int32) (a := 0) (b := 0) (by decide)) (by decide)
                obtain ⟨x_45, ex_45⟩ : ∃ z9 : Int32, z9 = u_12 + 1 := ⟨_, rfl⟩
                have bx_45 : iv 2 4 x_45 := by rw [ex_45]; exact iv_add b_18 (iv_c (1 : Int32) (a := 1) (b := 1) (by decide)) (by decide)
                refine lv_iinc (v := x_45) (lv' := [(5, .int x_45), (6, .int x_21), (4, .int u_7), (3, .int u_6), (2, .int u_13), (0, .ref (z 0)), (1, .int a1)]) hx hb dX10_litBy_151 hl (k := 1) rfl (by rw [ex_45]; rfl) (by decide) rfl (fun ls hl => ?_)
                refine lv_goto (tgt := 30) hx hb dX10_litBy_154 (by decide) ?_
                exact ihn_14 _ _ _ _ (by rw [en_14, ex_45]; exact mu_up b_18 (by decide)) ⟨x_45, u_13, (iv_w bx_45 (by decide)), bu_13, inn_14_0, rfl, hP, hD, hS, lv_sub hl [0, 2, 3, 4, 5, 6] rfl⟩
              · have b_46 : iv 1 4 x_42 := iv_l2 (Int32.not_le.mp c_43) (iv_c (0 : Int32) (a := 0) (b := 0) (by decide)) bx_42 (by decide)
                refine lv_iload_n hx hb dX10_litBy_142 rfl (lv_at hl 4 rfl) ?_
                refine lv_iconst (v := 1) hx hb dX10_litBy_143 (by decide) ?_
                refine lv_iload hx hb dX10_litBy_144 (lv_at hl 1 rfl) ?_
                refine lv_iconst (v := 1) hx hb dX10_litBy_146 (by decide) ?_
                refine lv_isub hx hb dX10_litBy_147 ?_
                refine tpi (y := x_23) ex_23.symm ?_
                refine lv_ishl hx hb dX10_litBy_148 ?_
                refine lv_topi (fun x_47 ex_47 => ?_)
                have bx_47 : iv 1 8 x_47 := by rw [ex_47]; exact iv_shl1 bx_23 (by decide)
                refine lv_ior hx hb dX10_litBy_149 ?_
                refine lv_topi (fun x_48 ex_48 => ?_)
                have bx_48 : iv 0 15 x_48 := by rw [ex_48]; exact iv_or15 bu_13 bx_47 (by decide)
                refine lv_istore_n (lv' := [(2, .int x_48), (6, .int x_21), (5, .int u_12), (4, .int u_7), (3, .int u_6), (0, .ref (z 0)), (1, .int a1)]) hx hb dX10_litBy_150 rfl hl (by decide) rfl (fun ls hl => ?_)
                obtain ⟨x_49, ex_49⟩ : ∃ z9 : Int32, z9 = u_12 + 1 := ⟨_, rfl⟩
                have bx_49 : iv 2 4 x_49 := by rw [ex_49]; exact iv_add b_18 (iv_c (1 : Int32) (a := 1) (b := 1) (by decide)) (by decide)
                refine lv_iinc (v := x_49) (lv' := [(5, .int x_49), (2, .int x_48), (6, .int x_21), (4, .int u_7), (3, .int u_6), (0, .ref (z 0)), (1, .int a1)]) hx hb dX10_litBy_151 hl (k := 2) rfl (by rw [ex_49]; rfl) (by decide) rfl (fun ls hl => ?_)
                refine lv_goto (tgt := 30) hx hb dX10_litBy_154 (by decide) ?_
                exact ihn_14 _ _ _ _ (by rw [en_14, ex_49]; exact mu_up b_18 (by decide)) ⟨x_49, x_48, (iv_w bx_49 (by decide)), bx_48, (by have q9 := inn_14_0; have q_x_48 := or_le ex_48 bu_13 bx_47 (by decide); omega), rfl, hP, hD, hS, lv_sub hl [0, 3, 4, 1, 5, 6] rfl⟩
        · have b_50 : iv 1 1 r_24 := iv_n0 c_26 br_24 (iv_c (0 : Int32) (a := 0) (b := 0) (by decide)) (by decide)
          refine lv_iload hx hb dX10_litBy_65 (lv_at hl 0 rfl) ?_
          refine lv_aload_n hx hb dX10_litBy_67 rfl (lv_at hl 5 rfl) ?_
          refine va_get (ci := 10) (v := .ref (z 1)) (C := RX10) (T := TX10) (N := 40) hx hb hg inX10 hown hK hP 0 rfl rfl 1 (by decide) (hg _ q_5_225) (fun _ h9 => h9) rfl dX10_litBy_68 ?_
          refine lv_bipush (v := 46) hx hb dX10_litBy_71 (by decide) ?_
          refine lv_iload hx hb dX10_litBy_73 (lv_at hl 1 rfl) ?_
          refine lv_iadd hx hb dX10_litBy_75 ?_
          refine lv_topi (fun x_51 ex_51 => ?_)
          have bx_51 : iv 47 49 x_51 := by rw [ex_51]; exact iv_add (iv_c (46 : Int32) (a := 46) (b := 46) (by decide)) b_18 (by decide)
          refine lv_iconst (v := 1) hx hb dX10_litBy_76 (by decide) ?_
          refine lv_isub hx hb dX10_litBy_77 ?_
          refine lv_topi (fun x_52 ex_52 => ?_)
          have bx_52 : iv 46 48 x_52 := by rw [ex_52]; exact iv_sub bx_51 (iv_c (1 : Int32) (a := 1) (b := 1) (by decide)) (by decide)
          refine va_iald hx hb hK hP 1 0 rfl rfl (iv_in bx_52 (by decide)) dX10_litBy_78 ?_
          refine lv_topi (fun x_53 ex_53 => ?_)
          have bx_53 : iv 0 4 x_53 := by rw [ex_53]; exact rdT (a := 46) (n := 3) tfz1 bx_52 (by decide) (by decide +kernel)
          refine lv_icmp_gt (tgt := 102) hx hb dX10_litBy_79 (by decide) (fun c_54 => ?_) (fun c_54 => ?_)
          · have b_55 : iv 1 9 x_21 := iv_l2 c_54 bx_53 bx_21 (by decide)
            refine lv_iload_n hx hb dX10_litBy_102 rfl (lv_at hl 4 rfl) ?_
            refine lv_i2l hx hb dX10_litBy_103 rfl ?_
            refine lv_topl (fun j_56 ej_56 => ?_)
            have bj_56 : ivL 0 15 j_56 := by rw [ej_56]; exact ivL_of bu_13
            refine lv_iload hx hb dX10_litBy_104 (lv_at hl 1 rfl) ?_
            refine jnI (wr := [(z 0, .inr (10, mo z pz0_0 pz0_5 pz0_6 pz0_7 pz0_8 pz0_9 pz0_10 pz0_11 pz0_12 pz0_13 pz0_14 pz0_18 pz0_19 pz0_22 pz0_23 pz0_29)), (z 1, aI V 3075 fz1)]) (rnS (rest := []) ⟨hx, hb, hml, hown, hg⟩ (k_X10_isIn_0 l V j_56 u_12 (iv_w b_18 (by decide))) mt_X10_isIn q_7_32 ⟨Nat.le_of_ble_eq_true rfl, Nat.le_of_ble_eq_true rfl⟩ hK hP hD hS hA hE [] rfl rfl rfl hl.1 rfl (Nat.le_of_ble_eq_true rfl) dX10_litBy_106 ⟨Nat.le_of_ble_eq_true rfl, Nat.le_of_ble_eq_true rfl⟩) hP hD hS hA [] [0, 1] rfl rfl rfl (by decide) (fun r_57 w H locs hw hP hD hS => ?_)
            obtain ⟨br_57, et_58, rfl⟩ := hw
            have hP : va_P V.1 vwCl [(z 0, .inr (10, mo z pz0_0 pz0_5 pz0_6 pz0_7 pz0_8 pz0_9 pz0_10 pz0_11 pz0_12 pz0_13 pz0_14 pz0_18 pz0_19 pz0_22 pz0_23 pz0_29)), (z 1, aI V 3075 fz1)] H := hP
            have hD := cpD hP hD
            refine lv_if_eq (tgt := 151) hx hb dX10_litBy_109 (by decide) (fun c_59 => ?_) (fun c_59 => ?_)
            · have b_60 : iv 0 0 r_57 := iv_q c_59 (iv_c (0 : Int32) (a := 0) (b := 0) (by decide))
              obtain ⟨x_61, ex_61⟩ : ∃ z9 : Int32, z9 = u_12 + 1 := ⟨_, rfl⟩
              have bx_61 : iv 2 4 x_61 := by rw [ex_61]; exact iv_add b_18 (iv_c (1 : Int32) (a := 1) (b := 1) (by decide)) (by decide)
              refine lv_iinc (v := x_61) (lv' := [(5, .int x_61), (6, .int x_21), (4, .int u_7), (3, .int u_6), (2, .int u_13), (0, .ref (z 0)), (1, .int a1)]) hx hb dX10_litBy_151 hl (k := 1) rfl (by rw [ex_61]; rfl) (by decide) rfl (fun ls hl => ?_)
              refine lv_goto (tgt := 30) hx hb dX10_litBy_154 (by decide) ?_
              exact ihn_14 _ _ _ _ (by rw [en_14, ex_61]; exact mu_up b_18 (by decide)) ⟨x_61, u_13, (iv_w bx_61 (by decide)), bu_13, inn_14_0, rfl, hP, hD, hS, lv_sub hl [0, 2, 3, 4, 5, 6] rfl⟩
            · have b_62 : iv 1 1 r_57 := iv_n0 c_59 br_57 (iv_c (0 : Int32) (a := 0) (b := 0) (by decide)) (by decide)
              refine lv_iload hx hb dX10_litBy_112 (lv_at hl 0 rfl) ?_
              refine lv_aload_n hx hb dX10_litBy_114 rfl (lv_at hl 5 rfl) ?_
              refine va_get (ci := 10) (v := .ref (z 1)) (C := RX10) (T := TX10) (N := 40) hx hb hg inX10 hown hK hP 0 rfl rfl 1 (by decide) (hg _ q_5_225) (fun _ h9 => h9) rfl dX10_litBy_115 ?_
              refine lv_bipush (v := 46) hx hb dX10_litBy_118 (by decide) ?_
              refine lv_iload hx hb dX10_litBy_120 (lv_at hl 1 rfl) ?_
              refine lv_iadd hx hb dX10_litBy_122 ?_
              refine tpi (y := x_51) ex_51.symm ?_
              refine va_iald hx hb hK hP 1 0 rfl rfl (iv_in bx_51 (by decide)) dX10_litBy_123 ?_
              refine lv_topi (fun x_63 ex_63 => ?_)
              have bx_63 : iv 0 4 x_63 := by rw [ex_63]; exact rdT (a := 47) (n := 3) tfz1 bx_51 (by decide) (by decide +kernel)
              refine lv_icmp_gt (tgt := 151) hx hb dX10_litBy_124 (by decide) (fun c_64 => ?_) (fun c_64 => ?_)
              · obtain ⟨x_65, ex_65⟩ : ∃ z9 : Int32, z9 = u_12 + 1 := ⟨_, rfl⟩
                have bx_65 : iv 2 4 x_65 := by rw [ex_65]; exact iv_add b_18 (iv_c (1 : Int32) (a := 1) (b := 1) (by decide)) (by decide)
                refine lv_iinc (v := x_65) (lv' := [(5, .int x_65), (6, .int x_21), (4, .int u_7), (3, .int u_6), (2, .int u_13), (0, .ref (z 0)), (1, .int a1)]) hx hb dX10_litBy_151 hl (k := 1) rfl (by rw [ex_65]; rfl) (by decide) rfl (fun ls hl => ?_)
                refine lv_goto (tgt := 30) hx hb dX10_litBy_154 (by decide) ?_
                exact ihn_14 _ _ _ _ (by rw [en_14, ex_65]; exact mu_up b_18 (by decide)) ⟨x_65, u_13, (iv_w bx_65 (by decide)), bu_13, inn_14_0, rfl, hP, hD, hS, lv_sub hl [0, 2, 3, 4, 5, 6] rfl⟩
              · have b_66 : iv 1 4 x_21 := iv_e1 (Int32.not_lt.mp c_64) b_55 bx_63 (by decide)
                have b_67 : iv 1 4 x_63 := iv_e2 (Int32.not_lt.mp c_64) b_55 bx_63 (by decide)
                refine lv_aload_n hx hb dX10_litBy_127 rfl (lv_at hl 5 rfl) ?_
                refine va_get (ci := 10) (v := .ref (z 1)) (C := RX10) (T := TX10) (N := 40) hx hb hg inX10 hown hK hP 0 rfl rfl 1 (by decide) (hg _ q_5_225) (fun _ h9 => h9) rfl dX10_litBy_128 ?_
                refine lv_bipush (v := 46) hx hb dX10_litBy_131 (by decide) ?_
                refine lv_iload hx hb dX10_litBy_133 (lv_at hl 1 rfl) ?_
                refine lv_iadd hx hb dX10_litBy_135 ?_
                refine tpi (y := x_51) ex_51.symm ?_
                refine lv_iconst (v := 1) hx hb dX10_litBy_136 (by decide) ?_
                refine lv_isub hx hb dX10_litBy_137 ?_
                refine tpi (y := x_52) ex_52.symm ?_
                refine va_iald hx hb hK hP 1 0 rfl rfl (iv_in bx_52 (by decide)) dX10_litBy_138 ?_
                refine tpi (y := x_53) ex_53.symm ?_
                refine lv_if_le (tgt := 151) hx hb dX10_litBy_139 (by decide) (fun c_68 => ?_) (fun c_68 => ?_)
                · have b_69 : iv 0 0 x_53 := iv_e1 c_68 bx_53 (iv_c (0 : Int32) (a := 0) (b := 0) (by decide)) (by decide)
                  obtain ⟨x_70, ex_70⟩ : ∃ z9 : Int32, z9 = u_12 + 1 := ⟨_, rfl⟩
                  have bx_70 : iv 2 4 x_70 := by rw [ex_70]; exact iv_add b_18 (iv_c (1 : Int32) (a := 1) (b := 1) (by decide)) (by decide)
                  refine lv_iinc (v := x_70) (lv' := [(5, .int x_70), (6, .int x_21), (4, .int u_7), (3, .int u_6), (2, .int u_13), (0, .ref (z 0)), (1, .int a1)]) hx hb dX10_litBy_151 hl (k := 1) rfl (by rw [ex_70]; rfl) (by decide) rfl (fun ls hl => ?_)
                  refine lv_goto (tgt := 30) hx hb dX10_litBy_154 (by decide) ?_
                  exact ihn_14 _ _ _ _ (by rw [en_14, ex_70]; exact mu_up b_18 (by decide)) ⟨x_70, u_13, (iv_w bx_70 (by decide)), bu_13, inn_14_0, rfl, hP, hD, hS, lv_sub hl [0, 2, 3, 4, 5, 6] rfl⟩
                · have b_71 : iv 1 4 x_53 := iv_l2 (Int32.not_le.mp c_68) (iv_c (0 : Int32) (a := 0) (b := 0) (by decide)) bx_53 (by decide)
                  refine lv_iload_n hx hb dX10_litBy_142 rfl (lv_at hl 4 rfl) ?_
                  refine lv_iconst (v := 1) hx hb dX10_litBy_143 (by decide) ?_
                  refine lv_iload hx hb dX10_litBy_144 (lv_at hl 1 rfl) ?_
                  refine lv_iconst (v := 1) hx hb dX10_litBy_146 (by decide) ?_
                  refine lv_isub hx hb dX10_litBy_147 ?_
                  refine tpi (y := x_23) ex_23.symm ?_
                  refine lv_ishl hx hb dX10_litBy_148 ?_
                  refine lv_topi (fun x_72 ex_72 => ?_)
                  have bx_72 : iv 1 8 x_72 := by rw [ex_72]; exact iv_shl1 bx_23 (by decide)
                  refine lv_ior hx hb dX10_litBy_149 ?_
                  refine lv_topi (fun x_73 ex_73 => ?_)
                  have bx_73 : iv 0 15 x_73 := by rw [ex_73]; exact iv_or15 bu_13 bx_72 (by decide)
                  refine lv_istore_n (lv' := [(2, .int x_73), (6, .int x_21), (5, .int u_12), (4, .int u_7), (3, .int u_6), (0, .ref (z 0)), (1, .int a1)]) hx hb dX10_litBy_150 rfl hl (by decide) rfl (fun ls hl => ?_)
                  obtain ⟨x_74, ex_74⟩ : ∃ z9 : Int32, z9 = u_12 + 1 := ⟨_, rfl⟩
                  have bx_74 : iv 2 4 x_74 := by rw [ex_74]; exact iv_add b_18 (iv_c (1 : Int32) (a := 1) (b := 1) (by decide)) (by decide)
                  refine lv_iinc (v := x_74) (lv' := [(5, .int x_74), (2, .int x_73), (6, .int x_21), (4, .int u_7), (3, .int u_6), (0, .ref (z 0)), (1, .int a1)]) hx hb dX10_litBy_151 hl (k := 2) rfl (by rw [ex_74]; rfl) (by decide) rfl (fun ls hl => ?_)
                  refine lv_goto (tgt := 30) hx hb dX10_litBy_154 (by decide) ?_
                  exact ihn_14 _ _ _ _ (by rw [en_14, ex_74]; exact mu_up b_18 (by decide)) ⟨x_74, x_73, (iv_w bx_74 (by decide)), bx_73, (by have q9 := inn_14_0; have q_x_73 := or_le ex_73 bu_13 bx_72 (by decide); omega), rfl, hP, hD, hS, lv_sub hl [0, 3, 4, 1, 5, 6] rfl⟩
          · have b_75 : iv 0 4 x_21 := iv_e1 (Int32.not_lt.mp c_54) bx_21 bx_53 (by decide)
            refine lv_aload_n hx hb dX10_litBy_82 rfl (lv_at hl 5 rfl) ?_
            refine va_get (ci := 10) (v := .ref (z 1)) (C := RX10) (T := TX10) (N := 40) hx hb hg inX10 hown hK hP 0 rfl rfl 1 (by decide) (hg _ q_5_225) (fun _ h9 => h9) rfl dX10_litBy_83 ?_
            refine lv_bipush (v := 46) hx hb dX10_litBy_86 (by decide) ?_
            refine lv_iload hx hb dX10_litBy_88 (lv_at hl 1 rfl) ?_
            refine lv_iadd hx hb dX10_litBy_90 ?_
            refine tpi (y := x_51) ex_51.symm ?_
            refine va_iald hx hb hK hP 1 0 rfl rfl (iv_in bx_51 (by decide)) dX10_litBy_91 ?_
            refine lv_topi (fun x_76 ex_76 => ?_)
            have bx_76 : iv 0 4 x_76 := by rw [ex_76]; exact rdT (a := 47) (n := 3) tfz1 bx_51 (by decide) (by decide +kernel)
            refine lv_if_le (tgt := 102) hx hb dX10_litBy_92 (by decide) (fun c_77 => ?_) (fun c_77 => ?_)
            · have b_78 : iv 0 0 x_76 := iv_e1 c_77 bx_76 (iv_c (0 : Int32) (a := 0) (b := 0) (by decide)) (by decide)
              refine lv_iload_n hx hb dX10_litBy_102 rfl (lv_at hl 4 rfl) ?_
              refine lv_i2l hx hb dX10_litBy_103 rfl ?_
              refine lv_topl (fun j_79 ej_79 => ?_)
              have bj_79 : ivL 0 15 j_79 := by rw [ej_79]; exact ivL_of bu_13
              refine lv_iload hx hb dX10_litBy_104 (lv_at hl 1 rfl) ?_
              refine jnI (wr := [(z 0, .inr (10, mo z pz0_0 pz0_5 pz0_6 pz0_7 pz0_8 pz0_9 pz0_10 pz0_11 pz0_12 pz0_13 pz0_14 pz0_18 pz0_19 pz0_22 pz0_23 pz0_29)), (z 1, aI V 3075 fz1)]) (rnS (rest := []) ⟨hx, hb, hml, hown, hg⟩ (k_X10_isIn_0 l V j_79 u_12 (iv_w b_18 (by decide))) mt_X10_isIn q_7_32 ⟨Nat.le_of_ble_eq_true rfl, Nat.le_of_ble_eq_true rfl⟩ hK hP hD hS hA hE [] rfl rfl rfl hl.1 rfl (Nat.le_of_ble_eq_true rfl) dX10_litBy_106 ⟨Nat.le_of_ble_eq_true rfl, Nat.le_of_ble_eq_true rfl⟩) hP hD hS hA [] [0, 1] rfl rfl rfl (by decide) (fun r_80 w H locs hw hP hD hS => ?_)
              obtain ⟨br_80, et_81, rfl⟩ := hw
              have hP : va_P V.1 vwCl [(z 0, .inr (10, mo z pz0_0 pz0_5 pz0_6 pz0_7 pz0_8 pz0_9 pz0_10 pz0_11 pz0_12 pz0_13 pz0_14 pz0_18 pz0_19 pz0_22 pz0_23 pz0_29)), (z 1, aI V 3075 fz1)] H := hP
              have hD := cpD hP hD
              refine lv_if_eq (tgt := 151) hx hb dX10_litBy_109 (by decide) (fun c_82 => ?_) (fun c_82 => ?_)
              · have b_83 : iv 0 0 r_80 := iv_q c_82 (iv_c (0 : Int32) (a := 0) (b := 0) (by decide))
                obtain ⟨x_84, ex_84⟩ : ∃ z9 : Int32, z9 = u_12 + 1 := ⟨_, rfl⟩
                have bx_84 : iv 2 4 x_84 := by rw [ex_84]; exact iv_add b_18 (iv_c (1 : Int32) (a := 1) (b := 1) (by decide)) (by decide)
                refine lv_iinc (v := x_84) (lv' := [(5, .int x_84), (6, .int x_21), (4, .int u_7), (3, .int u_6), (2, .int u_13), (0, .ref (z 0)), (1, .int a1)]) hx hb dX10_litBy_151 hl (k := 1) rfl (by rw [ex_84]; rfl) (by decide) rfl (fun ls hl => ?_)
                refine lv_goto (tgt := 30) hx hb dX10_litBy_154 (by decide) ?_
                exact ihn_14 _ _ _ _ (by rw [en_14, ex_84]; exact mu_up b_18 (by decide)) ⟨x_84, u_13, (iv_w bx_84 (by decide)), bu_13, inn_14_0, rfl, hP, hD, hS, lv_sub hl [0, 2, 3, 4, 5, 6] rfl⟩
              · have b_85 : iv 1 1 r_80 := iv_n0 c_82 br_80 (iv_c (0 : Int32) (a := 0) (b := 0) (by decide)) (by decide)
                refine lv_iload hx hb dX10_litBy_112 (lv_at hl 0 rfl) ?_
                refine lv_aload_n hx hb dX10_litBy_114 rfl (lv_at hl 5 rfl) ?_
                refine va_get (ci := 10) (v := .ref (z 1)) (C := RX10) (T := TX10) (N := 40) hx hb hg inX10 hown hK hP 0 rfl rfl 1 (by decide) (hg _ q_5_225) (fun _ h9 => h9) rfl dX10_litBy_115 ?_
                refine lv_bipush (v := 46) hx hb dX10_litBy_118 (by decide) ?_
                refine lv_iload hx hb dX10_litBy_120 (lv_at hl 1 rfl) ?_
                refine lv_iadd hx hb dX10_litBy_122 ?_
                refine tpi (y := x_51) ex_51.symm ?_
                refine va_iald hx hb hK hP 1 0 rfl rfl (iv_in bx_51 (by decide)) dX10_litBy_123 ?_
                refine tpi (y := x_76) ex_76.symm ?_
                refine lv_icmp_gt (tgt := 151) hx hb dX10_litBy_124 (by decide) (fun c_86 => ?_) (fun c_86 => ?_)
                · have b_87 : iv 1 4 x_21 := iv_l2 c_86 b_78 b_75 (by decide)
                  obtain ⟨x_88, ex_88⟩ : ∃ z9 : Int32, z9 = u_12 + 1 := ⟨_, rfl⟩
                  have bx_88 : iv 2 4 x_88 := by rw [ex_88]; exact iv_add b_18 (iv_c (1 : Int32) (a := 1) (b := 1) (by decide)) (by decide)
                  refine lv_iinc (v := x_88) (lv' := [(5, .int x_88), (6, .int x_21), (4, .int u_7), (3, .int u_6), (2, .int u_13), (0, .ref (z 0)), (1, .int a1)]) hx hb dX10_litBy_151 hl (k := 1) rfl (by rw [ex_88]; rfl) (by decide) rfl (fun ls hl => ?_)
                  refine lv_goto (tgt := 30) hx hb dX10_litBy_154 (by decide) ?_
                  exact ihn_14 _ _ _ _ (by rw [en_14, ex_88]; exact mu_up b_18 (by decide)) ⟨x_88, u_13, (iv_w bx_88 (by decide)), bu_13, inn_14_0, rfl, hP, hD, hS, lv_sub hl [0, 2, 3, 4, 5, 6] rfl⟩
                · have b_89 : iv 0 0 x_21 := iv_e1 (Int32.not_lt.mp c_86) b_75 b_78 (by decide)
                  refine lv_aload_n hx hb dX10_litBy_127 rfl (lv_at hl 5 rfl) ?_
                  refine va_get (ci := 10) (v := .ref (z 1)) (C := RX10) (T := TX10) (N := 40) hx hb hg inX10 hown hK hP 0 rfl rfl 1 (by decide) (hg _ q_5_225) (fun _ h9 => h9) rfl dX10_litBy_128 ?_
                  refine lv_bipush (v := 46) hx hb dX10_litBy_131 (by decide) ?_
                  refine lv_iload hx hb dX10_litBy_133 (lv_at hl 1 rfl) ?_
                  refine lv_iadd hx hb dX10_litBy_135 ?_
                  refine tpi (y := x_51) ex_51.symm ?_
                  refine lv_iconst (v := 1) hx hb dX10_litBy_136 (by decide) ?_
                  refine lv_isub hx hb dX10_litBy_137 ?_
                  refine tpi (y := x_52) ex_52.symm ?_
                  refine va_iald hx hb hK hP 1 0 rfl rfl (iv_in bx_52 (by decide)) dX10_litBy_138 ?_
                  refine tpi (y := x_53) ex_53.symm ?_
                  refine lv_if_le (tgt := 151) hx hb dX10_litBy_139 (by decide) (fun c_90 => ?_) (fun c_90 => ?_)
                  · have b_91 : iv 0 0 x_53 := iv_e1 c_90 bx_53 (iv_c (0 : Int32) (a := 0) (b := 0) (by decide)) (by decide)
                    obtain ⟨x_92, ex_92⟩ : ∃ z9 : Int32, z9 = u_12 + 1 := ⟨_, rfl⟩
                    have bx_92 : iv 2 4 x_92 := by rw [ex_92]; exact iv_add b_18 (iv_c (1 : Int32) (a := 1) (b := 1) (by decide)) (by decide)
                    refine lv_iinc (v := x_92) (lv' := [(5, .int x_92), (6, .int x_21), (4, .int u_7), (3, .int u_6), (2, .int u_13), (0, .ref (z 0)), (1, .int a1)]) hx hb dX10_litBy_151 hl (k := 1) rfl (by rw [ex_92]; rfl) (by decide) rfl (fun ls hl => ?_)
                    refine lv_goto (tgt := 30) hx hb dX10_litBy_154 (by decide) ?_
                    exact ihn_14 _ _ _ _ (by rw [en_14, ex_92]; exact mu_up b_18 (by decide)) ⟨x_92, u_13, (iv_w bx_92 (by decide)), bu_13, inn_14_0, rfl, hP, hD, hS, lv_sub hl [0, 2, 3, 4, 5, 6] rfl⟩
                  · have b_93 : iv 1 4 x_53 := iv_l2 (Int32.not_le.mp c_90) (iv_c (0 : Int32) (a := 0) (b := 0) (by decide)) bx_53 (by decide)
                    refine lv_iload_n hx hb dX10_litBy_142 rfl (lv_at hl 4 rfl) ?_
                    refine lv_iconst (v := 1) hx hb dX10_litBy_143 (by decide) ?_
                    refine lv_iload hx hb dX10_litBy_144 (lv_at hl 1 rfl) ?_
                    refine lv_iconst (v := 1) hx hb dX10_litBy_146 (by decide) ?_
                    refine lv_isub hx hb dX10_litBy_147 ?_
                    refine tpi (y := x_23) ex_23.symm ?_
                    refine lv_ishl hx hb dX10_litBy_148 ?_
                    refine lv_topi (fun x_94 ex_94 => ?_)
                    have bx_94 : iv 1 8 x_94 := by rw [ex_94]; exact iv_shl1 bx_23 (by decide)
                    refine lv_ior hx hb dX10_litBy_149 ?_
                    refine lv_topi (fun x_95 ex_95 => ?_)
                    have bx_95 : iv 0 15 x_95 := by rw [ex_95]; exact iv_or15 bu_13 bx_94 (by decide)
                    refine lv_istore_n (lv' := [(2, .int x_95), (6, .int x_21), (5, .int u_12), (4, .int u_7), (3, .int u_6), (0, .ref (z 0)), (1, .int a1)]) hx hb dX10_litBy_150 rfl hl (by decide) rfl (fun ls hl => ?_)
                    obtain ⟨x_96, ex_96⟩ : ∃ z9 : Int32, z9 = u_12 + 1 := ⟨_, rfl⟩
                    have bx_96 : iv 2 4 x_96 := by rw [ex_96]; exact iv_add b_18 (iv_c (1 : Int32) (a := 1) (b := 1) (by decide)) (by decide)
                    refine lv_iinc (v := x_96) (lv' := [(5, .int x_96), (2, .int x_95), (6, .int x_21), (4, .int u_7), (3, .int u_6), (0, .ref (z 0)), (1, .int a1)]) hx hb dX10_litBy_151 hl (k := 2) rfl (by rw [ex_96]; rfl) (by decide) rfl (fun ls hl => ?_)
                    refine lv_goto (tgt := 30) hx hb dX10_litBy_154 (by decide) ?_
                    exact ihn_14 _ _ _ _ (by rw [en_14, ex_96]; exact mu_up b_18 (by decide)) ⟨x_96, x_95, (iv_w bx_96 (by decide)), bx_95, (by have q9 := inn_14_0; have q_x_95 := or_le ex_95 bu_13 bx_94 (by decide); omega), rfl, hP, hD, hS, lv_sub hl [0, 3, 4, 1, 5, 6] rfl⟩
            · have b_97 : iv 1 4 x_76 := iv_l2 (Int32.not_le.mp c_77) (iv_c (0 : Int32) (a := 0) (b := 0) (by decide)) bx_76 (by decide)
              refine lv_iload_n hx hb dX10_litBy_95 rfl (lv_at hl 4 rfl) ?_
              refine lv_iconst (v := 1) hx hb dX10_litBy_96 (by decide) ?_
              refine lv_iload hx hb dX10_litBy_97 (lv_at hl 1 rfl) ?_
              refine lv_ishl hx hb dX10_litBy_99 ?_
              refine lv_topi (fun x_98 ex_98 => ?_)
              have bx_98 : iv 1 8 x_98 := by rw [ex_98]; exact iv_shl1 b_18 (by decide)
              refine lv_ior hx hb dX10_litBy_100 ?_
              refine lv_topi (fun x_99 ex_99 => ?_)
              have bx_99 : iv 0 15 x_99 := by rw [ex_99]; exact iv_or15 bu_13 bx_98 (by decide)
              refine lv_istore_n (lv' := [(2, .int x_99), (6, .int x_21), (5, .int u_12), (4, .int u_7), (3, .int u_6), (0, .ref (z 0)), (1, .int a1)]) hx hb dX10_litBy_101 rfl hl (by decide) rfl (fun ls hl => ?_)
              refine lv_iload_n hx hb dX10_litBy_102 rfl (lv_at hl 0 rfl) ?_
              refine lv_i2l hx hb dX10_litBy_103 rfl ?_
              refine lv_topl (fun j_100 ej_100 => ?_)
              have bj_100 : ivL 0 15 j_100 := by rw [ej_100]; exact ivL_of bx_99
              refine lv_iload hx hb dX10_litBy_104 (lv_at hl 2 rfl) ?_
              refine jnI (wr := [(z 0, .inr (10, mo z pz0_0 pz0_5 pz0_6 pz0_7 pz0_8 pz0_9 pz0_10 pz0_11 pz0_12 pz0_13 pz0_14 pz0_18 pz0_19 pz0_22 pz0_23 pz0_29)), (z 1, aI V 3075 fz1)]) (rnS (rest := []) ⟨hx, hb, hml, hown, hg⟩ (k_X10_isIn_0 l V j_100 u_12 (iv_w b_18 (by decide))) mt_X10_isIn q_7_32 ⟨Nat.le_of_ble_eq_true rfl, Nat.le_of_ble_eq_true rfl⟩ hK hP hD hS hA hE [] rfl rfl rfl hl.1 rfl (Nat.le_of_ble_eq_true rfl) dX10_litBy_106 ⟨Nat.le_of_ble_eq_true rfl, Nat.le_of_ble_eq_true rfl⟩) hP hD hS hA [] [0, 1] rfl rfl rfl (by decide) (fun r_101 w H locs hw hP hD hS => ?_)
              obtain ⟨br_101, et_102, rfl⟩ := hw
              have hP : va_P V.1 vwCl [(z 0, .inr (10, mo z pz0_0 pz0_5 pz0_6 pz0_7 pz0_8 pz0_9 pz0_10 pz0_11 pz0_12 pz0_13 pz0_14 pz0_18 pz0_19 pz0_22 pz0_23 pz0_29)), (z 1, aI V 3075 fz1)] H := hP
              have hD := cpD hP hD
              refine lv_if_eq (tgt := 151) hx hb dX10_litBy_109 (by decide) (fun c_103 => ?_) (fun c_103 => ?_)
              · have b_104 : iv 0 0 r_101 := iv_q c_103 (iv_c (0 : Int32) (a := 0) (b := 0) (by decide))
                obtain ⟨x_105, ex_105⟩ : ∃ z9 : Int32, z9 = u_12 + 1 := ⟨_, rfl⟩
                have bx_105 : iv 2 4 x_105 := by rw [ex_105]; exact iv_add b_18 (iv_c (1 : Int32) (a := 1) (b := 1) (by decide)) (by decide)
                refine lv_iinc (v := x_105) (lv' := [(5, .int x_105), (2, .int x_99), (6, .int x_21), (4, .int u_7), (3, .int u_6), (0, .ref (z 0)), (1, .int a1)]) hx hb dX10_litBy_151 hl (k := 2) rfl (by rw [ex_105]; rfl) (by decide) rfl (fun ls hl => ?_)
                refine lv_goto (tgt := 30) hx hb dX10_litBy_154 (by decide) ?_
                exact ihn_14 _ _ _ _ (by rw [en_14, ex_105]; exact mu_up b_18 (by decide)) ⟨x_105, x_99, (iv_w bx_105 (by decide)), bx_99, (by have q9 := inn_14_0; have q_x_99 := or_le ex_99 bu_13 bx_98 (by decide); omega), rfl, hP, hD, hS, lv_sub hl [0, 3, 4, 1, 5, 6] rfl⟩
              · have b_106 : iv 1 1 r_101 := iv_n0 c_103 br_101 (iv_c (0 : Int32) (a := 0) (b := 0) (by decide)) (by decide)
                refine lv_iload hx hb dX10_litBy_112 (lv_at hl 1 rfl) ?_
                refine lv_aload_n hx hb dX10_litBy_114 rfl (lv_at hl 5 rfl) ?_
                refine va_get (ci := 10) (v := .ref (z 1)) (C := RX10) (T := TX10) (N := 40) hx hb hg inX10 hown hK hP 0 rfl rfl 1 (by decide) (hg _ q_5_225) (fun _ h9 => h9) rfl dX10_litBy_115 ?_
                refine lv_bipush (v := 46) hx hb dX10_litBy_118 (by decide) ?_
                refine lv_iload hx hb dX10_litBy_120 (lv_at hl 2 rfl) ?_
                refine lv_iadd hx hb dX10_litBy_122 ?_
                refine tpi (y := x_51) ex_51.symm ?_
                refine va_iald hx hb hK hP 1 0 rfl rfl (iv_in bx_51 (by decide)) dX10_litBy_123 ?_
                refine tpi (y := x_76) ex_76.symm ?_
                refine lv_icmp_gt (tgt := 151) hx hb dX10_litBy_124 (by decide) (fun c_107 => ?_) (fun c_107 => ?_)
                · have b_108 : iv 1 3 x_76 := iv_l1 c_107 b_97 b_75 (by decide)
                  have b_109 : iv 2 4 x_21 := iv_l2 c_107 b_97 b_75 (by decide)
                  obtain ⟨x_110, ex_110⟩ : ∃ z9 : Int32, z9 = u_12 + 1 := ⟨_, rfl⟩
                  have bx_110 : iv 2 4 x_110 := by rw [ex_110]; exact iv_add b_18 (iv_c (1 : Int32) (a := 1) (b := 1) (by decide)) (by decide)
                  refine lv_iinc (v := x_110) (lv' := [(5, .int x_110), (2, .int x_99), (6, .int x_21), (4, .int u_7), (3, .int u_6), (0, .ref (z 0)), (1, .int a1)]) hx hb dX10_litBy_151 hl (k := 2) rfl (by rw [ex_110]; rfl) (by decide) rfl (fun ls hl => ?_)
                  refine lv_goto (tgt := 30) hx hb dX10_litBy_154 (by decide) ?_
                  exact ihn_14 _ _ _ _ (by rw [en_14, ex_110]; exact mu_up b_18 (by decide)) ⟨x_110, x_99, (iv_w bx_110 (by decide)), bx_99, (by have q9 := inn_14_0; have q_x_99 := or_le ex_99 bu_13 bx_98 (by decide); omega), rfl, hP, hD, hS, lv_sub hl [0, 3, 4, 1, 5, 6] rfl⟩
                · refine lv_aload_n hx hb dX10_litBy_127 rfl (lv_at hl 5 rfl) ?_
                  refine va_get (ci := 10) (v := .ref (z 1)) (C := RX10) (T := TX10) (N := 40) hx hb hg inX10 hown hK hP 0 rfl rfl 1 (by decide) (hg _ q_5_225) (fun _ h9 => h9) rfl dX10_litBy_128 ?_
                  refine lv_bipush (v := 46) hx hb dX10_litBy_131 (by decide) ?_
                  refine lv_iload hx hb dX10_litBy_133 (lv_at hl 2 rfl) ?_
                  refine lv_iadd hx hb dX10_litBy_135 ?_
                  refine tpi (y := x_51) ex_51.symm ?_
                  refine lv_iconst (v := 1) hx hb dX10_litBy_136 (by decide) ?_
                  refine lv_isub hx hb dX10_litBy_137 ?_
                  refine tpi (y := x_52) ex_52.symm ?_
                  refine va_iald hx hb hK hP 1 0 rfl rfl (iv_in bx_52 (by decide)) dX10_litBy_138 ?_
                  refine tpi (y := x_53) ex_53.symm ?_
                  refine lv_if_le (tgt := 151) hx hb dX10_litBy_139 (by decide) (fun c_111 => ?_) (fun c_111 => ?_)
                  · have b_112 : iv 0 0 x_53 := iv_e1 c_111 bx_53 (iv_c (0 : Int32) (a := 0) (b := 0) (by decide)) (by decide)
                    obtain ⟨x_113, ex_113⟩ : ∃ z9 : Int32, z9 = u_12 + 1 := ⟨_, rfl⟩
                    have bx_113 : iv 2 4 x_113 := by rw [ex_113]; exact iv_add b_18 (iv_c (1 : Int32) (a := 1) (b := 1) (by decide)) (by decide)
                    refine lv_iinc (v := x_113) (lv' := [(5, .int x_113), (2, .int x_99), (6, .int x_21), (4, .int u_7), (3, .int u_6), (0, .ref (z 0)), (1, .int a1)]) hx hb dX10_litBy_151 hl (k := 2) rfl (by rw [ex_113]; rfl) (by decide) rfl (fun ls hl => ?_)
                    refine lv_goto (tgt := 30) hx hb dX10_litBy_154 (by decide) ?_
                    exact ihn_14 _ _ _ _ (by rw [en_14, ex_113]; exact mu_up b_18 (by decide)) ⟨x_113, x_99, (iv_w bx_113 (by decide)), bx_99, (by have q9 := inn_14_0; have q_x_99 := or_le ex_99 bu_13 bx_98 (by decide); omega), rfl, hP, hD, hS, lv_sub hl [0, 3, 4, 1, 5, 6] rfl⟩
                  · have b_114 : iv 1 4 x_53 := iv_l2 (Int32.not_le.mp c_111) (iv_c (0 : Int32) (a := 0) (b := 0) (by decide)) bx_53 (by decide)
                    refine lv_iload_n hx hb dX10_litBy_142 rfl (lv_at hl 0 rfl) ?_
                    refine lv_iconst (v := 1) hx hb dX10_litBy_143 (by decide) ?_
                    refine lv_iload hx hb dX10_litBy_144 (lv_at hl 2 rfl) ?_
                    refine lv_iconst (v := 1) hx hb dX10_litBy_146 (by decide) ?_
                    refine lv_isub hx hb dX10_litBy_147 ?_
                    refine tpi (y := x_23) ex_23.symm ?_
                    refine lv_ishl hx hb dX10_litBy_148 ?_
                    refine lv_topi (fun x_115 ex_115 => ?_)
                    have bx_115 : iv 1 8 x_115 := by rw [ex_115]; exact iv_shl1 bx_23 (by decide)
                    refine lv_ior hx hb dX10_litBy_149 ?_
                    refine lv_topi (fun x_116 ex_116 => ?_)
                    have bx_116 : iv 0 15 x_116 := by rw [ex_116]; exact iv_or15 bx_99 bx_115 (by decide)
                    refine lv_istore_n (lv' := [(2, .int x_116), (6, .int x_21), (5, .int u_12), (4, .int u_7), (3, .int u_6), (0, .ref (z 0)), (1, .int a1)]) hx hb dX10_litBy_150 rfl hl (by decide) rfl (fun ls hl => ?_)
                    obtain ⟨x_117, ex_117⟩ : ∃ z9 : Int32, z9 = u_12 + 1 := ⟨_, rfl⟩
                    have bx_117 : iv 2 4 x_117 := by rw [ex_117]; exact iv_add b_18 (iv_c (1 : Int32) (a := 1) (b := 1) (by decide)) (by decide)
                    refine lv_iinc (v := x_117) (lv' := [(5, .int x_117), (2, .int x_116), (6, .int x_21), (4, .int u_7), (3, .int u_6), (0, .ref (z 0)), (1, .int a1)]) hx hb dX10_litBy_151 hl (k := 2) rfl (by rw [ex_117]; rfl) (by decide) rfl (fun ls hl => ?_)
                    refine lv_goto (tgt := 30) hx hb dX10_litBy_154 (by decide) ?_
                    exact ihn_14 _ _ _ _ (by rw [en_14, ex_117]; exact mu_up b_18 (by decide)) ⟨x_117, x_116, (iv_w bx_117 (by decide)), bx_116, (by have q9 := inn_14_0; have q_x_116 := or_le ex_116 bx_99 bx_115 (by decide); have q_x_99 := or_le ex_99 bu_13 bx_98 (by decide); omega), rfl, hP, hD, hS, lv_sub hl [0, 3, 4, 1, 5, 6] rfl⟩
  · have b_118 : iv 0 0 x_2 := iv_q c_3 (iv_c (0 : Int32) (a := 0) (b := 0) (by decide))
    refine lv_iconst (v := 0) hx hb dX10_litBy_12 (by decide) ?_
    exact fiI hx hb hr hlk hK hP hD hS dX10_litBy_13 (Nat.le_of_ble_eq_true rfl) (Nat.le_of_ble_eq_true rfl) (⟨(iv_c (0 : Int32) (by decide)), rfl⟩)
theorem dX10_lit_0 : decode cX10_lit 0 = .ok (.aload_n 0, 1) := by decide +kernel
theorem dX10_lit_1 : decode cX10_lit 1 = .ok (.iconst 0, 1) := by decide +kernel
theorem dX10_lit_2 : decode cX10_lit 2 = .ok (.putfield 1, 3) := by decide +kernel
theorem dX10_lit_5 : decode cX10_lit 5 = .ok (.aload_n 0, 1) := by decide +kernel
theorem dX10_lit_6 : decode cX10_lit 6 = .ok (.iload_n 1, 1) := by decide +kernel
theorem dX10_lit_7 : decode cX10_lit 7 = .ok (.i2l, 1) := by decide +kernel
theorem dX10_lit_8 : decode cX10_lit 8 = .ok (.invokevirtual 262, 3) := by decide +kernel
theorem dX10_lit_11 : decode cX10_lit 11 = .ok (.ifCond .eq 11, 3) := by decide +kernel
theorem dX10_lit_22 : decode cX10_lit 22 = .ok (.bipush (-2), 2) := by decide +kernel
theorem dX10_lit_24 : decode cX10_lit 24 = .ok (.ireturn, 1) := by decide +kernel
theorem dX10_lit_14 : decode cX10_lit 14 = .ok (.aload_n 0, 1) := by decide +kernel
theorem dX10_lit_15 : decode cX10_lit 15 = .ok (.iload_n 1, 1) := by decide +kernel
theorem q_8_19 : Cond.code yX10_litBy prog_12_method_99_code 7 (some FieldType.int) ∈ gw := gw_8 (i := 19) (rfl) rfl
theorem q_8_18 : Cond.instanceMethod yX10_litBy ∈ gw := gw_8 (i := 18) (by decide +kernel) rfl
theorem q_s_113 : Cond.selects "BeaconDelayModel" yX10_litBy yX10_litBy ∈ gw := gw_s (i := 113) (by decide +kernel) rfl
theorem mt_X10_litBy : MtV yX10_litBy cX10_litBy 7 (some .int) 1 := ⟨⟨q_8_19, q_1_9, by decide +kernel, by decide +kernel, by decide +kernel⟩, q_8_18, q_s_113⟩
theorem q_8_16 : Cond.methodLink "BeaconDelayModel" 402 yX10_litBy ∈ gw := gw_8 (i := 16) (by decide +kernel) rfl
theorem dX10_lit_16 : decode cX10_lit 16 = .ok (.invokevirtual 402, 3) := by decide +kernel
theorem dX10_lit_19 : decode cX10_lit 19 = .ok (.goto 5, 3) := by decide +kernel
set_option maxHeartbeats 4000000 in
set_option maxRecDepth 100000 in
theorem k_X10_lit_0 (l : Launch) (V : GV) (z : Nat → Nat) (a1 : Int32) (pz0_0 : Int32) (pz0_5 : Int32) (pz0_6 : Int32) (pz0_7 : Int32) (pz0_8 : Int32) (pz0_9 : Int32) (pz0_10 : Int32) (pz0_11 : Int32) (pz0_12 : Int32) (pz0_13 : Int32) (pz0_14 : Int32) (pz0_18 : Int32) (pz0_19 : Int32) (pz0_22 : Int32) (pz0_23 : Int32) (pz0_29 : Int32) (fz1 : Nat → Int32) (bpz0_5 : iv 0 900 pz0_5) (bpz0_6 : iv 0 900 pz0_6) (bpz0_7 : iv 0 900 pz0_7) (bpz0_8 : iv 0 900 pz0_8) (bpz0_10 : iv 0 999 pz0_10) (bpz0_11 : iv 0 4 pz0_11) (bpz0_12 : iv 0 900 pz0_12) (bpz0_13 : iv 0 4 pz0_13) (bpz0_14 : iv (-1) 900 pz0_14) (bpz0_18 : iv 0 2 pz0_18) (bpz0_22 : iv 0 9999 pz0_22) (bpz0_29 : iv 0 10000 pz0_29) (tfz1 : ivT tA fz1) : Ct l V yX10_lit (.code yX10_lit cX10_lit 2 (some .int)) 3 [.ref (z 0), .int a1] [(z 0, .inr (10, mo z pz0_0 pz0_5 pz0_6 pz0_7 pz0_8 pz0_9 pz0_10 pz0_11 pz0_12 pz0_13 pz0_14 pz0_18 pz0_19 pz0_22 pz0_23 pz0_29)), (z 1, aI V 3075 fz1)] 0 0 (QI V (fun (r : Int32) (w : va_W) => ∃ (v0 : Int32), iv (-2) 15 r ∧ w = [(z 0, .inr (10, mo z v0 pz0_5 pz0_6 pz0_7 pz0_8 pz0_9 pz0_10 pz0_11 pz0_12 pz0_13 pz0_14 pz0_18 pz0_19 pz0_22 pz0_23 pz0_29)), (z 1, aI V 3075 fz1)])) := by
  refine Ct.of (by decide) (Nat.le_of_ble_eq_true rfl) (fun p e s m below meth c A ls hx hb hr hml hown hlk hnm hg hP hK hD hE hA hS hl => ?_)
  have hl : lv_has ls 2 [(0, .ref (z 0)), (1, .int a1)] := hl
  refine lv_aload_n hx hb dX10_lit_0 rfl (lv_at hl 0 rfl) ?_
  refine lv_iconst (v := 0) hx hb dX10_lit_1 (by decide) ?_
  refine va_put (ci := 10) (v := .int 0) (ty := .int) (C := RX10) (T := TX10) (N := 40) hx hb hg inX10 tyX10 tyX10_ok nmX10 hown hK hP hD hS 0 rfl rfl 0 (by decide) (hg _ q_5_224) (fun _ h9 => h9) rfl (by decide +kernel) rfl rfl (Nat.le_of_ble_eq_true rfl) dX10_lit_2 (fun H locs hP hD hS => ?_)
  have hP : va_P V.1 vwCl [(z 0, .inr (10, mo z 0 pz0_5 pz0_6 pz0_7 pz0_8 pz0_9 pz0_10 pz0_11 pz0_12 pz0_13 pz0_14 pz0_18 pz0_19 pz0_22 pz0_23 pz0_29)), (z 1, aI V 3075 fz1)] H := hP
  have hD := cpD hP hD
  refine lv_aload_n hx hb dX10_lit_5 rfl (lv_at hl 0 rfl) ?_
  refine lv_iload_n hx hb dX10_lit_6 rfl (lv_at hl 1 rfl) ?_
  refine lv_i2l hx hb dX10_lit_7 rfl ?_
  refine lv_topl (fun j_1 ej_1 => ?_)
  refine jnI (wr := []) (rnV (rest := []) ⟨hx, hb, hml, hown, hg⟩ (k_X10_isHill_0 l V z j_1 0 pz0_5 pz0_6 pz0_7 pz0_8 pz0_9 pz0_10 pz0_11 pz0_12 pz0_13 pz0_14 pz0_18 pz0_19 pz0_22 pz0_23 pz0_29 fz1 bpz0_5 bpz0_6 bpz0_7 bpz0_8 bpz0_10 bpz0_11 bpz0_12 bpz0_13 bpz0_14 bpz0_18 bpz0_22 bpz0_29 tfz1) mt_X10_isHill q_6_235 ⟨Nat.le_of_ble_eq_true rfl, Nat.le_of_ble_eq_true rfl⟩ hK hP hD hS hA hE [0, 1] rfl rfl 0 rfl rfl rfl rfl hl.1 rfl (Nat.le_of_ble_eq_true rfl) dX10_lit_8 ⟨Nat.le_of_ble_eq_true rfl, Nat.le_of_ble_eq_true rfl⟩) hP hD hS hA [0, 1] [] rfl rfl rfl (by decide) (fun r_2 w H locs hw hP hD hS => ?_)
  obtain ⟨br_2, g_3, et_4, rfl⟩ := hw
  have hP : va_P V.1 vwCl [(z 0, .inr (10, mo z 0 pz0_5 pz0_6 pz0_7 pz0_8 pz0_9 pz0_10 pz0_11 pz0_12 pz0_13 pz0_14 pz0_18 pz0_19 pz0_22 pz0_23 pz0_29)), (z 1, aI V 3075 fz1)] H := hP
  have hD := cpD hP hD
  refine lv_if_eq (tgt := 22) hx hb dX10_lit_11 (by decide) (fun c_5 => ?_) (fun c_5 => ?_)
  · have b_6 : iv 0 0 r_2 := iv_q c_5 (iv_c (0 : Int32) (a := 0) (b := 0) (by decide))
    refine lv_bipush (v := (-2)) hx hb dX10_lit_22 (by decide) ?_
    exact fiI hx hb hr hlk hK hP hD hS dX10_lit_24 (Nat.le_of_ble_eq_true rfl) (Nat.le_of_ble_eq_true rfl) (⟨0, (iv_c ((-2) : Int32) (by decide)), rfl⟩)
  · have b_7 : iv 1 1 r_2 := iv_n0 c_5 br_2 (iv_c (0 : Int32) (a := 0) (b := 0) (by decide)) (by decide)
    have b_8 : ivL 0 3 j_1 := ivL_cap (g_3 (iv_eqp b_7 (iv_c (1 : Int32) (by decide)))) (ivL_top j_1) (by decide)
    have b_9 : iv 0 3 a1 := iv_cap (ivL_i ej_1 b_8) (iv_top a1) (by decide)
    refine lv_aload_n hx hb dX10_lit_14 rfl (lv_at hl 0 rfl) ?_
    refine lv_iload_n hx hb dX10_lit_15 rfl (lv_at hl 1 rfl) ?_
    refine jnI (wr := []) (rnV (rest := []) ⟨hx, hb, hml, hown, hg⟩ (k_X10_litBy_0 l V z a1 0 pz0_5 pz0_6 pz0_7 pz0_8 pz0_9 pz0_10 pz0_11 pz0_12 pz0_13 pz0_14 pz0_18 pz0_19 pz0_22 pz0_23 pz0_29 fz1 b_9 bpz0_5 bpz0_6 bpz0_7 bpz0_8 bpz0_10 bpz0_11 bpz0_12 bpz0_13 bpz0_14 bpz0_18 bpz0_22 bpz0_29 tfz1) mt_X10_litBy q_8_16 ⟨Nat.le_of_ble_eq_true rfl, Nat.le_of_ble_eq_true rfl⟩ hK hP hD hS hA hE [0, 1] rfl rfl 0 rfl rfl rfl rfl hl.1 rfl (Nat.le_of_ble_eq_true rfl) dX10_lit_16 ⟨Nat.le_of_ble_eq_true rfl, Nat.le_of_ble_eq_true rfl⟩) hP hD hS hA [0, 1] [] rfl rfl rfl (by decide) (fun r_10 w H locs hw hP hD hS => ?_)
    obtain ⟨br_10, rfl⟩ := hw
    have hP : va_P V.1 vwCl [(z 0, .inr (10, mo z 0 pz0_5 pz0_6 pz0_7 pz0_8 pz0_9 pz0_10 pz0_11 pz0_12 pz0_13 pz0_14 pz0_18 pz0_19 pz0_22 pz0_23 pz0_29)), (z 1, aI V 3075 fz1)] H := hP
    have hD := cpD hP hD
    refine lv_goto (tgt := 24) hx hb dX10_lit_19 (by decide) ?_
    exact fiI hx hb hr hlk hK hP hD hS dX10_lit_24 (Nat.le_of_ble_eq_true rfl) (Nat.le_of_ble_eq_true rfl) (⟨0, (iv_w br_10 (by decide)), rfl⟩)
theorem dX10_bitsOf_0 : decode cX10_bitsOf 0 = .ok (.iconst 0, 1) := by decide +kernel
theorem dX10_bitsOf_1 : decode cX10_bitsOf 1 = .ok (.istore_n 1, 1) := by decide +kernel
theorem dX10_bitsOf_2 : decode cX10_bitsOf 2 = .ok (.iconst 0, 1) := by decide +kernel
theorem dX10_bitsOf_3 : decode cX10_bitsOf 3 = .ok (.istore_n 2, 1) := by decide +kernel
theorem dX10_bitsOf_4 : decode cX10_bitsOf 4 = .ok (.iload_n 2, 1) := by decide +kernel
theorem dX10_bitsOf_5 : decode cX10_bitsOf 5 = .ok (.bipush 8, 2) := by decide +kernel
theorem dX10_bitsOf_7 : decode cX10_bitsOf 7 = .ok (.if_icmp .ge 17, 3) := by decide +kernel
theorem dX10_bitsOf_24 : decode cX10_bitsOf 24 = .ok (.iload_n 1, 1) := by decide +kernel
theorem dX10_bitsOf_25 : decode cX10_bitsOf 25 = .ok (.ireturn, 1) := by decide +kernel
theorem dX10_bitsOf_10 : decode cX10_bitsOf 10 = .ok (.iload_n 1, 1) := by decide +kernel
theorem dX10_bitsOf_11 : decode cX10_bitsOf 11 = .ok (.iload_n 0, 1) := by decide +kernel
theorem dX10_bitsOf_12 : decode cX10_bitsOf 12 = .ok (.iload_n 2, 1) := by decide +kernel
theorem dX10_bitsOf_13 : decode cX10_bitsOf 13 = .ok (.ishr, 1) := by decide +kernel
theorem dX10_bitsOf_14 : decode cX10_bitsOf 14 = .ok (.iconst 1, 1) := by decide +kernel
theorem dX10_bitsOf_15 : decode cX10_bitsOf 15 = .ok (.iand, 1) := by decide +kernel
theorem dX10_bitsOf_16 : decode cX10_bitsOf 16 = .ok (.iadd, 1) := by decide +kernel
theorem dX10_bitsOf_17 : decode cX10_bitsOf 17 = .ok (.istore_n 1, 1) := by decide +kernel
theorem dX10_bitsOf_18 : decode cX10_bitsOf 18 = .ok (.iinc 2 1, 3) := by decide +kernel
theorem dX10_bitsOf_21 : decode cX10_bitsOf 21 = .ok (.goto (-17), 3) := by decide +kernel
set_option maxHeartbeats 4000000 in
set_option maxRecDepth 100000 in
theorem k_X10_bitsOf_0 (l : Launch) (V : GV) (a0 : Int32) : Ct l V yX10_bitsOf (.code yX10_bitsOf cX10_bitsOf 3 (some .int)) 1 [.int a0] [] 0 0 (QI V (fun (r : Int32) (w : va_W) => w = [])) := by
  refine Ct.of (by decide) (Nat.le_of_ble_eq_true rfl) (fun p e s m below meth c A ls hx hb hr hml hown hlk hnm hg hP hK hD hE hA hS hl => ?_)
  have hl : lv_has ls 3 [(0, .int a0)] := hl
  refine lv_iconst (v := 0) hx hb dX10_bitsOf_0 (by decide) ?_
  refine lv_istore_n (lv' := [(1, .int 0), (0, .int a0)]) hx hb dX10_bitsOf_1 rfl hl (by decide) rfl (fun ls hl => ?_)
  refine lv_iconst (v := 0) hx hb dX10_bitsOf_2 (by decide) ?_
  refine lv_istore_n (lv' := [(2, .int 0), (1, .int 0), (0, .int a0)]) hx hb dX10_bitsOf_3 rfl hl (by decide) rfl (fun ls hl => ?_)
  refine loopF (X := fun (n_3 : Nat) (H : Heap) (locs : List Loc) (ls : Array Slot) => ∃ (u_1 : Int32) (u_2 : Int32), (iv 0 2147483647 u_1) ∧ n_3 = (2147483647 - (u_1 : Int32).toInt).toNat ∧ va_P V.1 vwCl [] H ∧ va_D A [] ∧ va_S A s.heap H locs ∧ lv_has ls 3 [(2, .int u_1), (1, .int u_2), (0, .int a0)]) (g := fun ls => F0 m 4 ls []) (fun n_3 H locs ls hX ihn_3 => ?_) _ ⟨0, 0, (iv_c (0 : Int32) (by decide)), rfl, hP, hD, hS, lv_sub hl [0, 1, 2] rfl⟩
  obtain ⟨u_1, u_2, bu_1, en_3, hP, hD, hS, hl⟩ := hX
  refine lv_iload_n hx hb dX10_bitsOf_4 rfl (lv_at hl 0 rfl) ?_
  refine lv_bipush (v := 8) hx hb dX10_bitsOf_5 (by decide) ?_
  refine lv_icmp_ge (tgt := 24) hx hb dX10_bitsOf_7 (by decide) (fun c_4 => ?_) (fun c_4 => ?_)
  · have b_5 : iv 8 2147483647 u_1 := iv_e2 c_4 (iv_c (8 : Int32) (a := 8) (b := 8) (by decide)) bu_1 (by decide)
    refine lv_iload_n hx hb dX10_bitsOf_24 rfl (lv_at hl 1 rfl) ?_
    exact fiI hx hb hr hlk hK hP hD hS dX10_bitsOf_25 (Nat.le_of_ble_eq_true rfl) (Nat.le_of_ble_eq_true rfl) (rfl)
  · have b_6 : iv 0 7 u_1 := iv_l1 (Int32.not_le.mp c_4) bu_1 (iv_c (8 : Int32) (a := 8) (b := 8) (by decide)) (by decide)
    refine lv_iload_n hx hb dX10_bitsOf_10 rfl (lv_at hl 1 rfl) ?_
    refine lv_iload_n hx hb dX10_bitsOf_11 rfl (lv_at hl 2 rfl) ?_
    refine lv_iload_n hx hb dX10_bitsOf_12 rfl (lv_at hl 0 rfl) ?_
    refine lv_ishr hx hb dX10_bitsOf_13 ?_
    refine lv_topi (fun x_7 ex_7 => ?_)
    refine lv_iconst (v := 1) hx hb dX10_bitsOf_14 (by decide) ?_
    refine lv_iand hx hb dX10_bitsOf_15 ?_
    refine lv_topi (fun x_8 ex_8 => ?_)
    have bx_8 : iv 0 1 x_8 := by rw [ex_8]; exact iv_and1 _
    refine lv_iadd hx hb dX10_bitsOf_16 ?_
    refine lv_topi (fun x_9 ex_9 => ?_)
    refine lv_istore_n (lv' := [(1, .int x_9), (2, .int u_1), (0, .int a0)]) hx hb dX10_bitsOf_17 rfl hl (by decide) rfl (fun ls hl => ?_)
    obtain ⟨x_10, ex_10⟩ : ∃ z9 : Int32, z9 = u_1 + 1 := ⟨_, rfl⟩
    have bx_10 : iv 1 8 x_10 := by rw [ex_10]; exact iv_add b_6 (iv_c (1 : Int32) (a := 1) (b := 1) (by decide)) (by decide)
    refine lv_iinc (v := x_10) (lv' := [(2, .int x_10), (1, .int x_9), (0, .int a0)]) hx hb dX10_bitsOf_18 hl (k := 1) rfl (by rw [ex_10]; rfl) (by decide) rfl (fun ls hl => ?_)
    refine lv_goto (tgt := 4) hx hb dX10_bitsOf_21 (by decide) ?_
    exact ihn_3 _ _ _ _ (by rw [en_3, ex_10]; exact mu_up b_6 (by decide)) ⟨x_10, x_9, (iv_w bx_10 (by decide)), rfl, hP, hD, hS, lv_sub hl [0, 1, 2] rfl⟩
theorem dX10_brightest_0 : decode cX10_brightest 0 = .ok (.aload_n 0, 1) := by decide +kernel
theorem dX10_brightest_1 : decode cX10_brightest 1 = .ok (.iconst 0, 1) := by decide +kernel
theorem dX10_brightest_2 : decode cX10_brightest 2 = .ok (.putfield 1, 3) := by decide +kernel
theorem dX10_brightest_5 : decode cX10_brightest 5 = .ok (.iconst (-1), 1) := by decide +kernel
theorem dX10_brightest_6 : decode cX10_brightest 6 = .ok (.istore_n 1, 1) := by decide +kernel
theorem dX10_brightest_7 : decode cX10_brightest 7 = .ok (.iconst (-1), 1) := by decide +kernel
theorem dX10_brightest_8 : decode cX10_brightest 8 = .ok (.istore_n 2, 1) := by decide +kernel
theorem dX10_brightest_9 : decode cX10_brightest 9 = .ok (.iconst 0, 1) := by decide +kernel
theorem dX10_brightest_10 : decode cX10_brightest 10 = .ok (.istore_n 3, 1) := by decide +kernel
theorem dX10_brightest_11 : decode cX10_brightest 11 = .ok (.iload_n 3, 1) := by decide +kernel
theorem dX10_brightest_12 : decode cX10_brightest 12 = .ok (.aload_n 0, 1) := by decide +kernel
theorem dX10_brightest_13 : decode cX10_brightest 13 = .ok (.getfield 13, 3) := by decide +kernel
theorem dX10_brightest_16 : decode cX10_brightest 16 = .ok (.iconst 1, 1) := by decide +kernel
theorem dX10_brightest_17 : decode cX10_brightest 17 = .ok (.iaload, 1) := by decide +kernel
theorem dX10_brightest_18 : decode cX10_brightest 18 = .ok (.if_icmp .ge 35, 3) := by decide +kernel
theorem dX10_brightest_53 : decode cX10_brightest 53 = .ok (.iload_n 1, 1) := by decide +kernel
theorem dX10_brightest_54 : decode cX10_brightest 54 = .ok (.ireturn, 1) := by decide +kernel
theorem dX10_brightest_21 : decode cX10_brightest 21 = .ok (.aload_n 0, 1) := by decide +kernel
theorem dX10_brightest_22 : decode cX10_brightest 22 = .ok (.iload_n 3, 1) := by decide +kernel
theorem dX10_brightest_23 : decode cX10_brightest 23 = .ok (.invokevirtual 402, 3) := by decide +kernel
theorem q_8_26 : Cond.code yX10_bitsOf prog_12_method_44_code 3 (some FieldType.int) ∈ gw := gw_8 (i := 26) (rfl) rfl
theorem q_8_25 : Cond.static yX10_bitsOf ∈ gw := gw_8 (i := 25) (by decide +kernel) rfl
theorem mt_X10_bitsOf : MtS yX10_bitsOf cX10_bitsOf 3 (some .int) 1 := ⟨⟨q_8_26, q_1_9, by decide +kernel, by decide +kernel, by decide +kernel⟩, q_8_25⟩
theorem q_8_24 : Cond.methodLink "BeaconDelayModel" 405 yX10_bitsOf ∈ gw := gw_8 (i := 24) (by decide +kernel) rfl
theorem dX10_brightest_26 : decode cX10_brightest 26 = .ok (.invokestatic 405, 3) := by decide +kernel
theorem dX10_brightest_29 : decode cX10_brightest 29 = .ok (.iload_n 2, 1) := by decide +kernel
theorem dX10_brightest_30 : decode cX10_brightest 30 = .ok (.if_icmp .gt 6, 3) := by decide +kernel
theorem dX10_brightest_36 : decode cX10_brightest 36 = .ok (.iload_n 3, 1) := by decide +kernel
theorem dX10_brightest_37 : decode cX10_brightest 37 = .ok (.istore_n 1, 1) := by decide +kernel
theorem dX10_brightest_38 : decode cX10_brightest 38 = .ok (.aload_n 0, 1) := by decide +kernel
theorem dX10_brightest_39 : decode cX10_brightest 39 = .ok (.iload_n 3, 1) := by decide +kernel
theorem dX10_brightest_40 : decode cX10_brightest 40 = .ok (.invokevirtual 402, 3) := by decide +kernel
theorem dX10_brightest_43 : decode cX10_brightest 43 = .ok (.invokestatic 405, 3) := by decide +kernel
theorem dX10_brightest_46 : decode cX10_brightest 46 = .ok (.istore_n 2, 1) := by decide +kernel
theorem dX10_brightest_47 : decode cX10_brightest 47 = .ok (.iinc 3 1, 3) := by decide +kernel
theorem dX10_brightest_50 : decode cX10_brightest 50 = .ok (.goto (-39), 3) := by decide +kernel
theorem dX10_brightest_33 : decode cX10_brightest 33 = .ok (.goto 14, 3) := by decide +kernel
set_option maxHeartbeats 4000000 in
set_option maxRecDepth 100000 in
theorem k_X10_brightest_0 (l : Launch) (V : GV) (z : Nat → Nat) (pz0_0 : Int32) (pz0_5 : Int32) (pz0_6 : Int32) (pz0_7 : Int32) (pz0_8 : Int32) (pz0_9 : Int32) (pz0_10 : Int32) (pz0_11 : Int32) (pz0_12 : Int32) (pz0_13 : Int32) (pz0_14 : Int32) (pz0_18 : Int32) (pz0_19 : Int32) (pz0_22 : Int32) (pz0_23 : Int32) (pz0_29 : Int32) (fz1 : Nat → Int32) (bpz0_5 : iv 0 900 pz0_5) (bpz0_6 : iv 0 900 pz0_6) (bpz0_7 : iv 0 900 pz0_7) (bpz0_8 : iv 0 900 pz0_8) (bpz0_10 : iv 0 999 pz0_10) (bpz0_11 : iv 0 4 pz0_11) (bpz0_12 : iv 0 900 pz0_12) (bpz0_13 : iv 0 4 pz0_13) (bpz0_14 : iv (-1) 900 pz0_14) (bpz0_18 : iv 0 2 pz0_18) (bpz0_22 : iv 0 9999 pz0_22) (bpz0_29 : iv 0 10000 pz0_29) (tfz1 : ivT tA fz1) : Ct l V yX10_brightest (.code yX10_brightest cX10_brightest 4 (some .int)) 3 [.ref (z 0)] [(z 0, .inr (10, mo z pz0_0 pz0_5 pz0_6 pz0_7 pz0_8 pz0_9 pz0_10 pz0_11 pz0_12 pz0_13 pz0_14 pz0_18 pz0_19 pz0_22 pz0_23 pz0_29)), (z 1, aI V 3075 fz1)] 0 0 (QI V (fun (r : Int32) (w : va_W) => ∃ (v0 : Int32), w = [(z 0, .inr (10, mo z v0 pz0_5 pz0_6 pz0_7 pz0_8 pz0_9 pz0_10 pz0_11 pz0_12 pz0_13 pz0_14 pz0_18 pz0_19 pz0_22 pz0_23 pz0_29)), (z 1, aI V 3075 fz1)])) := by
  refine Ct.of (by decide) (Nat.le_of_ble_eq_true rfl) (fun p e s m below meth c A ls hx hb hr hml hown hlk hnm hg hP hK hD hE hA hS hl => ?_)
  have hl : lv_has ls 4 [(0, .ref (z 0))] := hl
  refine lv_aload_n hx hb dX10_brightest_0 rfl (lv_at hl 0 rfl) ?_
  refine lv_iconst (v := 0) hx hb dX10_brightest_1 (by decide) ?_
  refine va_put (ci := 10) (v := .int 0) (ty := .int) (C := RX10) (T := TX10) (N := 40) hx hb hg inX10 tyX10 tyX10_ok nmX10 hown hK hP hD hS 0 rfl rfl 0 (by decide) (hg _ q_5_224) (fun _ h9 => h9) rfl (by decide +kernel) rfl rfl (Nat.le_of_ble_eq_true rfl) dX10_brightest_2 (fun H locs hP hD hS => ?_)
  have hP : va_P V.1 vwCl [(z 0, .inr (10, mo z 0 pz0_5 pz0_6 pz0_7 pz0_8 pz0_9 pz0_10 pz0_11 pz0_12 pz0_13 pz0_14 pz0_18 pz0_19 pz0_22 pz0_23 pz0_29)), (z 1, aI V 3075 fz1)] H := hP
  have hD := cpD hP hD
  refine lv_iconst (v := (-1)) hx hb dX10_brightest_5 (by decide) ?_
  refine lv_istore_n (lv' := [(1, .int (-1)), (0, .ref (z 0))]) hx hb dX10_brightest_6 rfl hl (by decide) rfl (fun ls hl => ?_)
  refine lv_iconst (v := (-1)) hx hb dX10_brightest_7 (by decide) ?_
  refine lv_istore_n (lv' := [(2, .int (-1)), (1, .int (-1)), (0, .ref (z 0))]) hx hb dX10_brightest_8 rfl hl (by decide) rfl (fun ls hl => ?_)
  refine lv_iconst (v := 0) hx hb dX10_brightest_9 (by decide) ?_
  refine lv_istore_n (lv' := [(3, .int 0), (2, .int (-1)), (1, .int (-1)), (0, .ref (z 0))]) hx hb dX10_brightest_10 rfl hl (by decide) rfl (fun ls hl => ?_)
  refine loopF (X := fun (n_4 : Nat) (H : Heap) (locs : List Loc) (ls : Array Slot) => ∃ (u_1 : Int32) (u_2 : Int32) (u_3 : Int32), (iv 0 2147483647 u_1) ∧ n_4 = (2147483647 - (u_1 : Int32).toInt).toNat ∧ va_P V.1 vwCl [(z 0, .inr (10, mo z 0 pz0_5 pz0_6 pz0_7 pz0_8 pz0_9 pz0_10 pz0_11 pz0_12 pz0_13 pz0_14 pz0_18 pz0_19 pz0_22 pz0_23 pz0_29)), (z 1, aI V 3075 fz1)] H ∧ va_D A [(z 0, .inr (10, mo z 0 pz0_5 pz0_6 pz0_7 pz0_8 pz0_9 pz0_10 pz0_11 pz0_12 pz0_13 pz0_14 pz0_18 pz0_19 pz0_22 pz0_23 pz0_29)), (z 1, aI V 3075 fz1)] ∧ va_S A s.heap H locs ∧ lv_has ls 4 [(3, .int u_1), (2, .int u_2), (1, .int u_3), (0, .ref (z 0))]) (g := fun ls => F0 m 11 ls []) (fun n_4 H locs ls hX ihn_4 => ?_) _ ⟨0, (-1), (-1), (iv_c (0 : Int32) (by decide)), rfl, hP, hD, hS, lv_sub hl [0, 1, 2, 3] rfl⟩
  obtain ⟨u_1, u_2, u_3, bu_1, en_4, hP, hD, hS, hl⟩ := hX
  refine lv_iload_n hx hb dX10_brightest_11 rfl (lv_at hl 0 rfl) ?_
  refine lv_aload_n hx hb dX10_brightest_12 rfl (lv_at hl 3 rfl) ?_
  refine va_get (ci := 10) (v := .ref (z 1)) (C := RX10) (T := TX10) (N := 40) hx hb hg inX10 hown hK hP 0 rfl rfl 1 (by decide) (hg _ q_5_225) (fun _ h9 => h9) rfl dX10_brightest_13 ?_
  refine lv_iconst (v := 1) hx hb dX10_brightest_16 (by decide) ?_
  refine va_iald hx hb hK hP 1 0 rfl rfl (vin (by decide +kernel)) dX10_brightest_17 ?_
  refine lv_topi (fun x_5 ex_5 => ?_)
  have bx_5 : iv 0 4 x_5 := by rw [ex_5]; exact rdT (a := 1) (n := 1) tfz1 (iv_c (1 : Int32) (a := 1) (b := 1) (by decide)) (by decide) (by decide +kernel)
  refine lv_icmp_ge (tgt := 53) hx hb dX10_brightest_18 (by decide) (fun c_6 => ?_) (fun c_6 => ?_)
  · refine lv_iload_n hx hb dX10_brightest_53 rfl (lv_at hl 2 rfl) ?_
    exact fiI hx hb hr hlk hK hP hD hS dX10_brightest_54 (Nat.le_of_ble_eq_true rfl) (Nat.le_of_ble_eq_true rfl) (⟨0, rfl⟩)
  · have b_7 : iv 0 3 u_1 := iv_l1 (Int32.not_le.mp c_6) bu_1 bx_5 (by decide)
    have b_8 : iv 1 4 x_5 := iv_l2 (Int32.not_le.mp c_6) bu_1 bx_5 (by decide)
    refine lv_aload_n hx hb dX10_brightest_21 rfl (lv_at hl 3 rfl) ?_
    refine lv_iload_n hx hb dX10_brightest_22 rfl (lv_at hl 0 rfl) ?_
    refine jnI (wr := []) (rnV (rest := []) ⟨hx, hb, hml, hown, hg⟩ (k_X10_litBy_0 l V z u_1 0 pz0_5 pz0_6 pz0_7 pz0_8 pz0_9 pz0_10 pz0_11 pz0_12 pz0_13 pz0_14 pz0_18 pz0_19 pz0_22 pz0_23 pz0_29 fz1 b_7 bpz0_5 bpz0_6 bpz0_7 bpz0_8 bpz0_10 bpz0_11 bpz0_12 bpz0_13 bpz0_14 bpz0_18 bpz0_22 bpz0_29 tfz1) mt_X10_litBy q_8_16 ⟨Nat.le_of_ble_eq_true rfl, Nat.le_of_ble_eq_true rfl⟩ hK hP hD hS hA hE [0, 1] rfl rfl 0 rfl rfl rfl rfl hl.1 rfl (Nat.le_of_ble_eq_true rfl) dX10_brightest_23 ⟨Nat.le_of_ble_eq_true rfl, Nat.le_of_ble_eq_true rfl⟩) hP hD hS hA [0, 1] [] rfl rfl rfl (by decide) (fun r_9 w H locs hw hP hD hS => ?_)
    obtain ⟨br_9, rfl⟩ := hw
    have hP : va_P V.1 vwCl [(z 0, .inr (10, mo z 0 pz0_5 pz0_6 pz0_7 pz0_8 pz0_9 pz0_10 pz0_11 pz0_12 pz0_13 pz0_14 pz0_18 pz0_19 pz0_22 pz0_23 pz0_29)), (z 1, aI V 3075 fz1)] H := hP
    have hD := cpD hP hD
    refine jnI (wr := [(z 0, .inr (10, mo z 0 pz0_5 pz0_6 pz0_7 pz0_8 pz0_9 pz0_10 pz0_11 pz0_12 pz0_13 pz0_14 pz0_18 pz0_19 pz0_22 pz0_23 pz0_29)), (z 1, aI V 3075 fz1)]) (rnS (rest := []) ⟨hx, hb, hml, hown, hg⟩ (k_X10_bitsOf_0 l V r_9) mt_X10_bitsOf q_8_24 ⟨Nat.le_of_ble_eq_true rfl, Nat.le_of_ble_eq_true rfl⟩ hK hP hD hS hA hE [] rfl rfl rfl hl.1 rfl (Nat.le_of_ble_eq_true rfl) dX10_brightest_26 ⟨Nat.le_of_ble_eq_true rfl, Nat.le_of_ble_eq_true rfl⟩) hP hD hS hA [] [0, 1] rfl rfl rfl (by decide) (fun r_10 w H locs hw hP hD hS => ?_)
    subst hw
    have hP : va_P V.1 vwCl [(z 0, .inr (10, mo z 0 pz0_5 pz0_6 pz0_7 pz0_8 pz0_9 pz0_10 pz0_11 pz0_12 pz0_13 pz0_14 pz0_18 pz0_19 pz0_22 pz0_23 pz0_29)), (z 1, aI V 3075 fz1)] H := hP
    have hD := cpD hP hD
    refine lv_iload_n hx hb dX10_brightest_29 rfl (lv_at hl 1 rfl) ?_
    refine lv_icmp_gt (tgt := 36) hx hb dX10_brightest_30 (by decide) (fun c_11 => ?_) (fun c_11 => ?_)
    · have b_12 : iv (-2147483648) 2147483646 u_2 := iv_l1 c_11 (iv_top u_2) (iv_top r_10) (by decide)
      have b_13 : iv (-2147483647) 2147483647 r_10 := iv_l2 c_11 (iv_top u_2) (iv_top r_10) (by decide)
      refine lv_iload_n hx hb dX10_brightest_36 rfl (lv_at hl 0 rfl) ?_
      refine lv_istore_n (lv' := [(1, .int u_1), (3, .int u_1), (2, .int u_2), (0, .ref (z 0))]) hx hb dX10_brightest_37 rfl hl (by decide) rfl (fun ls hl => ?_)
      refine lv_aload_n hx hb dX10_brightest_38 rfl (lv_at hl 3 rfl) ?_
      refine lv_iload_n hx hb dX10_brightest_39 rfl (lv_at hl 1 rfl) ?_
      refine jnI (wr := []) (rnV (rest := []) ⟨hx, hb, hml, hown, hg⟩ (k_X10_litBy_0 l V z u_1 0 pz0_5 pz0_6 pz0_7 pz0_8 pz0_9 pz0_10 pz0_11 pz0_12 pz0_13 pz0_14 pz0_18 pz0_19 pz0_22 pz0_23 pz0_29 fz1 b_7 bpz0_5 bpz0_6 bpz0_7 bpz0_8 bpz0_10 bpz0_11 bpz0_12 bpz0_13 bpz0_14 bpz0_18 bpz0_22 bpz0_29 tfz1) mt_X10_litBy q_8_16 ⟨Nat.le_of_ble_eq_true rfl, Nat.le_of_ble_eq_true rfl⟩ hK hP hD hS hA hE [0, 1] rfl rfl 0 rfl rfl rfl rfl hl.1 rfl (Nat.le_of_ble_eq_true rfl) dX10_brightest_40 ⟨Nat.le_of_ble_eq_true rfl, Nat.le_of_ble_eq_true rfl⟩) hP hD hS hA [0, 1] [] rfl rfl rfl (by decide) (fun r_14 w H locs hw hP hD hS => ?_)
      obtain ⟨br_14, rfl⟩ := hw
      have hP : va_P V.1 vwCl [(z 0, .inr (10, mo z 0 pz0_5 pz0_6 pz0_7 pz0_8 pz0_9 pz0_10 pz0_11 pz0_12 pz0_13 pz0_14 pz0_18 pz0_19 pz0_22 pz0_23 pz0_29)), (z 1, aI V 3075 fz1)] H := hP
      have hD := cpD hP hD
      refine jnI (wr := [(z 0, .inr (10, mo z 0 pz0_5 pz0_6 pz0_7 pz0_8 pz0_9 pz0_10 pz0_11 pz0_12 pz0_13 pz0_14 pz0_18 pz0_19 pz0_22 pz0_23 pz0_29)), (z 1, aI V 3075 fz1)]) (rnS (rest := []) ⟨hx, hb, hml, hown, hg⟩ (k_X10_bitsOf_0 l V r_14) mt_X10_bitsOf q_8_24 ⟨Nat.le_of_ble_eq_true rfl, Nat.le_of_ble_eq_true rfl⟩ hK hP hD hS hA hE [] rfl rfl rfl hl.1 rfl (Nat.le_of_ble_eq_true rfl) dX10_brightest_43 ⟨Nat.le_of_ble_eq_true rfl, Nat.le_of_ble_eq_true rfl⟩) hP hD hS hA [] [0, 1] rfl rfl rfl (by decide) (fun r_15 w H locs hw hP hD hS => ?_)
      subst hw
      have hP : va_P V.1 vwCl [(z 0, .inr (10, mo z 0 pz0_5 pz0_6 pz0_7 pz0_8 pz0_9 pz0_10 pz0_11 pz0_12 pz0_13 pz0_14 pz0_18 pz0_19 pz0_22 pz0_23 pz0_29)), (z 1, aI V 3075 fz1)] H := hP
      have hD := cpD hP hD
      refine lv_istore_n (lv' := [(2, .int r_15), (1, .int u_1), (3, .int u_1), (0, .ref (z 0))]) hx hb dX10_brightest_46 rfl hl (by decide) rfl (fun ls hl => ?_)
      obtain ⟨x_16, ex_16⟩ : ∃ z9 : Int32, z9 = u_1 + 1 := ⟨_, rfl⟩
      have bx_16 : iv 1 4 x_16 := by rw [ex_16]; exact iv_add b_7 (iv_c (1 : Int32) (a := 1) (b := 1) (by decide)) (by decide)
      refine lv_iinc (v := x_16) (lv' := [(3, .int x_16), (2, .int r_15), (1, .int u_1), (0, .ref (z 0))]) hx hb dX10_brightest_47 hl (k := 2) rfl (by rw [ex_16]; rfl) (by decide) rfl (fun ls hl => ?_)
      refine lv_goto (tgt := 11) hx hb dX10_brightest_50 (by decide) ?_
      exact ihn_4 _ _ _ _ (by rw [en_4, ex_16]; exact mu_up b_7 (by decide)) ⟨x_16, r_15, u_1, (iv_w bx_16 (by decide)), rfl, hP, hD, hS, lv_sub hl [0, 1, 2, 3] rfl⟩
    · refine lv_goto (tgt := 47) hx hb dX10_brightest_33 (by decide) ?_
      obtain ⟨x_17, ex_17⟩ : ∃ z9 : Int32, z9 = u_1 + 1 := ⟨_, rfl⟩
      have bx_17 : iv 1 4 x_17 := by rw [ex_17]; exact iv_add b_7 (iv_c (1 : Int32) (a := 1) (b := 1) (by decide)) (by decide)
      refine lv_iinc (v := x_17) (lv' := [(3, .int x_17), (2, .int u_2), (1, .int u_3), (0, .ref (z 0))]) hx hb dX10_brightest_47 hl (k := 0) rfl (by rw [ex_17]; rfl) (by decide) rfl (fun ls hl => ?_)
      refine lv_goto (tgt := 11) hx hb dX10_brightest_50 (by decide) ?_
      exact ihn_4 _ _ _ _ (by rw [en_4, ex_17]; exact mu_up b_7 (by decide)) ⟨x_17, u_2, u_3, (iv_w bx_17 (by decide)), rfl, hP, hD, hS, lv_sub hl [0, 1, 2, 3] rfl⟩
theorem dX10_laysRoom_0 : decode cX10_laysRoom 0 = .ok (.iconst 0, 1) := by decide +kernel
theorem dX10_laysRoom_1 : decode cX10_laysRoom 1 = .ok (.istore_n 2, 1) := by decide +kernel
theorem dX10_laysRoom_2 : decode cX10_laysRoom 2 = .ok (.iload_n 2, 1) := by decide +kernel
theorem dX10_laysRoom_3 : decode cX10_laysRoom 3 = .ok (.bipush 100, 2) := by decide +kernel
theorem dX10_laysRoom_5 : decode cX10_laysRoom 5 = .ok (.if_icmp .ge 16, 3) := by decide +kernel
theorem dX10_laysRoom_21 : decode cX10_laysRoom 21 = .ok (.iconst 0, 1) := by decide +kernel
theorem dX10_laysRoom_22 : decode cX10_laysRoom 22 = .ok (.istore_n 2, 1) := by decide +kernel
theorem dX10_laysRoom_23 : decode cX10_laysRoom 23 = .ok (.iload_n 2, 1) := by decide +kernel
theorem dX10_laysRoom_24 : decode cX10_laysRoom 24 = .ok (.aload_n 0, 1) := by decide +kernel
theorem dX10_laysRoom_25 : decode cX10_laysRoom 25 = .ok (.getfield 13, 3) := by decide +kernel
theorem dX10_laysRoom_28 : decode cX10_laysRoom 28 = .ok (.iconst 1, 1) := by decide +kernel
theorem dX10_laysRoom_29 : decode cX10_laysRoom 29 = .ok (.iaload, 1) := by decide +kernel
theorem dX10_laysRoom_30 : decode cX10_laysRoom 30 = .ok (.if_icmp .ge 26, 3) := by decide +kernel
theorem dX10_laysRoom_56 : decode cX10_laysRoom 56 = .ok (.iconst 0, 1) := by decide +kernel
theorem dX10_laysRoom_57 : decode cX10_laysRoom 57 = .ok (.istore_n 2, 1) := by decide +kernel
theorem dX10_laysRoom_58 : decode cX10_laysRoom 58 = .ok (.iload_n 2, 1) := by decide +kernel
theorem dX10_laysRoom_59 : decode cX10_laysRoom 59 = .ok (.aload_n 0, 1) := by decide +kernel
theorem dX10_laysRoom_60 : decode cX10_laysRoom 60 = .ok (.getfield 13, 3) := by decide +kernel
theorem dX10_laysRoom_63 : decode cX10_laysRoom 63 = .ok (.iconst 2, 1) := by decide +kernel
theorem dX10_laysRoom_64 : decode cX10_laysRoom 64 = .ok (.iaload, 1) := by decide +kernel
theorem dX10_laysRoom_65 : decode cX10_laysRoom 65 = .ok (.if_icmp .ge 32, 3) := by decide +kernel
theorem dX10_laysRoom_97 : decode cX10_laysRoom 97 = .ok (.iconst 0, 1) := by decide +kernel
theorem dX10_laysRoom_98 : decode cX10_laysRoom 98 = .ok (.istore_n 2, 1) := by decide +kernel
theorem dX10_laysRoom_99 : decode cX10_laysRoom 99 = .ok (.iload_n 2, 1) := by decide +kernel
theorem dX10_laysRoom_100 : decode cX10_laysRoom 100 = .ok (.aload_n 0, 1) := by decide +kernel
theorem dX10_laysRoom_101 : decode cX10_laysRoom 101 = .ok (.getfield 13, 3) := by decide +kernel
theorem dX10_laysRoom_104 : decode cX10_laysRoom 104 = .ok (.iconst 3, 1) := by decide +kernel
theorem dX10_laysRoom_105 : decode cX10_laysRoom 105 = .ok (.iaload, 1) := by decide +kernel
theorem dX10_laysRoom_106 : decode cX10_laysRoom 106 = .ok (.if_icmp .ge 67, 3) := by decide +kernel
theorem dX10_laysRoom_173 : decode cX10_laysRoom 173 = .ok (.return_, 1) := by decide +kernel
theorem dX10_laysRoom_109 : decode cX10_laysRoom 109 = .ok (.iload_n 2, 1) := by decide +kernel
theorem dX10_laysRoom_110 : decode cX10_laysRoom 110 = .ok (.iload_n 1, 1) := by decide +kernel
theorem dX10_laysRoom_111 : decode cX10_laysRoom 111 = .ok (.if_icmp .eq 56, 3) := by decide +kernel
theorem dX10_laysRoom_167 : decode cX10_laysRoom 167 = .ok (.iinc 2 1, 3) := by decide +kernel
theorem dX10_laysRoom_170 : decode cX10_laysRoom 170 = .ok (.goto (-71), 3) := by decide +kernel
theorem dX10_laysRoom_114 : decode cX10_laysRoom 114 = .ok (.aload_n 0, 1) := by decide +kernel
theorem q_6_16 : Cond.fieldLink "BeaconDelayModel" 68 "BeaconDelayModel" "room" "[I" ∈ gw := gw_6 (i := 16) (by decide +kernel) rfl
theorem dX10_laysRoom_115 : decode cX10_laysRoom 115 = .ok (.getfield 68, 3) := by decide +kernel
theorem dX10_laysRoom_118 : decode cX10_laysRoom 118 = .ok (.bipush 10, 2) := by decide +kernel
theorem dX10_laysRoom_120 : decode cX10_laysRoom 120 = .ok (.iconst 1, 1) := by decide +kernel
theorem dX10_laysRoom_121 : decode cX10_laysRoom 121 = .ok (.aload_n 0, 1) := by decide +kernel
theorem dX10_laysRoom_122 : decode cX10_laysRoom 122 = .ok (.getfield 13, 3) := by decide +kernel
theorem dX10_laysRoom_125 : decode cX10_laysRoom 125 = .ok (.bipush 22, 2) := by decide +kernel
theorem dX10_laysRoom_127 : decode cX10_laysRoom 127 = .ok (.iconst 3, 1) := by decide +kernel
theorem dX10_laysRoom_128 : decode cX10_laysRoom 128 = .ok (.iload_n 2, 1) := by decide +kernel
theorem dX10_laysRoom_129 : decode cX10_laysRoom 129 = .ok (.imul, 1) := by decide +kernel
theorem dX10_laysRoom_130 : decode cX10_laysRoom 130 = .ok (.iadd, 1) := by decide +kernel
theorem dX10_laysRoom_131 : decode cX10_laysRoom 131 = .ok (.iaload, 1) := by decide +kernel
theorem dX10_laysRoom_132 : decode cX10_laysRoom 132 = .ok (.iadd, 1) := by decide +kernel
theorem dX10_laysRoom_133 : decode cX10_laysRoom 133 = .ok (.imul, 1) := by decide +kernel
theorem dX10_laysRoom_134 : decode cX10_laysRoom 134 = .ok (.iconst 5, 1) := by decide +kernel
theorem dX10_laysRoom_135 : decode cX10_laysRoom 135 = .ok (.iadd, 1) := by decide +kernel
theorem dX10_laysRoom_136 : decode cX10_laysRoom 136 = .ok (.aload_n 0, 1) := by decide +kernel
theorem dX10_laysRoom_137 : decode cX10_laysRoom 137 = .ok (.getfield 13, 3) := by decide +kernel
theorem dX10_laysRoom_140 : decode cX10_laysRoom 140 = .ok (.bipush 22, 2) := by decide +kernel
theorem dX10_laysRoom_142 : decode cX10_laysRoom 142 = .ok (.iconst 3, 1) := by decide +kernel
theorem dX10_laysRoom_143 : decode cX10_laysRoom 143 = .ok (.iload_n 2, 1) := by decide +kernel
theorem dX10_laysRoom_144 : decode cX10_laysRoom 144 = .ok (.imul, 1) := by decide +kernel
theorem dX10_laysRoom_145 : decode cX10_laysRoom 145 = .ok (.iadd, 1) := by decide +kernel
theorem dX10_laysRoom_146 : decode cX10_laysRoom 146 = .ok (.iconst 1, 1) := by decide +kernel
theorem dX10_laysRoom_147 : decode cX10_laysRoom 147 = .ok (.iadd, 1) := by decide +kernel
theorem dX10_laysRoom_148 : decode cX10_laysRoom 148 = .ok (.iaload, 1) := by decide +kernel
theorem dX10_laysRoom_149 : decode cX10_laysRoom 149 = .ok (.iadd, 1) := by decide +kernel
theorem dX10_laysRoom_150 : decode cX10_laysRoom 150 = .ok (.dup2, 1) := by decide +kernel
theorem dX10_laysRoom_151 : decode cX10_laysRoom 151 = .ok (.iaload, 1) := by decide +kernel
theorem dX10_laysRoom_152 : decode cX10_laysRoom 152 = .ok (.aload_n 0, 1) := by decide +kernel
theorem dX10_laysRoom_153 : decode cX10_laysRoom 153 = .ok (.getfield 13, 3) := by decide +kernel
theorem dX10_laysRoom_156 : decode cX10_laysRoom 156 = .ok (.bipush 22, 2) := by decide +kernel
theorem dX10_laysRoom_158 : decode cX10_laysRoom 158 = .ok (.iconst 3, 1) := by decide +kernel
theorem dX10_laysRoom_159 : decode cX10_laysRoom 159 = .ok (.iload_n 2, 1) := by decide +kernel
theorem dX10_laysRoom_160 : decode cX10_laysRoom 160 = .ok (.imul, 1) := by decide +kernel
theorem dX10_laysRoom_161 : decode cX10_laysRoom 161 = .ok (.iadd, 1) := by decide +kernel
theorem dX10_laysRoom_162 : decode cX10_laysRoom 162 = .ok (.iconst 2, 1) := by decide +kernel
theorem dX10_laysRoom_163 : decode cX10_laysRoom 163 = .ok (.iadd, 1) := by decide +kernel
theorem dX10_laysRoom_164 : decode cX10_laysRoom 164 = .ok (.iaload, 1) := by decide +kernel
theorem dX10_laysRoom_165 : decode cX10_laysRoom 165 = .ok (.iadd, 1) := by decide +kernel
theorem dX10_laysRoom_166 : decode cX10_laysRoom 166 = .ok (.iastore, 1) := by decide +kernel
theorem dX10_laysRoom_68 : decode cX10_laysRoom 68 = .ok (.aload_n 0, 1) := by decide +kernel
theorem dX10_laysRoom_69 : decode cX10_laysRoom 69 = .ok (.getfield 68, 3) := by decide +kernel
theorem dX10_laysRoom_72 : decode cX10_laysRoom 72 = .ok (.bipush 10, 2) := by decide +kernel
theorem dX10_laysRoom_74 : decode cX10_laysRoom 74 = .ok (.iconst 5, 1) := by decide +kernel
theorem dX10_laysRoom_75 : decode cX10_laysRoom 75 = .ok (.iload_n 2, 1) := by decide +kernel
theorem dX10_laysRoom_76 : decode cX10_laysRoom 76 = .ok (.iadd, 1) := by decide +kernel
theorem dX10_laysRoom_77 : decode cX10_laysRoom 77 = .ok (.imul, 1) := by decide +kernel
theorem dX10_laysRoom_78 : decode cX10_laysRoom 78 = .ok (.bipush 9, 2) := by decide +kernel
theorem dX10_laysRoom_80 : decode cX10_laysRoom 80 = .ok (.iadd, 1) := by decide +kernel
theorem dX10_laysRoom_81 : decode cX10_laysRoom 81 = .ok (.aload_n 0, 1) := by decide +kernel
theorem dX10_laysRoom_82 : decode cX10_laysRoom 82 = .ok (.getfield 13, 3) := by decide +kernel
theorem dX10_laysRoom_85 : decode cX10_laysRoom 85 = .ok (.bipush 18, 2) := by decide +kernel
theorem dX10_laysRoom_87 : decode cX10_laysRoom 87 = .ok (.iload_n 2, 1) := by decide +kernel
theorem dX10_laysRoom_88 : decode cX10_laysRoom 88 = .ok (.iadd, 1) := by decide +kernel
theorem dX10_laysRoom_89 : decode cX10_laysRoom 89 = .ok (.iaload, 1) := by decide +kernel
theorem dX10_laysRoom_90 : decode cX10_laysRoom 90 = .ok (.iastore, 1) := by decide +kernel
theorem dX10_laysRoom_91 : decode cX10_laysRoom 91 = .ok (.iinc 2 1, 3) := by decide +kernel
theorem dX10_laysRoom_94 : decode cX10_laysRoom 94 = .ok (.goto (-36), 3) := by decide +kernel
theorem dX10_laysRoom_33 : decode cX10_laysRoom 33 = .ok (.aload_n 0, 1) := by decide +kernel
theorem dX10_laysRoom_34 : decode cX10_laysRoom 34 = .ok (.getfield 68, 3) := by decide +kernel
theorem dX10_laysRoom_37 : decode cX10_laysRoom 37 = .ok (.iconst 1, 1) := by decide +kernel
theorem dX10_laysRoom_38 : decode cX10_laysRoom 38 = .ok (.iload_n 2, 1) := by decide +kernel
theorem dX10_laysRoom_39 : decode cX10_laysRoom 39 = .ok (.iadd, 1) := by decide +kernel
theorem dX10_laysRoom_40 : decode cX10_laysRoom 40 = .ok (.aload_n 0, 1) := by decide +kernel
theorem dX10_laysRoom_41 : decode cX10_laysRoom 41 = .ok (.getfield 13, 3) := by decide +kernel
theorem dX10_laysRoom_44 : decode cX10_laysRoom 44 = .ok (.bipush 46, 2) := by decide +kernel
theorem dX10_laysRoom_46 : decode cX10_laysRoom 46 = .ok (.iload_n 2, 1) := by decide +kernel
theorem dX10_laysRoom_47 : decode cX10_laysRoom 47 = .ok (.iadd, 1) := by decide +kernel
theorem dX10_laysRoom_48 : decode cX10_laysRoom 48 = .ok (.iaload, 1) := by decide +kernel
theorem dX10_laysRoom_49 : decode cX10_laysRoom 49 = .ok (.iastore, 1) := by decide +kernel
theorem dX10_laysRoom_50 : decode cX10_laysRoom 50 = .ok (.iinc 2 1, 3) := by decide +kernel
theorem dX10_laysRoom_53 : decode cX10_laysRoom 53 = .ok (.goto (-30), 3) := by decide +kernel
theorem dX10_laysRoom_8 : decode cX10_laysRoom 8 = .ok (.aload_n 0, 1) := by decide +kernel
theorem dX10_laysRoom_9 : decode cX10_laysRoom 9 = .ok (.getfield 68, 3) := by decide +kernel
theorem dX10_laysRoom_12 : decode cX10_laysRoom 12 = .ok (.iload_n 2, 1) := by decide +kernel
theorem dX10_laysRoom_13 : decode cX10_laysRoom 13 = .ok (.iconst 0, 1) := by decide +kernel
theorem dX10_laysRoom_14 : decode cX10_laysRoom 14 = .ok (.iastore, 1) := by decide +kernel
theorem dX10_laysRoom_15 : decode cX10_laysRoom 15 = .ok (.iinc 2 1, 3) := by decide +kernel
theorem dX10_laysRoom_18 : decode cX10_laysRoom 18 = .ok (.goto (-16), 3) := by decide +kernel
set_option maxHeartbeats 4000000 in
set_option maxRecDepth 100000 in
theorem k_X10_laysRoom_0 (l : Launch) (V : GV) (z : Nat → Nat) (a1 : Int32) (pz0_0 : Int32) (pz0_5 : Int32) (pz0_6 : Int32) (pz0_7 : Int32) (pz0_8 : Int32) (pz0_9 : Int32) (pz0_10 : Int32) (pz0_11 : Int32) (pz0_12 : Int32) (pz0_13 : Int32) (pz0_14 : Int32) (pz0_18 : Int32) (pz0_19 : Int32) (pz0_22 : Int32) (pz0_23 : Int32) (pz0_29 : Int32) (fz1 : Nat → Int32) (fz32 : Nat → Int32) (bpz0_5 : iv 0 900 pz0_5) (bpz0_6 : iv 0 900 pz0_6) (bpz0_7 : iv 0 900 pz0_7) (bpz0_8 : iv 0 900 pz0_8) (bpz0_10 : iv 0 999 pz0_10) (bpz0_11 : iv 0 4 pz0_11) (bpz0_12 : iv 0 900 pz0_12) (bpz0_13 : iv 0 4 pz0_13) (bpz0_14 : iv (-1) 900 pz0_14) (bpz0_18 : iv 0 2 pz0_18) (bpz0_22 : iv 0 9999 pz0_22) (bpz0_29 : iv 0 10000 pz0_29) (tfz1 : ivT tA fz1) : Ct l V yX10_laysRoom (.code yX10_laysRoom cX10_laysRoom 3 none) 1 [.ref (z 0), .int a1] [(z 0, .inr (10, mo z pz0_0 pz0_5 pz0_6 pz0_7 pz0_8 pz0_9 pz0_10 pz0_11 pz0_12 pz0_13 pz0_14 pz0_18 pz0_19 pz0_22 pz0_23 pz0_29)), (z 1, aI V 3075 fz1), (z 32, aI V 100 fz32)] 0 0 (QV V (fun (w : va_W) => ∃ (g0 : Nat → Int32), (RR g0) ∧ w = [(z 0, .inr (10, mo z pz0_0 pz0_5 pz0_6 pz0_7 pz0_8 pz0_9 pz0_10 pz0_11 pz0_12 pz0_13 pz0_14 pz0_18 pz0_19 pz0_22 pz0_23 pz0_29)), (z 1, aI V 3075 fz1), (z 32, aI V 100 g0)])) := by
  refine Ct.of (by decide) (Nat.le_of_ble_eq_true rfl) (fun p e s m below meth c A ls hx hb hr hml hown hlk hnm hg hP hK hD hE hA hS hl => ?_)
  have hl : lv_has ls 3 [(0, .ref (z 0)), (1, .int a1)] := hl
  refine lv_iconst (v := 0) hx hb dX10_laysRoom_0 (by decide) ?_
  refine lv_istore_n (lv' := [(2, .int 0), (0, .ref (z 0)), (1, .int a1)]) hx hb dX10_laysRoom_1 rfl hl (by decide) rfl (fun ls hl => ?_)
  refine loopF (X := fun (n_3 : Nat) (H : Heap) (locs : List Loc) (ls : Array Slot) => ∃ (u_1 : Int32) (f_2 : Nat → Int32), (iv 0 100 u_1) ∧ (RRk u_1 f_2) ∧ n_3 = (2147483647 - (u_1 : Int32).toInt).toNat ∧ va_P V.1 vwCl [(z 0, .inr (10, mo z pz0_0 pz0_5 pz0_6 pz0_7 pz0_8 pz0_9 pz0_10 pz0_11 pz0_12 pz0_13 pz0_14 pz0_18 pz0_19 pz0_22 pz0_23 pz0_29)), (z 1, aI V 3075 fz1), (z 32, aI V 100 f_2)] H ∧ va_D A [(z 0, .inr (10, mo z pz0_0 pz0_5 pz0_6 pz0_7 pz0_8 pz0_9 pz0_10 pz0_11 pz0_12 pz0_13 pz0_14 pz0_18 pz0_19 pz0_22 pz0_23 pz0_29)), (z 1, aI V 3075 fz1), (z 32, aI V 100 f_2)] ∧ va_S A s.heap H locs ∧ lv_has ls 3 [(2, .int u_1), (0, .ref (z 0)), (1, .int a1)]) (g := fun ls => F0 m 2 ls []) (fun n_3 H locs ls hX ihn_3 => ?_) _ ⟨0, fz32, (iv_c (0 : Int32) (by decide)), (RRk_0 (by decide)), rfl, hP, hD, hS, lv_sub hl [0, 1, 2] rfl⟩
  obtain ⟨u_1, f_2, bu_1, inn_3_0, en_3, hP, hD, hS, hl⟩ := hX
  refine lv_iload_n hx hb dX10_laysRoom_2 rfl (lv_at hl 0 rfl) ?_
  refine lv_bipush (v := 100) hx hb dX10_laysRoom_3 (by decide) ?_
  refine lv_icmp_ge (tgt := 21) hx hb dX10_laysRoom_5 (by decide) (fun c_4 => ?_) (fun c_4 => ?_)
  · have b_5 : iv 100 100 u_1 := iv_e2 c_4 (iv_c (100 : Int32) (a := 100) (b := 100) (by decide)) bu_1 (by decide)
    refine lv_iconst (v := 0) hx hb dX10_laysRoom_21 (by decide) ?_
    refine lv_istore_n (lv' := [(2, .int 0), (0, .ref (z 0)), (1, .int a1)]) hx hb dX10_laysRoom_22 rfl hl (by decide) rfl (fun ls hl => ?_)
    refine loopF (X := fun (n_8 : Nat) (H : Heap) (locs : List Loc) (ls : Array Slot) => ∃ (u_6 : Int32) (f_7 : Nat → Int32), (iv 0 2147483647 u_6) ∧ (RR f_7) ∧ n_8 = (2147483647 - (u_6 : Int32).toInt).toNat ∧ va_P V.1 vwCl [(z 0, .inr (10, mo z pz0_0 pz0_5 pz0_6 pz0_7 pz0_8 pz0_9 pz0_10 pz0_11 pz0_12 pz0_13 pz0_14 pz0_18 pz0_19 pz0_22 pz0_23 pz0_29)), (z 1, aI V 3075 fz1), (z 32, aI V 100 f_7)] H ∧ va_D A [(z 0, .inr (10, mo z pz0_0 pz0_5 pz0_6 pz0_7 pz0_8 pz0_9 pz0_10 pz0_11 pz0_12 pz0_13 pz0_14 pz0_18 pz0_19 pz0_22 pz0_23 pz0_29)), (z 1, aI V 3075 fz1), (z 32, aI V 100 f_7)] ∧ va_S A s.heap H locs ∧ lv_has ls 3 [(2, .int u_6), (0, .ref (z 0)), (1, .int a1)]) (g := fun ls => F0 m 23 ls []) (fun n_8 H locs ls hX ihn_8 => ?_) _ ⟨0, f_2, (iv_c (0 : Int32) (by decide)), (RR_of inn_3_0 (Int32.not_lt.mpr c_4)), rfl, hP, hD, hS, lv_sub hl [0, 1, 2] rfl⟩
    obtain ⟨u_6, f_7, bu_6, inn_8_0, en_8, hP, hD, hS, hl⟩ := hX
    refine lv_iload_n hx hb dX10_laysRoom_23 rfl (lv_at hl 0 rfl) ?_
    refine lv_aload_n hx hb dX10_laysRoom_24 rfl (lv_at hl 1 rfl) ?_
    refine va_get (ci := 10) (v := .ref (z 1)) (C := RX10) (T := TX10) (N := 40) hx hb hg inX10 hown hK hP 0 rfl rfl 1 (by decide) (hg _ q_5_225) (fun _ h9 => h9) rfl dX10_laysRoom_25 ?_
    refine lv_iconst (v := 1) hx hb dX10_laysRoom_28 (by decide) ?_
    refine va_iald hx hb hK hP 1 0 rfl rfl (vin (by decide +kernel)) dX10_laysRoom_29 ?_
    refine lv_topi (fun x_9 ex_9 => ?_)
    have bx_9 : iv 0 4 x_9 := by rw [ex_9]; exact rdT (a := 1) (n := 1) tfz1 (iv_c (1 : Int32) (a := 1) (b := 1) (by decide)) (by decide) (by decide +kernel)
    refine lv_icmp_ge (tgt := 56) hx hb dX10_laysRoom_30 (by decide) (fun c_10 => ?_) (fun c_10 => ?_)
    · refine lv_iconst (v := 0) hx hb dX10_laysRoom_56 (by decide) ?_
      refine lv_istore_n (lv' := [(2, .int 0), (0, .ref (z 0)), (1, .int a1)]) hx hb dX10_laysRoom_57 rfl hl (by decide) rfl (fun ls hl => ?_)
      refine loopF (X := fun (n_13 : Nat) (H : Heap) (locs : List Loc) (ls : Array Slot) => ∃ (u_11 : Int32) (f_12 : Nat → Int32), (iv 0 2147483647 u_11) ∧ (RR f_12) ∧ n_13 = (2147483647 - (u_11 : Int32).toInt).toNat ∧ va_P V.1 vwCl [(z 0, .inr (10, mo z pz0_0 pz0_5 pz0_6 pz0_7 pz0_8 pz0_9 pz0_10 pz0_11 pz0_12 pz0_13 pz0_14 pz0_18 pz0_19 pz0_22 pz0_23 pz0_29)), (z 1, aI V 3075 fz1), (z 32, aI V 100 f_12)] H ∧ va_D A [(z 0, .inr (10, mo z pz0_0 pz0_5 pz0_6 pz0_7 pz0_8 pz0_9 pz0_10 pz0_11 pz0_12 pz0_13 pz0_14 pz0_18 pz0_19 pz0_22 pz0_23 pz0_29)), (z 1, aI V 3075 fz1), (z 32, aI V 100 f_12)] ∧ va_S A s.heap H locs ∧ lv_has ls 3 [(2, .int u_11), (0, .ref (z 0)), (1, .int a1)]) (g := fun ls => F0 m 58 ls []) (fun n_13 H locs ls hX ihn_13 => ?_) _ ⟨0, f_7, (iv_c (0 : Int32) (by decide)), inn_8_0, rfl, hP, hD, hS, lv_sub hl [0, 1, 2] rfl⟩
      obtain ⟨u_11, f_12, bu_11, inn_13_0, en_13, hP, hD, hS, hl⟩ := hX
      refine lv_iload_n hx hb dX10_laysRoom_58 rfl (lv_at hl 0 rfl) ?_
      refine lv_aload_n hx hb dX10_laysRoom_59 rfl (lv_at hl 1 rfl) ?_
      refine va_get (ci := 10) (v := .ref (z 1)) (C := RX10) (T := TX10) (N := 40) hx hb hg inX10 hown hK hP 0 rfl rfl 1 (by decide) (hg _ q_5_225) (fun _ h9 => h9) rfl dX10_laysRoom_60 ?_
      refine lv_iconst (v := 2) hx hb dX10_laysRoom_63 (by decide) ?_
      refine va_iald hx hb hK hP 1 0 rfl rfl (vin (by decide +kernel)) dX10_laysRoom_64 ?_
      refine lv_topi (fun x_14 ex_14 => ?_)
      have bx_14 : iv 0 4 x_14 := by rw [ex_14]; exact rdT (a := 2) (n := 1) tfz1 (iv_c (2 : Int32) (a := 2) (b := 2) (by decide)) (by decide) (by decide +kernel)
      refine lv_icmp_ge (tgt := 97) hx hb dX10_laysRoom_65 (by decide) (fun c_15 => ?_) (fun c_15 => ?_)
      · refine lv_iconst (v := 0) hx hb dX10_laysRoom_97 (by decide) ?_
        refine lv_istore_n (lv' := [(2, .int 0), (0, .ref (z 0)), (1, .int a1)]) hx hb dX10_laysRoom_98 rfl hl (by decide) rfl (fun ls hl => ?_)
        refine loopF (X := fun (n_18 : Nat) (H : Heap) (locs : List Loc) (ls : Array Slot) => ∃ (u_16 : Int32) (f_17 : Nat → Int32), (iv 0 2147483647 u_16) ∧ (RR f_17) ∧ n_18 = (2147483647 - (u_16 : Int32).toInt).toNat ∧ va_P V.1 vwCl [(z 0, .inr (10, mo z pz0_0 pz0_5 pz0_6 pz0_7 pz0_8 pz0_9 pz0_10 pz0_11 pz0_12 pz0_13 pz0_14 pz0_18 pz0_19 pz0_22 pz0_23 pz0_29)), (z 1, aI V 3075 fz1), (z 32, aI V 100 f_17)] H ∧ va_D A [(z 0, .inr (10, mo z pz0_0 pz0_5 pz0_6 pz0_7 pz0_8 pz0_9 pz0_10 pz0_11 pz0_12 pz0_13 pz0_14 pz0_18 pz0_19 pz0_22 pz0_23 pz0_29)), (z 1, aI V 3075 fz1), (z 32, aI V 100 f_17)] ∧ va_S A s.heap H locs ∧ lv_has ls 3 [(2, .int u_16), (0, .ref (z 0)), (1, .int a1)]) (g := fun ls => F0 m 99 ls []) (fun n_18 H locs ls hX ihn_18 => ?_) _ ⟨0, f_12, (iv_c (0 : Int32) (by decide)), inn_13_0, rfl, hP, hD, hS, lv_sub hl [0, 1, 2] rfl⟩
        obtain ⟨u_16, f_17, bu_16, inn_18_0, en_18, hP, hD, hS, hl⟩ := hX
        refine lv_iload_n hx hb dX10_laysRoom_99 rfl (lv_at hl 0 rfl) ?_
        refine lv_aload_n hx hb dX10_laysRoom_100 rfl (lv_at hl 1 rfl) ?_
        refine va_get (ci := 10) (v := .ref (z 1)) (C := RX10) (T := TX10) (N := 40) hx hb hg inX10 hown hK hP 0 rfl rfl 1 (by decide) (hg _ q_5_225) (fun _ h9 => h9) rfl dX10_laysRoom_101 ?_
        refine lv_iconst (v := 3) hx hb dX10_laysRoom_104 (by decide) ?_
        refine va_iald hx hb hK hP 1 0 rfl rfl (vin (by decide +kernel)) dX10_laysRoom_105 ?_
        refine lv_topi (fun x_19 ex_19 => ?_)
        have bx_19 : iv 0 8 x_19 := by rw [ex_19]; exact rdT (a := 3) (n := 1) tfz1 (iv_c (3 : Int32) (a := 3) (b := 3) (by decide)) (by decide) (by decide +kernel)
        refine lv_icmp_ge (tgt := 173) hx hb dX10_laysRoom_106 (by decide) (fun c_20 => ?_) (fun c_20 => ?_)
        · exact fiV hx hb hr hlk hK hP hD hS dX10_laysRoom_173 (Nat.le_of_ble_eq_true rfl) (Nat.le_of_ble_eq_true rfl) (⟨f_17, inn_18_0, rfl⟩)
        · have b_21 : iv 0 7 u_16 := iv_l1 (Int32.not_le.mp c_20) bu_16 bx_19 (by decide)
          have b_22 : iv 1 8 x_19 := iv_l2 (Int32.not_le.mp c_20) bu_16 bx_19 (by decide)
          refine lv_iload_n hx hb dX10_laysRoom_109 rfl (lv_at hl 0 rfl) ?_
          refine lv_iload_n hx hb dX10_laysRoom_110 rfl (lv_at hl 2 rfl) ?_
          refine lv_icmp_eq (tgt := 167) hx hb dX10_laysRoom_111 (by decide) (fun c_23 => ?_) (fun c_23 => ?_)
          · have b_24 : iv 0 7 a1 := iv_q c_23.symm b_21
            obtain ⟨x_25, ex_25⟩ : ∃ z9 : Int32, z9 = u_16 + 1 := ⟨_, rfl⟩
            have bx_25 : iv 1 8 x_25 := by rw [ex_25]; exact iv_add b_21 (iv_c (1 : Int32) (a := 1) (b := 1) (by decide)) (by decide)
            refine lv_iinc (v := x_25) (lv' := [(2, .int x_25), (0, .ref (z 0)), (1, .int a1)]) hx hb dX10_laysRoom_167 hl (k := 0) rfl (by rw [ex_25]; rfl) (by decide) rfl (fun ls hl => ?_)
            refine lv_goto (tgt := 99) hx hb dX10_laysRoom_170 (by decide) ?_
            exact ihn_18 _ _ _ _ (by rw [en_18, ex_25]; exact mu_up b_21 (by decide)) ⟨x_25, f_17, (iv_w bx_25 (by decide)), inn_18_0, rfl, hP, hD, hS, lv_sub hl [0, 1, 2] rfl⟩
          · refine lv_aload_n hx hb dX10_laysRoom_114 rfl (lv_at hl 1 rfl) ?_
            refine va_get (ci := 10) (v := .ref (z 32)) (C := RX10) (T := TX10) (N := 40) hx hb hg inX10 hown hK hP 0 rfl rfl 32 (by decide) (hg _ q_6_16) (fun _ h9 => h9) rfl dX10_laysRoom_115 ?_
            refine lv_bipush (v := 10) hx hb dX10_laysRoom_118 (by decide) ?_
            refine lv_iconst (v := 1) hx hb dX10_laysRoom_120 (by decide) ?_
            refine lv_aload_n hx hb dX10_laysRoom_121 rfl (lv_at hl 1 rfl) ?_
            refine va_get (ci := 10) (v := .ref (z 1)) (C := RX10) (T := TX10) (N := 40) hx hb hg inX10 hown hK hP 0 rfl rfl 1 (by decide) (hg _ q_5_225) (fun _ h9 => h9) rfl dX10_laysRoom_122 ?_
            refine lv_bipush (v := 22) hx hb dX10_laysRoom_125 (by decide) ?_
            refine lv_iconst (v := 3) hx hb dX10_laysRoom_127 (by decide) ?_
            refine lv_iload_n hx hb dX10_laysRoom_128 rfl (lv_at hl 0 rfl) ?_
            refine lv_imul hx hb dX10_laysRoom_129 ?_
            refine lv_topi (fun x_26 ex_26 => ?_)
            have bx_26 : iv 0 21 x_26 := by rw [ex_26]; exact iv_cmul (iv_c (3 : Int32) (a := 3) (b := 3) (by decide)) b_21 (by decide)
            refine lv_iadd hx hb dX10_laysRoom_130 ?_
            refine lv_topi (fun x_27 ex_27 => ?_)
            have bx_27 : iv 22 43 x_27 := by rw [ex_27]; exact iv_add (iv_c (22 : Int32) (a := 22) (b := 22) (by decide)) bx_26 (by decide)
            refine va_iald hx hb hK hP 1 0 rfl rfl (iv_in bx_27 (by decide)) dX10_laysRoom_131 ?_
            refine lv_topi (fun x_28 ex_28 => ?_)
            have bx_28 : iv 0 3 x_28 := by rw [ex_28]; exact (by have q_x_26 := toInt_mulC (k := 3) ex_26 b_21 (by decide) (by decide); have q_x_27 := toInt_add ex_27 (iv_c (22 : Int32) (a := 22) (b := 22) (by decide)) bx_26 (by decide); have k_x_27 : (22 : Int32).toInt = 22 := (by decide); exact rdS (c := 22) (k := 3) (a := 0) (n := 8) tfz1 (show _ = 22 + 3 * (u_16 : Int32).toInt by omega) b_21 (by decide) (by decide +kernel))
            refine lv_iadd hx hb dX10_laysRoom_132 ?_
            refine lv_topi (fun x_29 ex_29 => ?_)
            have bx_29 : iv 1 4 x_29 := by rw [ex_29]; exact iv_add (iv_c (1 : Int32) (a := 1) (b := 1) (by decide)) bx_28 (by decide)
            refine lv_imul hx hb dX10_laysRoom_133 ?_
            refine lv_topi (fun x_30 ex_30 => ?_)
            have bx_30 : iv 10 40 x_30 := by rw [ex_30]; exact iv_cmul (iv_c (10 : Int32) (a := 10) (b := 10) (by decide)) bx_29 (by decide)
            refine lv_iconst (v := 5) hx hb dX10_laysRoom_134 (by decide) ?_
            refine lv_iadd hx hb dX10_laysRoom_135 ?_
            refine lv_topi (fun x_31 ex_31 => ?_)
            have bx_31 : iv 15 45 x_31 := by rw [ex_31]; exact iv_add bx_30 (iv_c (5 : Int32) (a := 5) (b := 5) (by decide)) (by decide)
            refine lv_aload_n hx hb dX10_laysRoom_136 rfl (lv_at hl 1 rfl) ?_
            refine va_get (ci := 10) (v := .ref (z 1)) (C := RX10) (T := TX10) (N := 40) hx hb hg inX10 hown hK hP 0 rfl rfl 1 (by decide) (hg _ q_5_225) (fun _ h9 => h9) rfl dX10_laysRoom_137 ?_
            refine lv_bipush (v := 22) hx hb dX10_laysRoom_140 (by decide) ?_
            refine lv_iconst (v := 3) hx hb dX10_laysRoom_142 (by decide) ?_
            refine lv_iload_n hx hb dX10_laysRoom_143 rfl (lv_at hl 0 rfl) ?_
            refine lv_imul hx hb dX10_laysRoom_144 ?_
            refine tpi (y := x_26) ex_26.symm ?_
            refine lv_iadd hx hb dX10_laysRoom_145 ?_
            refine tpi (y := x_27) ex_27.symm ?_
            refine lv_iconst (v := 1) hx hb dX10_laysRoom_146 (by decide) ?_
            refine lv_iadd hx hb dX10_laysRoom_147 ?_
            refine lv_topi (fun x_32 ex_32 => ?_)
            have bx_32 : iv 23 44 x_32 := by rw [ex_32]; exact iv_add bx_27 (iv_c (1 : Int32) (a := 1) (b := 1) (by decide)) (by decide)
            refine va_iald hx hb hK hP 1 0 rfl rfl (iv_in bx_32 (by decide)) dX10_laysRoom_148 ?_
            refine lv_topi (fun x_33 ex_33 => ?_)
            have bx_33 : iv 0 3 x_33 := by rw [ex_33]; exact (by have q_x_26 := toInt_mulC (k := 3) ex_26 b_21 (by decide) (by decide); have q_x_27 := toInt_add ex_27 (iv_c (22 : Int32) (a := 22) (b := 22) (by decide)) bx_26 (by decide); have k_x_27 : (22 : Int32).toInt = 22 := (by decide); have q_x_32 := toInt_add ex_32 bx_27 (iv_c (1 : Int32) (a := 1) (b := 1) (by decide)) (by decide); have k_x_32 : (1 : Int32).toInt = 1 := (by decide); exact rdS (c := 23) (k := 3) (a := 0) (n := 8) tfz1 (show _ = 23 + 3 * (u_16 : Int32).toInt by omega) b_21 (by decide) (by decide +kernel))
            refine lv_iadd hx hb dX10_laysRoom_149 ?_
            refine lv_topi (fun x_34 ex_34 => ?_)
            have bx_34 : iv 15 48 x_34 := by rw [ex_34]; exact iv_add bx_31 bx_33 (by decide)
            refine lv_dup2_11 hx hb dX10_laysRoom_150 rfl rfl ?_
            refine va_iald hx hb hK hP 2 0 rfl rfl (iv_in bx_34 (by decide)) dX10_laysRoom_151 ?_
            refine lv_topi (fun x_35 ex_35 => ?_)
            refine lv_aload_n hx hb dX10_laysRoom_152 rfl (lv_at hl 1 rfl) ?_
            refine va_get (ci := 10) (v := .ref (z 1)) (C := RX10) (T := TX10) (N := 40) hx hb hg inX10 hown hK hP 0 rfl rfl 1 (by decide) (hg _ q_5_225) (fun _ h9 => h9) rfl dX10_laysRoom_153 ?_
            refine lv_bipush (v := 22) hx hb dX10_laysRoom_156 (by decide) ?_
            refine lv_iconst (v := 3) hx hb dX10_laysRoom_158 (by decide) ?_
            refine lv_iload_n hx hb dX10_laysRoom_159 rfl (lv_at hl 0 rfl) ?_
            refine lv_imul hx hb dX10_laysRoom_160 ?_
            refine tpi (y := x_26) ex_26.symm ?_
            refine lv_iadd hx hb dX10_laysRoom_161 ?_
            refine tpi (y := x_27) ex_27.symm ?_
            refine lv_iconst (v := 2) hx hb dX10_laysRoom_162 (by decide) ?_
            refine lv_iadd hx hb dX10_laysRoom_163 ?_
            refine lv_topi (fun x_36 ex_36 => ?_)
            have bx_36 : iv 24 45 x_36 := by rw [ex_36]; exact iv_add bx_27 (iv_c (2 : Int32) (a := 2) (b := 2) (by decide)) (by decide)
            refine va_iald hx hb hK hP 1 0 rfl rfl (iv_in bx_36 (by decide)) dX10_laysRoom_164 ?_
            refine lv_topi (fun x_37 ex_37 => ?_)
            have bx_37 : iv 0 9 x_37 := by rw [ex_37]; exact rdT (a := 24) (n := 22) tfz1 bx_36 (by decide) (by decide +kernel)
            refine lv_iadd hx hb dX10_laysRoom_165 ?_
            refine lv_topi (fun x_38 ex_38 => ?_)
            refine va_iast hx hb hK hP hD hS 2 0 rfl rfl (iv_in bx_34 (by decide)) dX10_laysRoom_166 (fun H locs hP hD hS => ?_)
            obtain ⟨f_39, ef_39, hP, hD⟩ : ∃ f_39 : Nat → Int32, f_39 = (upd f_17 (x_34 : Int32).toNatClampNeg x_38) ∧ va_P V.1 vwCl [(z 0, .inr (10, mo z pz0_0 pz0_5 pz0_6 pz0_7 pz0_8 pz0_9 pz0_10 pz0_11 pz0_12 pz0_13 pz0_14 pz0_18 pz0_19 pz0_22 pz0_23 pz0_29)), (z 1, aI V 3075 fz1), (z 32, aI V 100 f_39)] H ∧ va_D A [(z 0, .inr (10, mo z pz0_0 pz0_5 pz0_6 pz0_7 pz0_8 pz0_9 pz0_10 pz0_11 pz0_12 pz0_13 pz0_14 pz0_18 pz0_19 pz0_22 pz0_23 pz0_29)), (z 1, aI V 3075 fz1), (z 32, aI V 100 f_39)] := ⟨_, rfl, hP, hD⟩
            obtain ⟨x_40, ex_40⟩ : ∃ z9 : Int32, z9 = u_16 + 1 := ⟨_, rfl⟩
            have bx_40 : iv 1 8 x_40 := by rw [ex_40]; exact iv_add b_21 (iv_c (1 : Int32) (a := 1) (b := 1) (by decide)) (by decide)
            refine lv_iinc (v := x_40) (lv' := [(2, .int x_40), (0, .ref (z 0)), (1, .int a1)]) hx hb dX10_laysRoom_167 hl (k := 0) rfl (by rw [ex_40]; rfl) (by decide) rfl (fun ls hl => ?_)
            refine lv_goto (tgt := 99) hx hb dX10_laysRoom_170 (by decide) ?_
            exact ihn_18 _ _ _ _ (by rw [en_18, ex_40]; exact mu_up b_21 (by decide)) ⟨x_40, f_39, (iv_w bx_40 (by decide)), (RR_o inn_18_0 bx_34 (by decide) ef_39), rfl, hP, hD, hS, lv_sub hl [0, 1, 2] rfl⟩
      · have b_41 : iv 0 3 u_11 := iv_l1 (Int32.not_le.mp c_15) bu_11 bx_14 (by decide)
        have b_42 : iv 1 4 x_14 := iv_l2 (Int32.not_le.mp c_15) bu_11 bx_14 (by decide)
        refine lv_aload_n hx hb dX10_laysRoom_68 rfl (lv_at hl 1 rfl) ?_
        refine va_get (ci := 10) (v := .ref (z 32)) (C := RX10) (T := TX10) (N := 40) hx hb hg inX10 hown hK hP 0 rfl rfl 32 (by decide) (hg _ q_6_16) (fun _ h9 => h9) rfl dX10_laysRoom_69 ?_
        refine lv_bipush (v := 10) hx hb dX10_laysRoom_72 (by decide) ?_
        refine lv_iconst (v := 5) hx hb dX10_laysRoom_74 (by decide) ?_
        refine lv_iload_n hx hb dX10_laysRoom_75 rfl (lv_at hl 0 rfl) ?_
        refine lv_iadd hx hb dX10_laysRoom_76 ?_
        refine lv_topi (fun x_43 ex_43 => ?_)
        have bx_43 : iv 5 8 x_43 := by rw [ex_43]; exact iv_add (iv_c (5 : Int32) (a := 5) (b := 5) (by decide)) b_41 (by decide)
        refine lv_imul hx hb dX10_laysRoom_77 ?_
        refine lv_topi (fun x_44 ex_44 => ?_)
        have bx_44 : iv 50 80 x_44 := by rw [ex_44]; exact iv_cmul (iv_c (10 : Int32) (a := 10) (b := 10) (by decide)) bx_43 (by decide)
        refine lv_bipush (v := 9) hx hb dX10_laysRoom_78 (by decide) ?_
        refine lv_iadd hx hb dX10_laysRoom_80 ?_
        refine lv_topi (fun x_45 ex_45 => ?_)
        have bx_45 : iv 59 89 x_45 := by rw [ex_45]; exact iv_add bx_44 (iv_c (9 : Int32) (a := 9) (b := 9) (by decide)) (by decide)
        refine lv_aload_n hx hb dX10_laysRoom_81 rfl (lv_at hl 1 rfl) ?_
        refine va_get (ci := 10) (v := .ref (z 1)) (C := RX10) (T := TX10) (N := 40) hx hb hg inX10 hown hK hP 0 rfl rfl 1 (by decide) (hg _ q_5_225) (fun _ h9 => h9) rfl dX10_laysRoom_82 ?_
        refine lv_bipush (v := 18) hx hb dX10_laysRoom_85 (by decide) ?_
        refine lv_iload_n hx hb dX10_laysRoom_87 rfl (lv_at hl 0 rfl) ?_
        refine lv_iadd hx hb dX10_laysRoom_88 ?_
        refine lv_topi (fun x_46 ex_46 => ?_)
        have bx_46 : iv 18 21 x_46 := by rw [ex_46]; exact iv_add (iv_c (18 : Int32) (a := 18) (b := 18) (by decide)) b_41 (by decide)
        refine va_iald hx hb hK hP 1 0 rfl rfl (iv_in bx_46 (by decide)) dX10_laysRoom_89 ?_
        refine lv_topi (fun x_47 ex_47 => ?_)
        have bx_47 : iv 0 9 x_47 := by rw [ex_47]; exact rdT (a := 18) (n := 4) tfz1 bx_46 (by decide) (by decide +kernel)
        refine va_iast hx hb hK hP hD hS 2 0 rfl rfl (iv_in bx_45 (by decide)) dX10_laysRoom_90 (fun H locs hP hD hS => ?_)
        obtain ⟨f_48, ef_48, hP, hD⟩ : ∃ f_48 : Nat → Int32, f_48 = (upd f_12 (x_45 : Int32).toNatClampNeg x_47) ∧ va_P V.1 vwCl [(z 0, .inr (10, mo z pz0_0 pz0_5 pz0_6 pz0_7 pz0_8 pz0_9 pz0_10 pz0_11 pz0_12 pz0_13 pz0_14 pz0_18 pz0_19 pz0_22 pz0_23 pz0_29)), (z 1, aI V 3075 fz1), (z 32, aI V 100 f_48)] H ∧ va_D A [(z 0, .inr (10, mo z pz0_0 pz0_5 pz0_6 pz0_7 pz0_8 pz0_9 pz0_10 pz0_11 pz0_12 pz0_13 pz0_14 pz0_18 pz0_19 pz0_22 pz0_23 pz0_29)), (z 1, aI V 3075 fz1), (z 32, aI V 100 f_48)] := ⟨_, rfl, hP, hD⟩
        obtain ⟨x_49, ex_49⟩ : ∃ z9 : Int32, z9 = u_11 + 1 := ⟨_, rfl⟩
        have bx_49 : iv 1 4 x_49 := by rw [ex_49]; exact iv_add b_41 (iv_c (1 : Int32) (a := 1) (b := 1) (by decide)) (by decide)
        refine lv_iinc (v := x_49) (lv' := [(2, .int x_49), (0, .ref (z 0)), (1, .int a1)]) hx hb dX10_laysRoom_91 hl (k := 0) rfl (by rw [ex_49]; rfl) (by decide) rfl (fun ls hl => ?_)
        refine lv_goto (tgt := 58) hx hb dX10_laysRoom_94 (by decide) ?_
        exact ihn_13 _ _ _ _ (by rw [en_13, ex_49]; exact mu_up b_41 (by decide)) ⟨x_49, f_48, (iv_w bx_49 (by decide)), (RR_o inn_13_0 bx_45 (by decide) ef_48), rfl, hP, hD, hS, lv_sub hl [0, 1, 2] rfl⟩
    · have b_50 : iv 0 3 u_6 := iv_l1 (Int32.not_le.mp c_10) bu_6 bx_9 (by decide)
      have b_51 : iv 1 4 x_9 := iv_l2 (Int32.not_le.mp c_10) bu_6 bx_9 (by decide)
      refine lv_aload_n hx hb dX10_laysRoom_33 rfl (lv_at hl 1 rfl) ?_
      refine va_get (ci := 10) (v := .ref (z 32)) (C := RX10) (T := TX10) (N := 40) hx hb hg inX10 hown hK hP 0 rfl rfl 32 (by decide) (hg _ q_6_16) (fun _ h9 => h9) rfl dX10_laysRoom_34 ?_
      refine lv_iconst (v := 1) hx hb dX10_laysRoom_37 (by decide) ?_
      refine lv_iload_n hx hb dX10_laysRoom_38 rfl (lv_at hl 0 rfl) ?_
      refine lv_iadd hx hb dX10_laysRoom_39 ?_
      refine lv_topi (fun x_52 ex_52 => ?_)
      have bx_52 : iv 1 4 x_52 := by rw [ex_52]; exact iv_add (iv_c (1 : Int32) (a := 1) (b := 1) (by decide)) b_50 (by decide)
      refine lv_aload_n hx hb dX10_laysRoom_40 rfl (lv_at hl 1 rfl) ?_
      refine va_get (ci := 10) (v := .ref (z 1)) (C := RX10) (T := TX10) (N := 40) hx hb hg inX10 hown hK hP 0 rfl rfl 1 (by decide) (hg _ q_5_225) (fun _ h9 => h9) rfl dX10_laysRoom_41 ?_
      refine lv_bipush (v := 46) hx hb dX10_laysRoom_44 (by decide) ?_
      refine lv_iload_n hx hb dX10_laysRoom_46 rfl (lv_at hl 0 rfl) ?_
      refine lv_iadd hx hb dX10_laysRoom_47 ?_
      refine lv_topi (fun x_53 ex_53 => ?_)
      have bx_53 : iv 46 49 x_53 := by rw [ex_53]; exact iv_add (iv_c (46 : Int32) (a := 46) (b := 46) (by decide)) b_50 (by decide)
      refine va_iald hx hb hK hP 1 0 rfl rfl (iv_in bx_53 (by decide)) dX10_laysRoom_48 ?_
      refine lv_topi (fun x_54 ex_54 => ?_)
      have bx_54 : iv 0 4 x_54 := by rw [ex_54]; exact rdT (a := 46) (n := 4) tfz1 bx_53 (by decide) (by decide +kernel)
      refine va_iast hx hb hK hP hD hS 2 0 rfl rfl (iv_in bx_52 (by decide)) dX10_laysRoom_49 (fun H locs hP hD hS => ?_)
      obtain ⟨f_55, ef_55, hP, hD⟩ : ∃ f_55 : Nat → Int32, f_55 = (upd f_7 (x_52 : Int32).toNatClampNeg x_54) ∧ va_P V.1 vwCl [(z 0, .inr (10, mo z pz0_0 pz0_5 pz0_6 pz0_7 pz0_8 pz0_9 pz0_10 pz0_11 pz0_12 pz0_13 pz0_14 pz0_18 pz0_19 pz0_22 pz0_23 pz0_29)), (z 1, aI V 3075 fz1), (z 32, aI V 100 f_55)] H ∧ va_D A [(z 0, .inr (10, mo z pz0_0 pz0_5 pz0_6 pz0_7 pz0_8 pz0_9 pz0_10 pz0_11 pz0_12 pz0_13 pz0_14 pz0_18 pz0_19 pz0_22 pz0_23 pz0_29)), (z 1, aI V 3075 fz1), (z 32, aI V 100 f_55)] := ⟨_, rfl, hP, hD⟩
      obtain ⟨x_56, ex_56⟩ : ∃ z9 : Int32, z9 = u_6 + 1 := ⟨_, rfl⟩
      have bx_56 : iv 1 4 x_56 := by rw [ex_56]; exact iv_add b_50 (iv_c (1 : Int32) (a := 1) (b := 1) (by decide)) (by decide)
      refine lv_iinc (v := x_56) (lv' := [(2, .int x_56), (0, .ref (z 0)), (1, .int a1)]) hx hb dX10_laysRoom_50 hl (k := 0) rfl (by rw [ex_56]; rfl) (by decide) rfl (fun ls hl => ?_)
      refine lv_goto (tgt := 23) hx hb dX10_laysRoom_53 (by decide) ?_
      exact ihn_8 _ _ _ _ (by rw [en_8, ex_56]; exact mu_up b_50 (by decide)) ⟨x_56, f_55, (iv_w bx_56 (by decide)), (RR_p inn_8_0 bx_54 (by decide) ef_55), rfl, hP, hD, hS, lv_sub hl [0, 1, 2] rfl⟩
  · have b_57 : iv 0 99 u_1 := iv_l1 (Int32.not_le.mp c_4) bu_1 (iv_c (100 : Int32) (a := 100) (b := 100) (by decide)) (by decide)
    refine lv_aload_n hx hb dX10_laysRoom_8 rfl (lv_at hl 1 rfl) ?_
    refine va_get (ci := 10) (v := .ref (z 32)) (C := RX10) (T := TX10) (N := 40) hx hb hg inX10 hown hK hP 0 rfl rfl 32 (by decide) (hg _ q_6_16) (fun _ h9 => h9) rfl dX10_laysRoom_9 ?_
    refine lv_iload_n hx hb dX10_laysRoom_12 rfl (lv_at hl 0 rfl) ?_
    refine lv_iconst (v := 0) hx hb dX10_laysRoom_13 (by decide) ?_
    refine va_iast hx hb hK hP hD hS 2 0 rfl rfl (iv_in b_57 (by decide)) dX10_laysRoom_14 (fun H locs hP hD hS => ?_)
    obtain ⟨f_58, ef_58, hP, hD⟩ : ∃ f_58 : Nat → Int32, f_58 = (upd f_2 (u_1 : Int32).toNatClampNeg 0) ∧ va_P V.1 vwCl [(z 0, .inr (10, mo z pz0_0 pz0_5 pz0_6 pz0_7 pz0_8 pz0_9 pz0_10 pz0_11 pz0_12 pz0_13 pz0_14 pz0_18 pz0_19 pz0_22 pz0_23 pz0_29)), (z 1, aI V 3075 fz1), (z 32, aI V 100 f_58)] H ∧ va_D A [(z 0, .inr (10, mo z pz0_0 pz0_5 pz0_6 pz0_7 pz0_8 pz0_9 pz0_10 pz0_11 pz0_12 pz0_13 pz0_14 pz0_18 pz0_19 pz0_22 pz0_23 pz0_29)), (z 1, aI V 3075 fz1), (z 32, aI V 100 f_58)] := ⟨_, rfl, hP, hD⟩
    obtain ⟨x_59, ex_59⟩ : ∃ z9 : Int32, z9 = u_1 + 1 := ⟨_, rfl⟩
    have bx_59 : iv 1 100 x_59 := by rw [ex_59]; exact iv_add b_57 (iv_c (1 : Int32) (a := 1) (b := 1) (by decide)) (by decide)
    refine lv_iinc (v := x_59) (lv' := [(2, .int x_59), (0, .ref (z 0)), (1, .int a1)]) hx hb dX10_laysRoom_15 hl (k := 0) rfl (by rw [ex_59]; rfl) (by decide) rfl (fun ls hl => ?_)
    refine lv_goto (tgt := 2) hx hb dX10_laysRoom_18 (by decide) ?_
    exact ihn_3 _ _ _ _ (by rw [en_3, ex_59]; exact mu_up b_57 (by decide)) ⟨x_59, f_58, (iv_w bx_59 (by decide)), (RRk_s inn_3_0 b_57 (by decide) ef_58 ex_59), rfl, hP, hD, hS, lv_sub hl [0, 1, 2] rfl⟩
theorem dX10_isCome_0 : decode cX10_isCome 0 = .ok (.iconst 0, 1) := by decide +kernel
theorem dX10_isCome_1 : decode cX10_isCome 1 = .ok (.istore_n 1, 1) := by decide +kernel
theorem dX10_isCome_2 : decode cX10_isCome 2 = .ok (.iload_n 1, 1) := by decide +kernel
theorem dX10_isCome_3 : decode cX10_isCome 3 = .ok (.bipush 10, 2) := by decide +kernel
theorem dX10_isCome_5 : decode cX10_isCome 5 = .ok (.if_icmp .ge 16, 3) := by decide +kernel
theorem dX10_isCome_21 : decode cX10_isCome 21 = .ok (.aload_n 0, 1) := by decide +kernel
theorem q_6_17 : Cond.fieldLink "BeaconDelayModel" 71 "BeaconDelayModel" "comeBy" "[I" ∈ gw := gw_6 (i := 17) (by decide +kernel) rfl
theorem dX10_isCome_22 : decode cX10_isCome 22 = .ok (.getfield 71, 3) := by decide +kernel
theorem dX10_isCome_25 : decode cX10_isCome 25 = .ok (.iconst 0, 1) := by decide +kernel
theorem dX10_isCome_26 : decode cX10_isCome 26 = .ok (.iconst 0, 1) := by decide +kernel
theorem dX10_isCome_27 : decode cX10_isCome 27 = .ok (.iastore, 1) := by decide +kernel
theorem dX10_isCome_28 : decode cX10_isCome 28 = .ok (.aload_n 0, 1) := by decide +kernel
theorem q_6_18 : Cond.fieldLink "BeaconDelayModel" 74 "BeaconDelayModel" "queue" "[I" ∈ gw := gw_6 (i := 18) (by decide +kernel) rfl
theorem dX10_isCome_29 : decode cX10_isCome 29 = .ok (.getfield 74, 3) := by decide +kernel
theorem dX10_isCome_32 : decode cX10_isCome 32 = .ok (.iconst 0, 1) := by decide +kernel
theorem dX10_isCome_33 : decode cX10_isCome 33 = .ok (.iconst 0, 1) := by decide +kernel
theorem dX10_isCome_34 : decode cX10_isCome 34 = .ok (.iastore, 1) := by decide +kernel
theorem dX10_isCome_35 : decode cX10_isCome 35 = .ok (.iconst 1, 1) := by decide +kernel
theorem dX10_isCome_36 : decode cX10_isCome 36 = .ok (.istore_n 1, 1) := by decide +kernel
theorem dX10_isCome_37 : decode cX10_isCome 37 = .ok (.iconst 0, 1) := by decide +kernel
theorem dX10_isCome_38 : decode cX10_isCome 38 = .ok (.istore_n 2, 1) := by decide +kernel
theorem dX10_isCome_39 : decode cX10_isCome 39 = .ok (.iload_n 2, 1) := by decide +kernel
theorem dX10_isCome_40 : decode cX10_isCome 40 = .ok (.iload_n 1, 1) := by decide +kernel
theorem dX10_isCome_41 : decode cX10_isCome 41 = .ok (.if_icmp .ge 77, 3) := by decide +kernel
theorem dX10_isCome_118 : decode cX10_isCome 118 = .ok (.aload_n 0, 1) := by decide +kernel
theorem dX10_isCome_119 : decode cX10_isCome 119 = .ok (.getfield 71, 3) := by decide +kernel
theorem dX10_isCome_122 : decode cX10_isCome 122 = .ok (.bipush 9, 2) := by decide +kernel
theorem dX10_isCome_124 : decode cX10_isCome 124 = .ok (.iaload, 1) := by decide +kernel
theorem dX10_isCome_125 : decode cX10_isCome 125 = .ok (.iconst (-1), 1) := by decide +kernel
theorem dX10_isCome_126 : decode cX10_isCome 126 = .ok (.if_icmp .eq 7, 3) := by decide +kernel
theorem dX10_isCome_133 : decode cX10_isCome 133 = .ok (.iconst 0, 1) := by decide +kernel
theorem dX10_isCome_134 : decode cX10_isCome 134 = .ok (.ireturn, 1) := by decide +kernel
theorem dX10_isCome_129 : decode cX10_isCome 129 = .ok (.iconst 1, 1) := by decide +kernel
theorem dX10_isCome_130 : decode cX10_isCome 130 = .ok (.goto 4, 3) := by decide +kernel
theorem dX10_isCome_44 : decode cX10_isCome 44 = .ok (.iconst 0, 1) := by decide +kernel
theorem dX10_isCome_45 : decode cX10_isCome 45 = .ok (.istore_n 3, 1) := by decide +kernel
theorem dX10_isCome_46 : decode cX10_isCome 46 = .ok (.iload_n 3, 1) := by decide +kernel
theorem dX10_isCome_47 : decode cX10_isCome 47 = .ok (.bipush 10, 2) := by decide +kernel
theorem dX10_isCome_49 : decode cX10_isCome 49 = .ok (.if_icmp .ge 63, 3) := by decide +kernel
theorem dX10_isCome_112 : decode cX10_isCome 112 = .ok (.iinc 2 1, 3) := by decide +kernel
theorem dX10_isCome_115 : decode cX10_isCome 115 = .ok (.goto (-76), 3) := by decide +kernel
theorem dX10_isCome_52 : decode cX10_isCome 52 = .ok (.aload_n 0, 1) := by decide +kernel
theorem dX10_isCome_53 : decode cX10_isCome 53 = .ok (.getfield 71, 3) := by decide +kernel
theorem dX10_isCome_56 : decode cX10_isCome 56 = .ok (.iload_n 3, 1) := by decide +kernel
theorem dX10_isCome_57 : decode cX10_isCome 57 = .ok (.iaload, 1) := by decide +kernel
theorem dX10_isCome_58 : decode cX10_isCome 58 = .ok (.iconst (-1), 1) := by decide +kernel
theorem dX10_isCome_59 : decode cX10_isCome 59 = .ok (.if_icmp .ne 47, 3) := by decide +kernel
theorem dX10_isCome_106 : decode cX10_isCome 106 = .ok (.iinc 3 1, 3) := by decide +kernel
theorem dX10_isCome_109 : decode cX10_isCome 109 = .ok (.goto (-63), 3) := by decide +kernel
theorem dX10_isCome_62 : decode cX10_isCome 62 = .ok (.aload_n 0, 1) := by decide +kernel
theorem dX10_isCome_63 : decode cX10_isCome 63 = .ok (.getfield 68, 3) := by decide +kernel
theorem dX10_isCome_66 : decode cX10_isCome 66 = .ok (.bipush 10, 2) := by decide +kernel
theorem dX10_isCome_68 : decode cX10_isCome 68 = .ok (.aload_n 0, 1) := by decide +kernel
theorem dX10_isCome_69 : decode cX10_isCome 69 = .ok (.getfield 74, 3) := by decide +kernel
theorem dX10_isCome_72 : decode cX10_isCome 72 = .ok (.iload_n 2, 1) := by decide +kernel
theorem dX10_isCome_73 : decode cX10_isCome 73 = .ok (.iaload, 1) := by decide +kernel
theorem dX10_isCome_74 : decode cX10_isCome 74 = .ok (.imul, 1) := by decide +kernel
theorem dX10_isCome_75 : decode cX10_isCome 75 = .ok (.iload_n 3, 1) := by decide +kernel
theorem dX10_isCome_76 : decode cX10_isCome 76 = .ok (.iadd, 1) := by decide +kernel
theorem dX10_isCome_77 : decode cX10_isCome 77 = .ok (.iaload, 1) := by decide +kernel
theorem dX10_isCome_78 : decode cX10_isCome 78 = .ok (.ifCond .ne 6, 3) := by decide +kernel
theorem dX10_isCome_84 : decode cX10_isCome 84 = .ok (.aload_n 0, 1) := by decide +kernel
theorem dX10_isCome_85 : decode cX10_isCome 85 = .ok (.getfield 71, 3) := by decide +kernel
theorem dX10_isCome_88 : decode cX10_isCome 88 = .ok (.iload_n 3, 1) := by decide +kernel
theorem dX10_isCome_89 : decode cX10_isCome 89 = .ok (.aload_n 0, 1) := by decide +kernel
theorem dX10_isCome_90 : decode cX10_isCome 90 = .ok (.getfield 74, 3) := by decide +kernel
theorem dX10_isCome_93 : decode cX10_isCome 93 = .ok (.iload_n 2, 1) := by decide +kernel
theorem dX10_isCome_94 : decode cX10_isCome 94 = .ok (.iaload, 1) := by decide +kernel
theorem dX10_isCome_95 : decode cX10_isCome 95 = .ok (.iastore, 1) := by decide +kernel
theorem dX10_isCome_96 : decode cX10_isCome 96 = .ok (.aload_n 0, 1) := by decide +kernel
theorem dX10_isCome_97 : decode cX10_isCome 97 = .ok (.getfield 74, 3) := by decide +kernel
theorem dX10_isCome_100 : decode cX10_isCome 100 = .ok (.iload_n 1, 1) := by decide +kernel
theorem dX10_isCome_101 : decode cX10_isCome 101 = .ok (.iload_n 3, 1) := by decide +kernel
theorem dX10_isCome_102 : decode cX10_isCome 102 = .ok (.iastore, 1) := by decide +kernel
theorem dX10_isCome_103 : decode cX10_isCome 103 = .ok (.iinc 1 1, 3) := by decide +kernel
theorem dX10_isCome_81 : decode cX10_isCome 81 = .ok (.goto 25, 3) := by decide +kernel
theorem dX10_isCome_8 : decode cX10_isCome 8 = .ok (.aload_n 0, 1) := by decide +kernel
theorem dX10_isCome_9 : decode cX10_isCome 9 = .ok (.getfield 71, 3) := by decide +kernel
theorem dX10_isCome_12 : decode cX10_isCome 12 = .ok (.iload_n 1, 1) := by decide +kernel
theorem dX10_isCome_13 : decode cX10_isCome 13 = .ok (.iconst (-1), 1) := by decide +kernel
theorem dX10_isCome_14 : decode cX10_isCome 14 = .ok (.iastore, 1) := by decide +kernel
theorem dX10_isCome_15 : decode cX10_isCome 15 = .ok (.iinc 1 1, 3) := by decide +kernel
theorem dX10_isCome_18 : decode cX10_isCome 18 = .ok (.goto (-16), 3) := by decide +kernel
set_option maxHeartbeats 4000000 in
set_option maxRecDepth 100000 in
theorem k_X10_isCome_0 (l : Launch) (V : GV) (z : Nat → Nat) (fz33 : Nat → Int32) (fz34 : Nat → Int32) (pz0_0 : Int32) (pz0_5 : Int32) (pz0_6 : Int32) (pz0_7 : Int32) (pz0_8 : Int32) (pz0_9 : Int32) (pz0_10 : Int32) (pz0_11 : Int32) (pz0_12 : Int32) (pz0_13 : Int32) (pz0_14 : Int32) (pz0_18 : Int32) (pz0_19 : Int32) (pz0_22 : Int32) (pz0_23 : Int32) (pz0_29 : Int32) (fz32 : Nat → Int32) (tfz33 : ∀ j, iv (-1) 9 (fz33 j)) (tfz34 : ∀ j, iv 0 9 (fz34 j)) (bpz0_5 : iv 0 900 pz0_5) (bpz0_6 : iv 0 900 pz0_6) (bpz0_7 : iv 0 900 pz0_7) (bpz0_8 : iv 0 900 pz0_8) (bpz0_10 : iv 0 999 pz0_10) (bpz0_11 : iv 0 4 pz0_11) (bpz0_12 : iv 0 900 pz0_12) (bpz0_13 : iv 0 4 pz0_13) (bpz0_14 : iv (-1) 900 pz0_14) (bpz0_18 : iv 0 2 pz0_18) (bpz0_22 : iv 0 9999 pz0_22) (bpz0_29 : iv 0 10000 pz0_29) : Ct l V yX10_isCome (.code yX10_isCome cX10_isCome 4 (some .boolean)) 1 [.ref (z 0)] [(z 33, aI V 10 fz33), (z 34, aI V 10 fz34), (z 0, .inr (10, mo z pz0_0 pz0_5 pz0_6 pz0_7 pz0_8 pz0_9 pz0_10 pz0_11 pz0_12 pz0_13 pz0_14 pz0_18 pz0_19 pz0_22 pz0_23 pz0_29)), (z 32, aI V 100 fz32)] 0 0 (QI V (fun (r : Int32) (w : va_W) => ∃ (g0 : Nat → Int32) (g1 : Nat → Int32), (∀ j, iv (-1) 9 (g0 j)) ∧ (∀ j, iv 0 9 (g1 j)) ∧ iv 0 1 r ∧ (∃ rk : Nat → Nat, IC1 g0 fz32 rk) ∧ (r = 1 → 0 ≤ (g0 (9 : Int32).toNatClampNeg).toInt) ∧ w = [(z 33, aI V 10 g0), (z 34, aI V 10 g1), (z 0, .inr (10, mo z pz0_0 pz0_5 pz0_6 pz0_7 pz0_8 pz0_9 pz0_10 pz0_11 pz0_12 pz0_13 pz0_14 pz0_18 pz0_19 pz0_22 pz0_23 pz0_29)), (z 32, aI V 100 fz32)])) := by
  refine Ct.of (by decide) (Nat.le_of_ble_eq_true rfl) (fun p e s m below meth c A ls hx hb hr hml hown hlk hnm hg hP hK hD hE hA hS hl => ?_)
  have hl : lv_has ls 4 [(0, .ref (z 0))] := hl
  refine lv_iconst (v := 0) hx hb dX10_isCome_0 (by decide) ?_
  refine lv_istore_n (lv' := [(1, .int 0), (0, .ref (z 0))]) hx hb dX10_isCome_1 rfl hl (by decide) rfl (fun ls hl => ?_)
  refine loopF (X := fun (n_3 : Nat) (H : Heap) (locs : List Loc) (ls : Array Slot) => ∃ (u_1 : Int32) (f_2 : Nat → Int32), (iv 0 10 u_1) ∧ (∀ j, iv (-1) 9 (f_2 j)) ∧ (∀ j : Nat, (j : Int) < (u_1 : Int32).toInt → f_2 j = -1) ∧ n_3 = (2147483647 - (u_1 : Int32).toInt).toNat ∧ va_P V.1 vwCl [(z 33, aI V 10 f_2), (z 34, aI V 10 fz34), (z 0, .inr (10, mo z pz0_0 pz0_5 pz0_6 pz0_7 pz0_8 pz0_9 pz0_10 pz0_11 pz0_12 pz0_13 pz0_14 pz0_18 pz0_19 pz0_22 pz0_23 pz0_29)), (z 32, aI V 100 fz32)] H ∧ va_D A [(z 33, aI V 10 f_2), (z 34, aI V 10 fz34), (z 0, .inr (10, mo z pz0_0 pz0_5 pz0_6 pz0_7 pz0_8 pz0_9 pz0_10 pz0_11 pz0_12 pz0_13 pz0_14 pz0_18 pz0_19 pz0_22 pz0_23 pz0_29)), (z 32, aI V 100 fz32)] ∧ va_S A s.heap H locs ∧ lv_has ls 4 [(1, .int u_1), (0, .ref (z 0))]) (g := fun ls => F0 m 2 ls []) (fun n_3 H locs ls hX ihn_3 => ?_) _ ⟨0, fz33, (iv_c (0 : Int32) (by decide)), tfz33, (fun j hj => absurd hj (by have h9 : (0 : Int32).toInt = 0 := (by decide); omega)), rfl, hP, hD, hS, lv_sub hl [0, 1] rfl⟩
  obtain ⟨u_1, f_2, bu_1, tf_2, inn_3_0, en_3, hP, hD, hS, hl⟩ := hX
  refine lv_iload_n hx hb dX10_isCome_2 rfl (lv_at hl 0 rfl) ?_
  refine lv_bipush (v := 10) hx hb dX10_isCome_3 (by decide) ?_
  refine lv_icmp_ge (tgt := 21) hx hb dX10_isCome_5 (by decide) (fun c_4 => ?_) (fun c_4 => ?_)
  · have b_5 : iv 10 10 u_1 := iv_e2 c_4 (iv_c (10 : Int32) (a := 10) (b := 10) (by decide)) bu_1 (by decide)
    refine lv_aload_n hx hb dX10_isCome_21 rfl (lv_at hl 1 rfl) ?_
    refine va_get (ci := 10) (v := .ref (z 33)) (C := RX10) (T := TX10) (N := 40) hx hb hg inX10 hown hK hP 2 rfl rfl 33 (by decide) (hg _ q_6_17) (fun _ h9 => h9) rfl dX10_isCome_22 ?_
    refine lv_iconst (v := 0) hx hb dX10_isCome_25 (by decide) ?_
    refine lv_iconst (v := 0) hx hb dX10_isCome_26 (by decide) ?_
    refine va_iast hx hb hK hP hD hS 0 0 rfl rfl (vin (by decide +kernel)) dX10_isCome_27 (fun H locs hP hD hS => ?_)
    obtain ⟨f_6, ef_6, tf_6, hP, hD⟩ : ∃ f_6 : Nat → Int32, f_6 = (upd f_2 (0 : Int32).toNatClampNeg 0) ∧ (∀ j, iv (-1) 9 (f_6 j)) ∧ va_P V.1 vwCl [(z 33, aI V 10 f_6), (z 34, aI V 10 fz34), (z 0, .inr (10, mo z pz0_0 pz0_5 pz0_6 pz0_7 pz0_8 pz0_9 pz0_10 pz0_11 pz0_12 pz0_13 pz0_14 pz0_18 pz0_19 pz0_22 pz0_23 pz0_29)), (z 32, aI V 100 fz32)] H ∧ va_D A [(z 33, aI V 10 f_6), (z 34, aI V 10 fz34), (z 0, .inr (10, mo z pz0_0 pz0_5 pz0_6 pz0_7 pz0_8 pz0_9 pz0_10 pz0_11 pz0_12 pz0_13 pz0_14 pz0_18 pz0_19 pz0_22 pz0_23 pz0_29)), (z 32, aI V 100 fz32)] := ⟨_, rfl, ivU tf_2 _ (iv_c (0 : Int32) (by decide)), hP, hD⟩
    refine lv_aload_n hx hb dX10_isCome_28 rfl (lv_at hl 1 rfl) ?_
    refine va_get (ci := 10) (v := .ref (z 34)) (C := RX10) (T := TX10) (N := 40) hx hb hg inX10 hown hK hP 2 rfl rfl 34 (by decide) (hg _ q_6_18) (fun _ h9 => h9) rfl dX10_isCome_29 ?_
    refine lv_iconst (v := 0) hx hb dX10_isCome_32 (by decide) ?_
    refine lv_iconst (v := 0) hx hb dX10_isCome_33 (by decide) ?_
    refine va_iast hx hb hK hP hD hS 1 0 rfl rfl (vin (by decide +kernel)) dX10_isCome_34 (fun H locs hP hD hS => ?_)
    obtain ⟨f_7, ef_7, tf_7, hP, hD⟩ : ∃ f_7 : Nat → Int32, f_7 = (upd fz34 (0 : Int32).toNatClampNeg 0) ∧ (∀ j, iv 0 9 (f_7 j)) ∧ va_P V.1 vwCl [(z 33, aI V 10 f_6), (z 34, aI V 10 f_7), (z 0, .inr (10, mo z pz0_0 pz0_5 pz0_6 pz0_7 pz0_8 pz0_9 pz0_10 pz0_11 pz0_12 pz0_13 pz0_14 pz0_18 pz0_19 pz0_22 pz0_23 pz0_29)), (z 32, aI V 100 fz32)] H ∧ va_D A [(z 33, aI V 10 f_6), (z 34, aI V 10 f_7), (z 0, .inr (10, mo z pz0_0 pz0_5 pz0_6 pz0_7 pz0_8 pz0_9 pz0_10 pz0_11 pz0_12 pz0_13 pz0_14 pz0_18 pz0_19 pz0_22 pz0_23 pz0_29)), (z 32, aI V 100 fz32)] := ⟨_, rfl, ivU tfz34 _ (iv_c (0 : Int32) (by decide)), hP, hD⟩
    refine lv_iconst (v := 1) hx hb dX10_isCome_35 (by decide) ?_
    refine lv_istore_n (lv' := [(1, .int 1), (0, .ref (z 0))]) hx hb dX10_isCome_36 rfl hl (by decide) rfl (fun ls hl => ?_)
    refine lv_iconst (v := 0) hx hb dX10_isCome_37 (by decide) ?_
    refine lv_istore_n (lv' := [(2, .int 0), (1, .int 1), (0, .ref (z 0))]) hx hb dX10_isCome_38 rfl hl (by decide) rfl (fun ls hl => ?_)
    refine loopF (X := fun (n_12 : Nat) (H : Heap) (locs : List Loc) (ls : Array Slot) => ∃ (u_8 : Int32) (u_9 : Int32) (f_10 : Nat → Int32) (f_11 : Nat → Int32), (iv 0 10 u_8) ∧ (iv 1 10 u_9) ∧ (∀ j, iv (-1) 9 (f_10 j)) ∧ (∀ j, iv 0 9 (f_11 j)) ∧ (FN u_9 f_10 10 10) ∧ (IC u_9 f_10 f_11 fz32) ∧ n_12 = (2147483647 - (u_8 : Int32).toInt).toNat ∧ va_P V.1 vwCl [(z 33, aI V 10 f_10), (z 34, aI V 10 f_11), (z 0, .inr (10, mo z pz0_0 pz0_5 pz0_6 pz0_7 pz0_8 pz0_9 pz0_10 pz0_11 pz0_12 pz0_13 pz0_14 pz0_18 pz0_19 pz0_22 pz0_23 pz0_29)), (z 32, aI V 100 fz32)] H ∧ va_D A [(z 33, aI V 10 f_10), (z 34, aI V 10 f_11), (z 0, .inr (10, mo z pz0_0 pz0_5 pz0_6 pz0_7 pz0_8 pz0_9 pz0_10 pz0_11 pz0_12 pz0_13 pz0_14 pz0_18 pz0_19 pz0_22 pz0_23 pz0_29)), (z 32, aI V 100 fz32)] ∧ va_S A s.heap H locs ∧ lv_has ls 4 [(2, .int u_8), (1, .int u_9), (0, .ref (z 0))]) (g := fun ls => F0 m 39 ls []) (fun n_12 H locs ls hX ihn_12 => ?_) _ ⟨0, 1, f_6, f_7, (iv_c (0 : Int32) (by decide)), (iv_c (1 : Int32) (by decide)), tf_6, tf_7, (FN_1i inn_3_0 (Int32.not_lt.mpr c_4) ef_6 (by decide)), (IC_0 inn_3_0 (Int32.not_lt.mpr c_4) ef_6 ef_7 (by decide)), rfl, hP, hD, hS, lv_sub hl [0, 1, 2] rfl⟩
    obtain ⟨u_8, u_9, f_10, f_11, bu_8, bu_9, tf_10, tf_11, inn_12_0, inn_12_1, en_12, hP, hD, hS, hl⟩ := hX
    refine lv_iload_n hx hb dX10_isCome_39 rfl (lv_at hl 0 rfl) ?_
    refine lv_iload_n hx hb dX10_isCome_40 rfl (lv_at hl 1 rfl) ?_
    refine lv_icmp_ge (tgt := 118) hx hb dX10_isCome_41 (by decide) (fun c_13 => ?_) (fun c_13 => ?_)
    · have b_14 : iv 1 10 u_8 := iv_e2 c_13 bu_9 bu_8 (by decide)
      refine lv_aload_n hx hb dX10_isCome_118 rfl (lv_at hl 2 rfl) ?_
      refine va_get (ci := 10) (v := .ref (z 33)) (C := RX10) (T := TX10) (N := 40) hx hb hg inX10 hown hK hP 2 rfl rfl 33 (by decide) (hg _ q_6_17) (fun _ h9 => h9) rfl dX10_isCome_119 ?_
      refine lv_bipush (v := 9) hx hb dX10_isCome_122 (by decide) ?_
      refine va_iald hx hb hK hP 0 0 rfl rfl (vin (by decide +kernel)) dX10_isCome_124 ?_
      refine lv_topi (fun x_15 ex_15 => ?_)
      have bx_15 : iv (-1) 9 x_15 := by rw [ex_15]; exact tf_10 _
      refine lv_iconst (v := (-1)) hx hb dX10_isCome_125 (by decide) ?_
      refine lv_icmp_eq (tgt := 133) hx hb dX10_isCome_126 (by decide) (fun c_16 => ?_) (fun c_16 => ?_)
      · have b_17 : iv (-1) (-1) x_15 := iv_q c_16 (iv_c ((-1) : Int32) (a := (-1)) (b := (-1)) (by decide))
        refine lv_iconst (v := 0) hx hb dX10_isCome_133 (by decide) ?_
        exact fiZ rfl hx hb hr hlk hK hP hD hS dX10_isCome_134 (Nat.le_of_ble_eq_true rfl) (Nat.le_of_ble_eq_true rfl) (⟨f_10, f_11, tf_10, tf_11, (iv_c (0 : Int32) (by decide)), (IC1_of inn_12_1), (fun q9 => absurd q9 (by decide)), rfl⟩)
      · have b_18 : iv 0 9 x_15 := iv_n0 c_16 bx_15 (iv_c ((-1) : Int32) (a := (-1)) (b := (-1)) (by decide)) (by decide)
        refine lv_iconst (v := 1) hx hb dX10_isCome_129 (by decide) ?_
        refine lv_goto (tgt := 134) hx hb dX10_isCome_130 (by decide) ?_
        exact fiZ rfl hx hb hr hlk hK hP hD hS dX10_isCome_134 (Nat.le_of_ble_eq_true rfl) (Nat.le_of_ble_eq_true rfl) (⟨f_10, f_11, tf_10, tf_11, (iv_c (1 : Int32) (by decide)), (IC1_of inn_12_1), (fun _ => by have q9 : iv 0 9 x_15 := iv_n0 c_16 bx_15 (iv_c (-1 : Int32) (a := -1) (b := -1) (by decide)) (by decide); rw [← ex_15]; exact q9.1), rfl⟩)
    · have b_19 : iv 0 9 u_8 := iv_l1 (Int32.not_le.mp c_13) bu_8 bu_9 (by decide)
      refine lv_iconst (v := 0) hx hb dX10_isCome_44 (by decide) ?_
      refine lv_istore_n (lv' := [(3, .int 0), (2, .int u_8), (1, .int u_9), (0, .ref (z 0))]) hx hb dX10_isCome_45 rfl hl (by decide) rfl (fun ls hl => ?_)
      refine loopF (X := fun (n_24 : Nat) (H : Heap) (locs : List Loc) (ls : Array Slot) => ∃ (u_20 : Int32) (u_21 : Int32) (f_22 : Nat → Int32) (f_23 : Nat → Int32), (iv 0 10 u_20) ∧ (iv 1 10 u_21) ∧ (∀ j, iv (-1) 9 (f_22 j)) ∧ (∀ j, iv 0 9 (f_23 j)) ∧ (FN u_21 f_22 10 10) ∧ (IC u_21 f_22 f_23 fz32) ∧ ((u_8 : Int32).toInt < (u_21 : Int32).toInt) ∧ n_24 = (2147483647 - (u_20 : Int32).toInt).toNat ∧ va_P V.1 vwCl [(z 33, aI V 10 f_22), (z 34, aI V 10 f_23), (z 0, .inr (10, mo z pz0_0 pz0_5 pz0_6 pz0_7 pz0_8 pz0_9 pz0_10 pz0_11 pz0_12 pz0_13 pz0_14 pz0_18 pz0_19 pz0_22 pz0_23 pz0_29)), (z 32, aI V 100 fz32)] H ∧ va_D A [(z 33, aI V 10 f_22), (z 34, aI V 10 f_23), (z 0, .inr (10, mo z pz0_0 pz0_5 pz0_6 pz0_7 pz0_8 pz0_9 pz0_10 pz0_11 pz0_12 pz0_13 pz0_14 pz0_18 pz0_19 pz0_22 pz0_23 pz0_29)), (z 32, aI V 100 fz32)] ∧ va_S A s.heap H locs ∧ lv_has ls 4 [(3, .int u_20), (2, .int u_8), (1, .int u_21), (0, .ref (z 0))]) (g := fun ls => F0 m 46 ls []) (fun n_24 H locs ls hX ihn_24 => ?_) _ ⟨0, u_9, f_10, f_11, (iv_c (0 : Int32) (by decide)), bu_9, tf_10, tf_11, inn_12_0, inn_12_1, (Int32.lt_iff_toInt_lt.mp (Int32.not_le.mp c_13)), rfl, hP, hD, hS, lv_sub hl [0, 1, 2, 3] rfl⟩
      obtain ⟨u_20, u_21, f_22, f_23, bu_20, bu_21, tf_22, tf_23, inn_24_0, inn_24_1, inn_24_2, en_24, hP, hD, hS, hl⟩ := hX
      refine lv_iload_n hx hb dX10_isCome_46 rfl (lv_at hl 0 rfl) ?_
      refine lv_bipush (v := 10) hx hb dX10_isCome_47 (by decide) ?_
      refine lv_icmp_ge (tgt := 112) hx hb dX10_isCome_49 (by decide) (fun c_25 => ?_) (fun c_25 => ?_)
      · have b_26 : iv 10 10 u_20 := iv_e2 c_25 (iv_c (10 : Int32) (a := 10) (b := 10) (by decide)) bu_20 (by decide)
        obtain ⟨x_27, ex_27⟩ : ∃ z9 : Int32, z9 = u_8 + 1 := ⟨_, rfl⟩
        have bx_27 : iv 1 10 x_27 := by rw [ex_27]; exact iv_add b_19 (iv_c (1 : Int32) (a := 1) (b := 1) (by decide)) (by decide)
        refine lv_iinc (v := x_27) (lv' := [(2, .int x_27), (3, .int u_20), (1, .int u_21), (0, .ref (z 0))]) hx hb dX10_isCome_112 hl (k := 1) rfl (by rw [ex_27]; rfl) (by decide) rfl (fun ls hl => ?_)
        refine lv_goto (tgt := 39) hx hb dX10_isCome_115 (by decide) ?_
        exact ihn_12 _ _ _ _ (by rw [en_12, ex_27]; exact mu_up b_19 (by decide)) ⟨x_27, u_21, f_22, f_23, (iv_w bx_27 (by decide)), bu_21, tf_22, tf_23, inn_24_0, inn_24_1, rfl, hP, hD, hS, lv_sub hl [0, 2, 3] rfl⟩
      · have b_28 : iv 0 9 u_20 := iv_l1 (Int32.not_le.mp c_25) bu_20 (iv_c (10 : Int32) (a := 10) (b := 10) (by decide)) (by decide)
        have c_29 : u_8 < u_21 := Int32.lt_iff_toInt_lt.mpr inn_24_2
        have b_30 : iv 0 9 u_8 := by have q9 := inn_24_2; have q8 := b_19; have q7 := bu_21; unfold iv at *; omega
        refine lv_aload_n hx hb dX10_isCome_52 rfl (lv_at hl 3 rfl) ?_
        refine va_get (ci := 10) (v := .ref (z 33)) (C := RX10) (T := TX10) (N := 40) hx hb hg inX10 hown hK hP 2 rfl rfl 33 (by decide) (hg _ q_6_17) (fun _ h9 => h9) rfl dX10_isCome_53 ?_
        refine lv_iload_n hx hb dX10_isCome_56 rfl (lv_at hl 0 rfl) ?_
        refine va_iald hx hb hK hP 0 0 rfl rfl (iv_in b_28 (by decide)) dX10_isCome_57 ?_
        refine lv_topi (fun x_31 ex_31 => ?_)
        have bx_31 : iv (-1) 9 x_31 := by rw [ex_31]; exact tf_22 _
        refine lv_iconst (v := (-1)) hx hb dX10_isCome_58 (by decide) ?_
        refine lv_icmp_ne (tgt := 106) hx hb dX10_isCome_59 (by decide) (fun c_32 => ?_) (fun c_32 => ?_)
        · have b_33 : iv 0 9 x_31 := iv_n0 c_32 bx_31 (iv_c ((-1) : Int32) (a := (-1)) (b := (-1)) (by decide)) (by decide)
          obtain ⟨x_34, ex_34⟩ : ∃ z9 : Int32, z9 = u_20 + 1 := ⟨_, rfl⟩
          have bx_34 : iv 1 10 x_34 := by rw [ex_34]; exact iv_add b_28 (iv_c (1 : Int32) (a := 1) (b := 1) (by decide)) (by decide)
          refine lv_iinc (v := x_34) (lv' := [(3, .int x_34), (2, .int u_8), (1, .int u_21), (0, .ref (z 0))]) hx hb dX10_isCome_106 hl (k := 0) rfl (by rw [ex_34]; rfl) (by decide) rfl (fun ls hl => ?_)
          refine lv_goto (tgt := 46) hx hb dX10_isCome_109 (by decide) ?_
          exact ihn_24 _ _ _ _ (by rw [en_24, ex_34]; exact mu_up b_28 (by decide)) ⟨x_34, u_21, f_22, f_23, (iv_w bx_34 (by decide)), bu_21, tf_22, tf_23, inn_24_0, inn_24_1, inn_24_2, rfl, hP, hD, hS, lv_sub hl [0, 1, 2, 3] rfl⟩
        · have b_35 : iv (-1) (-1) x_31 := iv_q c_32 (iv_c ((-1) : Int32) (a := (-1)) (b := (-1)) (by decide))
          refine lv_aload_n hx hb dX10_isCome_62 rfl (lv_at hl 3 rfl) ?_
          refine va_get (ci := 10) (v := .ref (z 32)) (C := RX10) (T := TX10) (N := 40) hx hb hg inX10 hown hK hP 2 rfl rfl 32 (by decide) (hg _ q_6_16) (fun _ h9 => h9) rfl dX10_isCome_63 ?_
          refine lv_bipush (v := 10) hx hb dX10_isCome_66 (by decide) ?_
          refine lv_aload_n hx hb dX10_isCome_68 rfl (lv_at hl 3 rfl) ?_
          refine va_get (ci := 10) (v := .ref (z 34)) (C := RX10) (T := TX10) (N := 40) hx hb hg inX10 hown hK hP 2 rfl rfl 34 (by decide) (hg _ q_6_18) (fun _ h9 => h9) rfl dX10_isCome_69 ?_
          refine lv_iload_n hx hb dX10_isCome_72 rfl (lv_at hl 1 rfl) ?_
          refine va_iald hx hb hK hP 1 0 rfl rfl (iv_in b_30 (by decide)) dX10_isCome_73 ?_
          refine lv_topi (fun x_36 ex_36 => ?_)
          have bx_36 : iv 0 9 x_36 := by rw [ex_36]; exact tf_23 _
          refine lv_imul hx hb dX10_isCome_74 ?_
          refine lv_topi (fun x_37 ex_37 => ?_)
          have bx_37 : iv 0 90 x_37 := by rw [ex_37]; exact iv_cmul (iv_c (10 : Int32) (a := 10) (b := 10) (by decide)) bx_36 (by decide)
          refine lv_iload_n hx hb dX10_isCome_75 rfl (lv_at hl 0 rfl) ?_
          refine lv_iadd hx hb dX10_isCome_76 ?_
          refine lv_topi (fun x_38 ex_38 => ?_)
          have bx_38 : iv 0 99 x_38 := by rw [ex_38]; exact iv_add bx_37 b_28 (by decide)
          refine va_iald hx hb hK hP 3 0 rfl rfl (iv_in bx_38 (by decide)) dX10_isCome_77 ?_
          refine lv_topi (fun x_39 ex_39 => ?_)
          refine lv_if_ne (tgt := 84) hx hb dX10_isCome_78 (by decide) (fun c_40 => ?_) (fun c_40 => ?_)
          · have b_41 : iv 1 9 u_21 := by have q9 := FN_lt inn_24_0 (ex_31.symm.trans c_32) (by have q9 := b_28; have q8 := clampNat q9.1; unfold iv at q9; omega); have q8 := bu_21; unfold iv at *; omega
            refine lv_aload_n hx hb dX10_isCome_84 rfl (lv_at hl 3 rfl) ?_
            refine va_get (ci := 10) (v := .ref (z 33)) (C := RX10) (T := TX10) (N := 40) hx hb hg inX10 hown hK hP 2 rfl rfl 33 (by decide) (hg _ q_6_17) (fun _ h9 => h9) rfl dX10_isCome_85 ?_
            refine lv_iload_n hx hb dX10_isCome_88 rfl (lv_at hl 0 rfl) ?_
            refine lv_aload_n hx hb dX10_isCome_89 rfl (lv_at hl 3 rfl) ?_
            refine va_get (ci := 10) (v := .ref (z 34)) (C := RX10) (T := TX10) (N := 40) hx hb hg inX10 hown hK hP 2 rfl rfl 34 (by decide) (hg _ q_6_18) (fun _ h9 => h9) rfl dX10_isCome_90 ?_
            refine lv_iload_n hx hb dX10_isCome_93 rfl (lv_at hl 1 rfl) ?_
            refine va_iald hx hb hK hP 1 0 rfl rfl (iv_in b_30 (by decide)) dX10_isCome_94 ?_
            refine tpi (y := x_36) ex_36.symm ?_
            refine va_iast hx hb hK hP hD hS 0 0 rfl rfl (iv_in b_28 (by decide)) dX10_isCome_95 (fun H locs hP hD hS => ?_)
            obtain ⟨f_42, ef_42, tf_42, hP, hD⟩ : ∃ f_42 : Nat → Int32, f_42 = (upd f_22 (u_20 : Int32).toNatClampNeg x_36) ∧ (∀ j, iv (-1) 9 (f_42 j)) ∧ va_P V.1 vwCl [(z 33, aI V 10 f_42), (z 34, aI V 10 f_23), (z 0, .inr (10, mo z pz0_0 pz0_5 pz0_6 pz0_7 pz0_8 pz0_9 pz0_10 pz0_11 pz0_12 pz0_13 pz0_14 pz0_18 pz0_19 pz0_22 pz0_23 pz0_29)), (z 32, aI V 100 fz32)] H ∧ va_D A [(z 33, aI V 10 f_42), (z 34, aI V 10 f_23), (z 0, .inr (10, mo z pz0_0 pz0_5 pz0_6 pz0_7 pz0_8 pz0_9 pz0_10 pz0_11 pz0_12 pz0_13 pz0_14 pz0_18 pz0_19 pz0_22 pz0_23 pz0_29)), (z 32, aI V 100 fz32)] := ⟨_, rfl, ivU tf_22 _ (iv_w bx_36 (by decide)), hP, hD⟩
            refine lv_aload_n hx hb dX10_isCome_96 rfl (lv_at hl 3 rfl) ?_
            refine va_get (ci := 10) (v := .ref (z 34)) (C := RX10) (T := TX10) (N := 40) hx hb hg inX10 hown hK hP 2 rfl rfl 34 (by decide) (hg _ q_6_18) (fun _ h9 => h9) rfl dX10_isCome_97 ?_
            refine lv_iload_n hx hb dX10_isCome_100 rfl (lv_at hl 2 rfl) ?_
            refine lv_iload_n hx hb dX10_isCome_101 rfl (lv_at hl 0 rfl) ?_
            refine va_iast hx hb hK hP hD hS 1 0 rfl rfl (iv_in b_41 (by decide)) dX10_isCome_102 (fun H locs hP hD hS => ?_)
            obtain ⟨f_43, ef_43, tf_43, hP, hD⟩ : ∃ f_43 : Nat → Int32, f_43 = (upd f_23 (u_21 : Int32).toNatClampNeg u_20) ∧ (∀ j, iv 0 9 (f_43 j)) ∧ va_P V.1 vwCl [(z 33, aI V 10 f_42), (z 34, aI V 10 f_43), (z 0, .inr (10, mo z pz0_0 pz0_5 pz0_6 pz0_7 pz0_8 pz0_9 pz0_10 pz0_11 pz0_12 pz0_13 pz0_14 pz0_18 pz0_19 pz0_22 pz0_23 pz0_29)), (z 32, aI V 100 fz32)] H ∧ va_D A [(z 33, aI V 10 f_42), (z 34, aI V 10 f_43), (z 0, .inr (10, mo z pz0_0 pz0_5 pz0_6 pz0_7 pz0_8 pz0_9 pz0_10 pz0_11 pz0_12 pz0_13 pz0_14 pz0_18 pz0_19 pz0_22 pz0_23 pz0_29)), (z 32, aI V 100 fz32)] := ⟨_, rfl, ivU tf_23 _ b_28, hP, hD⟩
            obtain ⟨x_44, ex_44⟩ : ∃ z9 : Int32, z9 = u_21 + 1 := ⟨_, rfl⟩
            have bx_44 : iv 2 10 x_44 := by rw [ex_44]; exact iv_add b_41 (iv_c (1 : Int32) (a := 1) (b := 1) (by decide)) (by decide)
            refine lv_iinc (v := x_44) (lv' := [(1, .int x_44), (3, .int u_20), (2, .int u_8), (0, .ref (z 0))]) hx hb dX10_isCome_103 hl (k := 2) rfl (by rw [ex_44]; rfl) (by decide) rfl (fun ls hl => ?_)
            obtain ⟨x_45, ex_45⟩ : ∃ z9 : Int32, z9 = u_20 + 1 := ⟨_, rfl⟩
            have bx_45 : iv 1 10 x_45 := by rw [ex_45]; exact iv_add b_28 (iv_c (1 : Int32) (a := 1) (b := 1) (by decide)) (by decide)
            refine lv_iinc (v := x_45) (lv' := [(3, .int x_45), (1, .int x_44), (2, .int u_8), (0, .ref (z 0))]) hx hb dX10_isCome_106 hl (k := 1) rfl (by rw [ex_45]; rfl) (by decide) rfl (fun ls hl => ?_)
            refine lv_goto (tgt := 46) hx hb dX10_isCome_109 (by decide) ?_
            exact ihn_24 _ _ _ _ (by rw [en_24, ex_45]; exact mu_up b_28 (by decide)) ⟨x_45, x_44, f_42, f_43, (iv_w bx_45 (by decide)), (iv_w bx_44 (by decide)), tf_42, tf_43, (by rw [ef_42]; exact FN_s inn_24_0 (inc_toInt ex_44 b_41 (by decide)) (ex_31.symm.trans c_32) (by have q9 := b_28; have q8 := clampNat q9.1; unfold iv at q9; omega) (ne_m1 bx_36.1)), (IC_s inn_24_1 b_41 (by decide) (inc_toInt ex_44 b_41 (by decide)) b_28 (by decide) b_30 (by decide) c_29 ex_36 bx_36 (ex_31.symm.trans c_32) (by have q1 := toInt_mulC (k := 10) ex_37 bx_36 (by decide) (by decide); have q2 := toInt_add ex_38 bx_37 b_28 (by decide); have q3 := clampNat (x := x_38) (by have q9 := bx_38; unfold iv at q9; omega); have q4 := clampNat (x := x_36) (by have q9 := bx_36; unfold iv at q9; omega); have q5 := clampNat (x := u_20) (by have q9 := b_28; unfold iv at q9; omega); rw [show 10 * (x_36 : Int32).toNatClampNeg + (u_20 : Int32).toNatClampNeg = (x_38 : Int32).toNatClampNeg by omega, ← ex_39]; exact c_40) ef_42 ef_43), (by have q9 := inc_toInt ex_44 b_41 (by decide); have q8 := inn_24_2; omega), rfl, hP, hD, hS, lv_sub hl [0, 2, 1, 3] rfl⟩
          · have b_46 : iv 0 0 x_39 := iv_q c_40 (iv_c (0 : Int32) (a := 0) (b := 0) (by decide))
            refine lv_goto (tgt := 106) hx hb dX10_isCome_81 (by decide) ?_
            obtain ⟨x_47, ex_47⟩ : ∃ z9 : Int32, z9 = u_20 + 1 := ⟨_, rfl⟩
            have bx_47 : iv 1 10 x_47 := by rw [ex_47]; exact iv_add b_28 (iv_c (1 : Int32) (a := 1) (b := 1) (by decide)) (by decide)
            refine lv_iinc (v := x_47) (lv' := [(3, .int x_47), (2, .int u_8), (1, .int u_21), (0, .ref (z 0))]) hx hb dX10_isCome_106 hl (k := 0) rfl (by rw [ex_47]; rfl) (by decide) rfl (fun ls hl => ?_)
            refine lv_goto (tgt := 46) hx hb dX10_isCome_109 (by decide) ?_
            exact ihn_24 _ _ _ _ (by rw [en_24, ex_47]; exact mu_up b_28 (by decide)) ⟨x_47, u_21, f_22, f_23, (iv_w bx_47 (by decide)), bu_21, tf_22, tf_23, inn_24_0, inn_24_1, inn_24_2, rfl, hP, hD, hS, lv_sub hl [0, 1, 2, 3] rfl⟩
  · have b_48 : iv 0 9 u_1 := iv_l1 (Int32.not_le.mp c_4) bu_1 (iv_c (10 : Int32) (a := 10) (b := 10) (by decide)) (by decide)
    refine lv_aload_n hx hb dX10_isCome_8 rfl (lv_at hl 1 rfl) ?_
    refine va_get (ci := 10) (v := .ref (z 33)) (C := RX10) (T := TX10) (N := 40) hx hb hg inX10 hown hK hP 2 rfl rfl 33 (by decide) (hg _ q_6_17) (fun _ h9 => h9) rfl dX10_isCome_9 ?_
    refine lv_iload_n hx hb dX10_isCome_12 rfl (lv_at hl 0 rfl) ?_
    refine lv_iconst (v := (-1)) hx hb dX10_isCome_13 (by decide) ?_
    refine va_iast hx hb hK hP hD hS 0 0 rfl rfl (iv_in b_48 (by decide)) dX10_isCome_14 (fun H locs hP hD hS => ?_)
    obtain ⟨f_49, ef_49, tf_49, hP, hD⟩ : ∃ f_49 : Nat → Int32, f_49 = (upd f_2 (u_1 : Int32).toNatClampNeg (-1)) ∧ (∀ j, iv (-1) 9 (f_49 j)) ∧ va_P V.1 vwCl [(z 33, aI V 10 f_49), (z 34, aI V 10 fz34), (z 0, .inr (10, mo z pz0_0 pz0_5 pz0_6 pz0_7 pz0_8 pz0_9 pz0_10 pz0_11 pz0_12 pz0_13 pz0_14 pz0_18 pz0_19 pz0_22 pz0_23 pz0_29)), (z 32, aI V 100 fz32)] H ∧ va_D A [(z 33, aI V 10 f_49), (z 34, aI V 10 fz34), (z 0, .inr (10, mo z pz0_0 pz0_5 pz0_6 pz0_7 pz0_8 pz0_9 pz0_10 pz0_11 pz0_12 pz0_13 pz0_14 pz0_18 pz0_19 pz0_22 pz0_23 pz0_29)), (z 32, aI V 100 fz32)] := ⟨_, rfl, ivU tf_2 _ (iv_c ((-1) : Int32) (by decide)), hP, hD⟩
    obtain ⟨x_50, ex_50⟩ : ∃ z9 : Int32, z9 = u_1 + 1 := ⟨_, rfl⟩
    have bx_50 : iv 1 10 x_50 := by rw [ex_50]; exact iv_add b_48 (iv_c (1 : Int32) (a := 1) (b := 1) (by decide)) (by decide)
    refine lv_iinc (v := x_50) (lv' := [(1, .int x_50), (0, .ref (z 0))]) hx hb dX10_isCome_15 hl (k := 0) rfl (by rw [ex_50]; rfl) (by decide) rfl (fun ls hl => ?_)
    refine lv_goto (tgt := 2) hx hb dX10_isCome_18 (by decide) ?_
    exact ihn_3 _ _ _ _ (by rw [en_3, ex_50]; exact mu_up b_48 (by decide)) ⟨x_50, f_49, (iv_w bx_50 (by decide)), tf_49, (FL_s inn_3_0 b_48 (by decide) ef_49 ex_50), rfl, hP, hD, hS, lv_sub hl [0, 1] rfl⟩
