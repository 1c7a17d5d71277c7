theorem dX10_feed_0 : decode cX10_feed 0 = .ok (.aload_n 0, 1) := by decide +kernel
theorem dX10_feed_1 : decode cX10_feed 1 = .ok (.iconst 0, 1) := by decide +kernel
theorem q_5_224 : Cond.fieldLink "BeaconDelayModel" 1 "BeaconDelayModel" "thrown" "I" ∈ gw := gw_5 (i := 224) (by decide +kernel) rfl
theorem dX10_feed_2 : decode cX10_feed 2 = .ok (.putfield 1, 3) := by decide +kernel
theorem dX10_feed_5 : decode cX10_feed 5 = .ok (.aload_n 0, 1) := by decide +kernel
theorem q_5_229 : Cond.fieldLink "BeaconDelayModel" 97 "BeaconDelayModel" "taped" "I" ∈ gw := gw_5 (i := 229) (by decide +kernel) rfl
theorem dX10_feed_6 : decode cX10_feed 6 = .ok (.getfield 97, 3) := by decide +kernel
theorem dX10_feed_9 : decode cX10_feed 9 = .ok (.bipush 20, 2) := by decide +kernel
theorem dX10_feed_11 : decode cX10_feed 11 = .ok (.iadd, 1) := by decide +kernel
theorem dX10_feed_12 : decode cX10_feed 12 = .ok (.sipush 900, 3) := by decide +kernel
theorem dX10_feed_15 : decode cX10_feed 15 = .ok (.if_icmp .le 6, 3) := by decide +kernel
theorem dX10_feed_21 : decode cX10_feed 21 = .ok (.iconst 0, 1) := by decide +kernel
theorem dX10_feed_22 : decode cX10_feed 22 = .ok (.istore 6, 2) := by decide +kernel
theorem dX10_feed_24 : decode cX10_feed 24 = .ok (.iload 6, 2) := by decide +kernel
theorem dX10_feed_26 : decode cX10_feed 26 = .ok (.bipush 20, 2) := by decide +kernel
theorem dX10_feed_28 : decode cX10_feed 28 = .ok (.if_icmp .ge 93, 3) := by decide +kernel
theorem dX10_feed_31 : decode cX10_feed 31 = .ok (.iload 6, 2) := by decide +kernel
theorem dX10_feed_33 : decode cX10_feed 33 = .ok (.iconst 4, 1) := by decide +kernel
theorem dX10_feed_34 : decode cX10_feed 34 = .ok (.if_icmp .ge 7, 3) := by decide +kernel
theorem dX10_feed_37 : decode cX10_feed 37 = .ok (.iload_n 1, 1) := by decide +kernel
theorem dX10_feed_38 : decode cX10_feed 38 = .ok (.goto 39, 3) := by decide +kernel
theorem dX10_feed_77 : decode cX10_feed 77 = .ok (.istore 7, 2) := by decide +kernel
theorem dX10_feed_79 : decode cX10_feed 79 = .ok (.aload_n 0, 1) := by decide +kernel
theorem q_5_227 : Cond.fieldLink "BeaconDelayModel" 21 "BeaconDelayModel" "tape" "[I" ∈ gw := gw_5 (i := 227) (by decide +kernel) rfl
theorem dX10_feed_80 : decode cX10_feed 80 = .ok (.getfield 21, 3) := by decide +kernel
theorem dX10_feed_83 : decode cX10_feed 83 = .ok (.aload_n 0, 1) := by decide +kernel
theorem dX10_feed_84 : decode cX10_feed 84 = .ok (.getfield 97, 3) := by decide +kernel
theorem dX10_feed_87 : decode cX10_feed 87 = .ok (.iload 7, 2) := by decide +kernel
theorem dX10_feed_89 : decode cX10_feed 89 = .ok (.bipush 24, 2) := by decide +kernel
theorem dX10_feed_91 : decode cX10_feed 91 = .ok (.bipush 8, 2) := by decide +kernel
theorem dX10_feed_93 : decode cX10_feed 93 = .ok (.iload 6, 2) := by decide +kernel
theorem dX10_feed_95 : decode cX10_feed 95 = .ok (.iconst 4, 1) := by decide +kernel
theorem dX10_feed_96 : decode cX10_feed 96 = .ok (.irem, 1) := by decide +kernel
theorem dX10_feed_97 : decode cX10_feed 97 = .ok (.imul, 1) := by decide +kernel
theorem dX10_feed_98 : decode cX10_feed 98 = .ok (.isub, 1) := by decide +kernel
theorem dX10_feed_99 : decode cX10_feed 99 = .ok (.ishr, 1) := by decide +kernel
theorem dX10_feed_100 : decode cX10_feed 100 = .ok (.sipush 255, 3) := by decide +kernel
theorem dX10_feed_103 : decode cX10_feed 103 = .ok (.iand, 1) := by decide +kernel
theorem dX10_feed_104 : decode cX10_feed 104 = .ok (.iastore, 1) := by decide +kernel
theorem dX10_feed_105 : decode cX10_feed 105 = .ok (.aload_n 0, 1) := by decide +kernel
theorem dX10_feed_106 : decode cX10_feed 106 = .ok (.dup, 1) := by decide +kernel
theorem dX10_feed_107 : decode cX10_feed 107 = .ok (.getfield 97, 3) := by decide +kernel
theorem dX10_feed_110 : decode cX10_feed 110 = .ok (.iconst 1, 1) := by decide +kernel
theorem dX10_feed_111 : decode cX10_feed 111 = .ok (.iadd, 1) := by decide +kernel
theorem dX10_feed_112 : decode cX10_feed 112 = .ok (.putfield 97, 3) := by decide +kernel
theorem dX10_feed_115 : decode cX10_feed 115 = .ok (.iinc 6 1, 3) := by decide +kernel
theorem dX10_feed_118 : decode cX10_feed 118 = .ok (.goto (-94), 3) := by decide +kernel
theorem dX10_feed_41 : decode cX10_feed 41 = .ok (.iload 6, 2) := by decide +kernel
theorem dX10_feed_43 : decode cX10_feed 43 = .ok (.bipush 8, 2) := by decide +kernel
theorem dX10_feed_45 : decode cX10_feed 45 = .ok (.if_icmp .ge 7, 3) := by decide +kernel
theorem dX10_feed_48 : decode cX10_feed 48 = .ok (.iload_n 2, 1) := by decide +kernel
theorem dX10_feed_49 : decode cX10_feed 49 = .ok (.goto 28, 3) := by decide +kernel
theorem dX10_feed_52 : decode cX10_feed 52 = .ok (.iload 6, 2) := by decide +kernel
theorem dX10_feed_54 : decode cX10_feed 54 = .ok (.bipush 12, 2) := by decide +kernel
theorem dX10_feed_56 : decode cX10_feed 56 = .ok (.if_icmp .ge 7, 3) := by decide +kernel
theorem dX10_feed_59 : decode cX10_feed 59 = .ok (.iload_n 3, 1) := by decide +kernel
theorem dX10_feed_60 : decode cX10_feed 60 = .ok (.goto 17, 3) := by decide +kernel
theorem dX10_feed_63 : decode cX10_feed 63 = .ok (.iload 6, 2) := by decide +kernel
theorem dX10_feed_65 : decode cX10_feed 65 = .ok (.bipush 16, 2) := by decide +kernel
theorem dX10_feed_67 : decode cX10_feed 67 = .ok (.if_icmp .ge 8, 3) := by decide +kernel
theorem dX10_feed_70 : decode cX10_feed 70 = .ok (.iload 4, 2) := by decide +kernel
theorem dX10_feed_72 : decode cX10_feed 72 = .ok (.goto 5, 3) := by decide +kernel
theorem dX10_feed_75 : decode cX10_feed 75 = .ok (.iload 5, 2) := by decide +kernel
theorem dX10_feed_121 : decode cX10_feed 121 = .ok (.aload_n 0, 1) := by decide +kernel
theorem dX10_feed_122 : decode cX10_feed 122 = .ok (.getfield 97, 3) := by decide +kernel
theorem dX10_feed_125 : decode cX10_feed 125 = .ok (.ireturn, 1) := by decide +kernel
theorem dX10_feed_18 : decode cX10_feed 18 = .ok (.bipush (-5), 2) := by decide +kernel
theorem dX10_feed_20 : decode cX10_feed 20 = .ok (.ireturn, 1) := by decide +kernel
set_option maxHeartbeats 4000000 in
set_option maxRecDepth 100000 in
theorem k_X10_feed_0 (l : Launch) (V : GV) (z : Nat → Nat) (a1 : Int32) (a2 : Int32) (a3 : Int32) (a4 : Int32) (a5 : Int32) (pz0_0 : Int32) (pz0_5 : Int32) (pz0_6 : Int32) (pz0_7 : Int32) (pz0_8 : Int32) (pz0_9 : Int32) (pz0_10 : Int32) (pz0_11 : Int32) (pz0_12 : Int32) (pz0_13 : Int32) (pz0_14 : Int32) (pz0_18 : Int32) (pz0_19 : Int32) (pz0_22 : Int32) (pz0_23 : Int32) (pz0_29 : Int32) (fz3 : Nat → Int32) (bpz0_5 : iv 0 900 pz0_5) (bpz0_6 : iv 0 900 pz0_6) (bpz0_7 : iv 0 900 pz0_7) (bpz0_8 : iv 0 900 pz0_8) (bpz0_10 : iv 0 999 pz0_10) (bpz0_11 : iv 0 4 pz0_11) (bpz0_12 : iv 0 900 pz0_12) (bpz0_13 : iv 0 4 pz0_13) (bpz0_14 : iv (-1) 900 pz0_14) (bpz0_18 : iv 0 2 pz0_18) (bpz0_22 : iv 0 9999 pz0_22) (bpz0_29 : iv 0 10000 pz0_29) (tfz3 : ∀ j, iv 0 255 (fz3 j)) : Ct l V yX10_feed (.code yX10_feed cX10_feed 8 (some .int)) 1 [.ref (z 0), .int a1, .int a2, .int a3, .int a4, .int a5] [(z 0, .inr (10, mo z pz0_0 pz0_5 pz0_6 pz0_7 pz0_8 pz0_9 pz0_10 pz0_11 pz0_12 pz0_13 pz0_14 pz0_18 pz0_19 pz0_22 pz0_23 pz0_29)), (z 3, aI V 900 fz3)] 0 0 (QI V (fun (r : Int32) (w : va_W) => ∃ (v0 : Int32) (v1 : Int32) (g2 : Nat → Int32), iv 0 900 v1 ∧ (∀ j, iv 0 255 (g2 j)) ∧ iv (-5) 900 r ∧ r = feF pz0_5 ∧ (v1 = feS pz0_5) ∧ (g2 = feZ fz3 pz0_5 a1 a2 a3 a4 a5) ∧ w = [(z 0, .inr (10, mo z v0 v1 pz0_6 pz0_7 pz0_8 pz0_9 pz0_10 pz0_11 pz0_12 pz0_13 pz0_14 pz0_18 pz0_19 pz0_22 pz0_23 pz0_29)), (z 3, aI V 900 g2)])) := by
  refine Ct.of (by decide) (Nat.le_of_ble_eq_true rfl) (fun p e s m below meth c A ls hx hb hr hml hown hlk hnm hg hP hK hD hE hA hS hl => ?_)
  have hl : lv_has ls 8 [(0, .ref (z 0)), (1, .int a1), (2, .int a2), (3, .int a3), (4, .int a4), (5, .int a5)] := hl
  refine lv_aload_n hx hb dX10_feed_0 rfl (lv_at hl 0 rfl) ?_
  refine lv_iconst (v := 0) hx hb dX10_feed_1 (by decide) ?_
  refine va_put (ci := 10) (v := .int 0) (ty := .int) (C := RX10) (T := TX10) (N := 40) hx hb hg inX10 tyX10 tyX10_ok nmX10 hown hK hP hD hS 0 rfl rfl 0 (by decide) (hg _ q_5_224) (fun _ h9 => h9) rfl (by decide +kernel) rfl rfl (Nat.le_of_ble_eq_true rfl) dX10_feed_2 (fun H locs hP hD hS => ?_)
  have hP : va_P V.1 vwCl [(z 0, .inr (10, mo z 0 pz0_5 pz0_6 pz0_7 pz0_8 pz0_9 pz0_10 pz0_11 pz0_12 pz0_13 pz0_14 pz0_18 pz0_19 pz0_22 pz0_23 pz0_29)), (z 3, aI V 900 fz3)] H := hP
  have hD := cpD hP hD
  refine lv_aload_n hx hb dX10_feed_5 rfl (lv_at hl 0 rfl) ?_
  refine va_get (ci := 10) (v := .int pz0_5) (C := RX10) (T := TX10) (N := 40) hx hb hg inX10 hown hK hP 0 rfl rfl 5 (by decide) (hg _ q_5_229) (fun _ h9 => h9) rfl dX10_feed_6 ?_
  refine lv_bipush (v := 20) hx hb dX10_feed_9 (by decide) ?_
  refine lv_iadd hx hb dX10_feed_11 ?_
  refine lv_topi (fun x_1 ex_1 => ?_)
  have bx_1 : iv 20 920 x_1 := by rw [ex_1]; exact iv_add bpz0_5 (iv_c (20 : Int32) (a := 20) (b := 20) (by decide)) (by decide)
  refine lv_sipush (v := 900) hx hb dX10_feed_12 (by decide) ?_
  refine lv_icmp_le (tgt := 21) hx hb dX10_feed_15 (by decide) (fun c_2 => ?_) (fun c_2 => ?_)
  · have b_3 : iv 20 900 x_1 := iv_e1 c_2 bx_1 (iv_c (900 : Int32) (a := 900) (b := 900) (by decide)) (by decide)
    have b_4 : iv 0 880 pz0_5 := iv_addb ex_1 b_3 bpz0_5 (iv_c (20 : Int32) (a := 20) (b := 20) (by decide)) (by decide)
    refine lv_iconst (v := 0) hx hb dX10_feed_21 (by decide) ?_
    refine lv_istore (lv' := [(6, .int 0), (0, .ref (z 0)), (1, .int a1), (2, .int a2), (3, .int a3), (4, .int a4), (5, .int a5)]) hx hb dX10_feed_22 hl (by decide) rfl (fun ls hl => ?_)
    refine lv_iload hx hb dX10_feed_24 (lv_at hl 0 rfl) ?_
    refine lv_bipush (v := 20) hx hb dX10_feed_26 (by decide) ?_
    refine lv_icmp_ge (tgt := 121) hx hb dX10_feed_28 (by decide) (fun c_6 => absurd c_6 (by decide)) (fun _ => ?_)
    refine lv_iload hx hb dX10_feed_31 (lv_at hl 0 rfl) ?_
    refine lv_iconst (v := 4) hx hb dX10_feed_33 (by decide) ?_
    refine lv_icmp_ge (tgt := 41) hx hb dX10_feed_34 (by decide) (fun c_8 => absurd c_8 (by decide)) (fun _ => ?_)
    refine lv_iload_n hx hb dX10_feed_37 rfl (lv_at hl 2 rfl) ?_
    refine lv_goto (tgt := 77) hx hb dX10_feed_38 (by decide) ?_
    refine lv_istore (lv' := [(7, .int a1), (6, .int 0), (0, .ref (z 0)), (1, .int a1), (2, .int a2), (3, .int a3), (4, .int a4), (5, .int a5)]) hx hb dX10_feed_77 hl (by decide) rfl (fun ls hl => ?_)
    refine lv_aload_n hx hb dX10_feed_79 rfl (lv_at hl 2 rfl) ?_
    refine va_get (ci := 10) (v := .ref (z 3)) (C := RX10) (T := TX10) (N := 40) hx hb hg inX10 hown hK hP 0 rfl rfl 3 (by decide) (hg _ q_5_227) (fun _ h9 => h9) rfl dX10_feed_80 ?_
    refine lv_aload_n hx hb dX10_feed_83 rfl (lv_at hl 2 rfl) ?_
    refine va_get (ci := 10) (v := .int pz0_5) (C := RX10) (T := TX10) (N := 40) hx hb hg inX10 hown hK hP 0 rfl rfl 5 (by decide) (hg _ q_5_229) (fun _ h9 => h9) rfl dX10_feed_84 ?_
    refine lv_iload hx hb dX10_feed_87 (lv_at hl 0 rfl) ?_
    refine lv_bipush (v := 24) hx hb dX10_feed_89 (by decide) ?_
    refine lv_bipush (v := 8) hx hb dX10_feed_91 (by decide) ?_
    refine lv_iload hx hb dX10_feed_93 (lv_at hl 1 rfl) ?_
    refine lv_iconst (v := 4) hx hb dX10_feed_95 (by decide) ?_
    refine lv_irem hx hb dX10_feed_96 (by decide) ?_
    refine tpi (y := 0) (by decide +kernel) ?_
    refine lv_imul hx hb dX10_feed_97 ?_
    refine tpi (y := 0) (by decide +kernel) ?_
    refine lv_isub hx hb dX10_feed_98 ?_
    refine tpi (y := 24) (by decide +kernel) ?_
    refine lv_ishr hx hb dX10_feed_99 ?_
    refine lv_topi (fun x_9 ex_9 => ?_)
    refine lv_sipush (v := 255) hx hb dX10_feed_100 (by decide) ?_
    refine lv_iand hx hb dX10_feed_103 ?_
    refine lv_topi (fun x_10 ex_10 => ?_)
    have bx_10 : iv 0 255 x_10 := by rw [ex_10]; exact iv_and255 _
    refine va_iast hx hb hK hP hD hS 1 0 rfl rfl (iv_in b_4 (by decide)) dX10_feed_104 (fun H locs hP hD hS => ?_)
    obtain ⟨f_11, ef_11, tf_11, hP, hD⟩ : ∃ f_11 : Nat → Int32, f_11 = (upd fz3 (pz0_5 : Int32).toNatClampNeg x_10) ∧ (∀ j, iv 0 255 (f_11 j)) ∧ va_P V.1 vwCl [(z 0, .inr (10, mo z 0 pz0_5 pz0_6 pz0_7 pz0_8 pz0_9 pz0_10 pz0_11 pz0_12 pz0_13 pz0_14 pz0_18 pz0_19 pz0_22 pz0_23 pz0_29)), (z 3, aI V 900 f_11)] H ∧ va_D A [(z 0, .inr (10, mo z 0 pz0_5 pz0_6 pz0_7 pz0_8 pz0_9 pz0_10 pz0_11 pz0_12 pz0_13 pz0_14 pz0_18 pz0_19 pz0_22 pz0_23 pz0_29)), (z 3, aI V 900 f_11)] := ⟨_, rfl, ivU tfz3 _ bx_10, hP, hD⟩
    refine lv_aload_n hx hb dX10_feed_105 rfl (lv_at hl 2 rfl) ?_
    refine lv_dup hx hb dX10_feed_106 rfl ?_
    refine va_get (ci := 10) (v := .int pz0_5) (C := RX10) (T := TX10) (N := 40) hx hb hg inX10 hown hK hP 0 rfl rfl 5 (by decide) (hg _ q_5_229) (fun _ h9 => h9) rfl dX10_feed_107 ?_
    refine lv_iconst (v := 1) hx hb dX10_feed_110 (by decide) ?_
    refine lv_iadd hx hb dX10_feed_111 ?_
    refine lv_topi (fun x_12 ex_12 => ?_)
    have bx_12 : iv 1 881 x_12 := by rw [ex_12]; exact iv_add b_4 (iv_c (1 : Int32) (a := 1) (b := 1) (by decide)) (by decide)
    refine va_put (ci := 10) (v := .int x_12) (ty := .int) (C := RX10) (T := TX10) (N := 40) hx hb hg inX10 tyX10 tyX10_ok nmX10 hown hK hP hD hS 0 rfl rfl 5 (by decide) (hg _ q_5_229) (fun _ h9 => h9) rfl (by decide +kernel) rfl rfl (Nat.le_of_ble_eq_true rfl) dX10_feed_112 (fun H locs hP hD hS => ?_)
    have hP : va_P V.1 vwCl [(z 0, .inr (10, mo z 0 x_12 pz0_6 pz0_7 pz0_8 pz0_9 pz0_10 pz0_11 pz0_12 pz0_13 pz0_14 pz0_18 pz0_19 pz0_22 pz0_23 pz0_29)), (z 3, aI V 900 f_11)] H := hP
    have hD := cpD hP hD
    refine lv_iinc (v := 1) (lv' := [(6, .int 1), (7, .int a1), (0, .ref (z 0)), (1, .int a1), (2, .int a2), (3, .int a3), (4, .int a4), (5, .int a5)]) hx hb dX10_feed_115 hl (k := 1) rfl (by decide +kernel) (by decide) rfl (fun ls hl => ?_)
    refine lv_goto (tgt := 24) hx hb dX10_feed_118 (by decide) ?_
    refine lv_iload hx hb dX10_feed_24 (lv_at hl 0 rfl) ?_
    refine lv_bipush (v := 20) hx hb dX10_feed_26 (by decide) ?_
    refine lv_icmp_ge (tgt := 121) hx hb dX10_feed_28 (by decide) (fun c_14 => absurd c_14 (by decide)) (fun _ => ?_)
    refine lv_iload hx hb dX10_feed_31 (lv_at hl 0 rfl) ?_
    refine lv_iconst (v := 4) hx hb dX10_feed_33 (by decide) ?_
    refine lv_icmp_ge (tgt := 41) hx hb dX10_feed_34 (by decide) (fun c_16 => absurd c_16 (by decide)) (fun _ => ?_)
    refine lv_iload_n hx hb dX10_feed_37 rfl (lv_at hl 3 rfl) ?_
    refine lv_goto (tgt := 77) hx hb dX10_feed_38 (by decide) ?_
    refine lv_istore (lv' := [(7, .int a1), (6, .int 1), (0, .ref (z 0)), (1, .int a1), (2, .int a2), (3, .int a3), (4, .int a4), (5, .int a5)]) hx hb dX10_feed_77 hl (by decide) rfl (fun ls hl => ?_)
    refine lv_aload_n hx hb dX10_feed_79 rfl (lv_at hl 2 rfl) ?_
    refine va_get (ci := 10) (v := .ref (z 3)) (C := RX10) (T := TX10) (N := 40) hx hb hg inX10 hown hK hP 0 rfl rfl 3 (by decide) (hg _ q_5_227) (fun _ h9 => h9) rfl dX10_feed_80 ?_
    refine lv_aload_n hx hb dX10_feed_83 rfl (lv_at hl 2 rfl) ?_
    refine va_get (ci := 10) (v := .int x_12) (C := RX10) (T := TX10) (N := 40) hx hb hg inX10 hown hK hP 0 rfl rfl 5 (by decide) (hg _ q_5_229) (fun _ h9 => h9) rfl dX10_feed_84 ?_
    refine lv_iload hx hb dX10_feed_87 (lv_at hl 0 rfl) ?_
    refine lv_bipush (v := 24) hx hb dX10_feed_89 (by decide) ?_
    refine lv_bipush (v := 8) hx hb dX10_feed_91 (by decide) ?_
    refine lv_iload hx hb dX10_feed_93 (lv_at hl 1 rfl) ?_
    refine lv_iconst (v := 4) hx hb dX10_feed_95 (by decide) ?_
    refine lv_irem hx hb dX10_feed_96 (by decide) ?_
    refine tpi (y := 1) (by decide +kernel) ?_
    refine lv_imul hx hb dX10_feed_97 ?_
    refine tpi (y := 8) (by decide +kernel) ?_
    refine lv_isub hx hb dX10_feed_98 ?_
    refine tpi (y := 16) (by decide +kernel) ?_
    refine lv_ishr hx hb dX10_feed_99 ?_
    refine lv_topi (fun x_17 ex_17 => ?_)
    refine lv_sipush (v := 255) hx hb dX10_feed_100 (by decide) ?_
    refine lv_iand hx hb dX10_feed_103 ?_
    refine lv_topi (fun x_18 ex_18 => ?_)
    have bx_18 : iv 0 255 x_18 := by rw [ex_18]; exact iv_and255 _
    refine va_iast hx hb hK hP hD hS 1 0 rfl rfl (iv_in bx_12 (by decide)) dX10_feed_104 (fun H locs hP hD hS => ?_)
    obtain ⟨f_19, ef_19, tf_19, hP, hD⟩ : ∃ f_19 : Nat → Int32, f_19 = (upd f_11 (x_12 : Int32).toNatClampNeg x_18) ∧ (∀ j, iv 0 255 (f_19 j)) ∧ va_P V.1 vwCl [(z 0, .inr (10, mo z 0 x_12 pz0_6 pz0_7 pz0_8 pz0_9 pz0_10 pz0_11 pz0_12 pz0_13 pz0_14 pz0_18 pz0_19 pz0_22 pz0_23 pz0_29)), (z 3, aI V 900 f_19)] H ∧ va_D A [(z 0, .inr (10, mo z 0 x_12 pz0_6 pz0_7 pz0_8 pz0_9 pz0_10 pz0_11 pz0_12 pz0_13 pz0_14 pz0_18 pz0_19 pz0_22 pz0_23 pz0_29)), (z 3, aI V 900 f_19)] := ⟨_, rfl, ivU tf_11 _ bx_18, hP, hD⟩
    refine lv_aload_n hx hb dX10_feed_105 rfl (lv_at hl 2 rfl) ?_
    refine lv_dup hx hb dX10_feed_106 rfl ?_
    refine va_get (ci := 10) (v := .int x_12) (C := RX10) (T := TX10) (N := 40) hx hb hg inX10 hown hK hP 0 rfl rfl 5 (by decide) (hg _ q_5_229) (fun _ h9 => h9) rfl dX10_feed_107 ?_
    refine lv_iconst (v := 1) hx hb dX10_feed_110 (by decide) ?_
    refine lv_iadd hx hb dX10_feed_111 ?_
    refine lv_topi (fun x_20 ex_20 => ?_)
    have bx_20 : iv 2 882 x_20 := by rw [ex_20]; exact iv_add bx_12 (iv_c (1 : Int32) (a := 1) (b := 1) (by decide)) (by decide)
    refine va_put (ci := 10) (v := .int x_20) (ty := .int) (C := RX10) (T := TX10) (N := 40) hx hb hg inX10 tyX10 tyX10_ok nmX10 hown hK hP hD hS 0 rfl rfl 5 (by decide) (hg _ q_5_229) (fun _ h9 => h9) rfl (by decide +kernel) rfl rfl (Nat.le_of_ble_eq_true rfl) dX10_feed_112 (fun H locs hP hD hS => ?_)
    have hP : va_P V.1 vwCl [(z 0, .inr (10, mo z 0 x_20 pz0_6 pz0_7 pz0_8 pz0_9 pz0_10 pz0_11 pz0_12 pz0_13 pz0_14 pz0_18 pz0_19 pz0_22 pz0_23 pz0_29)), (z 3, aI V 900 f_19)] H := hP
    have hD := cpD hP hD
    refine lv_iinc (v := 2) (lv' := [(6, .int 2), (7, .int a1), (0, .ref (z 0)), (1, .int a1), (2, .int a2), (3, .int a3), (4, .int a4), (5, .int a5)]) hx hb dX10_feed_115 hl (k := 1) rfl (by decide +kernel) (by decide) rfl (fun ls hl => ?_)
    refine lv_goto (tgt := 24) hx hb dX10_feed_118 (by decide) ?_
    refine lv_iload hx hb dX10_feed_24 (lv_at hl 0 rfl) ?_
    refine lv_bipush (v := 20) hx hb dX10_feed_26 (by decide) ?_
    refine lv_icmp_ge (tgt := 121) hx hb dX10_feed_28 (by decide) (fun c_22 => absurd c_22 (by decide)) (fun _ => ?_)
    refine lv_iload hx hb dX10_feed_31 (lv_at hl 0 rfl) ?_
    refine lv_iconst (v := 4) hx hb dX10_feed_33 (by decide) ?_
    refine lv_icmp_ge (tgt := 41) hx hb dX10_feed_34 (by decide) (fun c_24 => absurd c_24 (by decide)) (fun _ => ?_)
    refine lv_iload_n hx hb dX10_feed_37 rfl (lv_at hl 3 rfl) ?_
    refine lv_goto (tgt := 77) hx hb dX10_feed_38 (by decide) ?_
    refine lv_istore (lv' := [(7, .int a1), (6, .int 2), (0, .ref (z 0)), (1, .int a1), (2, .int a2), (3, .int a3), (4, .int a4), (5, .int a5)]) hx hb dX10_feed_77 hl (by decide) rfl (fun ls hl => ?_)
    refine lv_aload_n hx hb dX10_feed_79 rfl (lv_at hl 2 rfl) ?_
    refine va_get (ci := 10) (v := .ref (z 3)) (C := RX10) (T := TX10) (N := 40) hx hb hg inX10 hown hK hP 0 rfl rfl 3 (by decide) (hg _ q_5_227) (fun _ h9 => h9) rfl dX10_feed_80 ?_
    refine lv_aload_n hx hb dX10_feed_83 rfl (lv_at hl 2 rfl) ?_
    refine va_get (ci := 10) (v := .int x_20) (C := RX10) (T := TX10) (N := 40) hx hb hg inX10 hown hK hP 0 rfl rfl 5 (by decide) (hg _ q_5_229) (fun _ h9 => h9) rfl dX10_feed_84 ?_
    refine lv_iload hx hb dX10_feed_87 (lv_at hl 0 rfl) ?_
    refine lv_bipush (v := 24) hx hb dX10_feed_89 (by decide) ?_
    refine lv_bipush (v := 8) hx hb dX10_feed_91 (by decide) ?_
    refine lv_iload hx hb dX10_feed_93 (lv_at hl 1 rfl) ?_
    refine lv_iconst (v := 4) hx hb dX10_feed_95 (by decide) ?_
    refine lv_irem hx hb dX10_feed_96 (by decide) ?_
    refine tpi (y := 2) (by decide +kernel) ?_
    refine lv_imul hx hb dX10_feed_97 ?_
    refine tpi (y := 16) (by decide +kernel) ?_
    refine lv_isub hx hb dX10_feed_98 ?_
    refine tpi (y := 8) (by decide +kernel) ?_
    refine lv_ishr hx hb dX10_feed_99 ?_
    refine lv_topi (fun x_25 ex_25 => ?_)
    refine lv_sipush (v := 255) hx hb dX10_feed_100 (by decide) ?_
    refine lv_iand hx hb dX10_feed_103 ?_
    refine lv_topi (fun x_26 ex_26 => ?_)
    have bx_26 : iv 0 255 x_26 := by rw [ex_26]; exact iv_and255 _
    refine va_iast hx hb hK hP hD hS 1 0 rfl rfl (iv_in bx_20 (by decide)) dX10_feed_104 (fun H locs hP hD hS => ?_)
    obtain ⟨f_27, ef_27, tf_27, hP, hD⟩ : ∃ f_27 : Nat → Int32, f_27 = (upd f_19 (x_20 : Int32).toNatClampNeg x_26) ∧ (∀ j, iv 0 255 (f_27 j)) ∧ va_P V.1 vwCl [(z 0, .inr (10, mo z 0 x_20 pz0_6 pz0_7 pz0_8 pz0_9 pz0_10 pz0_11 pz0_12 pz0_13 pz0_14 pz0_18 pz0_19 pz0_22 pz0_23 pz0_29)), (z 3, aI V 900 f_27)] H ∧ va_D A [(z 0, .inr (10, mo z 0 x_20 pz0_6 pz0_7 pz0_8 pz0_9 pz0_10 pz0_11 pz0_12 pz0_13 pz0_14 pz0_18 pz0_19 pz0_22 pz0_23 pz0_29)), (z 3, aI V 900 f_27)] := ⟨_, rfl, ivU tf_19 _ bx_26, hP, hD⟩
    refine lv_aload_n hx hb dX10_feed_105 rfl (lv_at hl 2 rfl) ?_
    refine lv_dup hx hb dX10_feed_106 rfl ?_
    refine va_get (ci := 10) (v := .int x_20) (C := RX10) (T := TX10) (N := 40) hx hb hg inX10 hown hK hP 0 rfl rfl 5 (by decide) (hg _ q_5_229) (fun _ h9 => h9) rfl dX10_feed_107 ?_
    refine lv_iconst (v := 1) hx hb dX10_feed_110 (by decide) ?_
    refine lv_iadd hx hb dX10_feed_111 ?_
    refine lv_topi (fun x_28 ex_28 => ?_)
    have bx_28 : iv 3 883 x_28 := by rw [ex_28]; exact iv_add bx_20 (iv_c (1 : Int32) (a := 1) (b := 1) (by decide)) (by decide)
    refine va_put (ci := 10) (v := .int x_28) (ty := .int) (C := RX10) (T := TX10) (N := 40) hx hb hg inX10 tyX10 tyX10_ok nmX10 hown hK hP hD hS 0 rfl rfl 5 (by decide) (hg _ q_5_229) (fun _ h9 => h9) rfl (by decide +kernel) rfl rfl (Nat.le_of_ble_eq_true rfl) dX10_feed_112 (fun H locs hP hD hS => ?_)
    have hP : va_P V.1 vwCl [(z 0, .inr (10, mo z 0 x_28 pz0_6 pz0_7 pz0_8 pz0_9 pz0_10 pz0_11 pz0_12 pz0_13 pz0_14 pz0_18 pz0_19 pz0_22 pz0_23 pz0_29)), (z 3, aI V 900 f_27)] H := hP
    have hD := cpD hP hD
    refine lv_iinc (v := 3) (lv' := [(6, .int 3), (7, .int a1), (0, .ref (z 0)), (1, .int a1), (2, .int a2), (3, .int a3), (4, .int a4), (5, .int a5)]) hx hb dX10_feed_115 hl (k := 1) rfl (by decide +kernel) (by decide) rfl (fun ls hl => ?_)
    refine lv_goto (tgt := 24) hx hb dX10_feed_118 (by decide) ?_
    refine lv_iload hx hb dX10_feed_24 (lv_at hl 0 rfl) ?_
    refine lv_bipush (v := 20) hx hb dX10_feed_26 (by decide) ?_
    refine lv_icmp_ge (tgt := 121) hx hb dX10_feed_28 (by decide) (fun c_30 => absurd c_30 (by decide)) (fun _ => ?_)
    refine lv_iload hx hb dX10_feed_31 (lv_at hl 0 rfl) ?_
    refine lv_iconst (v := 4) hx hb dX10_feed_33 (by decide) ?_
    refine lv_icmp_ge (tgt := 41) hx hb dX10_feed_34 (by decide) (fun c_32 => absurd c_32 (by decide)) (fun _ => ?_)
    refine lv_iload_n hx hb dX10_feed_37 rfl (lv_at hl 3 rfl) ?_
    refine lv_goto (tgt := 77) hx hb dX10_feed_38 (by decide) ?_
    refine lv_istore (lv' := [(7, .int a1), (6, .int 3), (0, .ref (z 0)), (1, .int a1), (2, .int a2), (3, .int a3), (4, .int a4), (5, .int a5)]) hx hb dX10_feed_77 hl (by decide) rfl (fun ls hl => ?_)
    refine lv_aload_n hx hb dX10_feed_79 rfl (lv_at hl 2 rfl) ?_
    refine va_get (ci := 10) (v := .ref (z 3)) (C := RX10) (T := TX10) (N := 40) hx hb hg inX10 hown hK hP 0 rfl rfl 3 (by decide) (hg _ q_5_227) (fun _ h9 => h9) rfl dX10_feed_80 ?_
    refine lv_aload_n hx hb dX10_feed_83 rfl (lv_at hl 2 rfl) ?_
    refine va_get (ci := 10) (v := .int x_28) (C := RX10) (T := TX10) (N := 40) hx hb hg inX10 hown hK hP 0 rfl rfl 5 (by decide) (hg _ q_5_229) (fun _ h9 => h9) rfl dX10_feed_84 ?_
    refine lv_iload hx hb dX10_feed_87 (lv_at hl 0 rfl) ?_
    refine lv_bipush (v := 24) hx hb dX10_feed_89 (by decide) ?_
    refine lv_bipush (v := 8) hx hb dX10_feed_91 (by decide) ?_
    refine lv_iload hx hb dX10_feed_93 (lv_at hl 1 rfl) ?_
    refine lv_iconst (v := 4) hx hb dX10_feed_95 (by decide) ?_
    refine lv_irem hx hb dX10_feed_96 (by decide) ?_
    refine tpi (y := 3) (by decide +kernel) ?_
    refine lv_imul hx hb dX10_feed_97 ?_
    refine tpi (y := 24) (by decide +kernel) ?_
    refine lv_isub hx hb dX10_feed_98 ?_
    refine tpi (y := 0) (by decide +kernel) ?_
    refine lv_ishr hx hb dX10_feed_99 ?_
    refine tpi (y := a1) (sb_shr0 _) ?_
    refine lv_sipush (v := 255) hx hb dX10_feed_100 (by decide) ?_
    refine lv_iand hx hb dX10_feed_103 ?_
    refine lv_topi (fun x_33 ex_33 => ?_)
    have bx_33 : iv 0 255 x_33 := by rw [ex_33]; exact iv_and255 _
    refine va_iast hx hb hK hP hD hS 1 0 rfl rfl (iv_in bx_28 (by decide)) dX10_feed_104 (fun H locs hP hD hS => ?_)
    obtain ⟨f_34, ef_34, tf_34, hP, hD⟩ : ∃ f_34 : Nat → Int32, f_34 = (upd f_27 (x_28 : Int32).toNatClampNeg x_33) ∧ (∀ j, iv 0 255 (f_34 j)) ∧ va_P V.1 vwCl [(z 0, .inr (10, mo z 0 x_28 pz0_6 pz0_7 pz0_8 pz0_9 pz0_10 pz0_11 pz0_12 pz0_13 pz0_14 pz0_18 pz0_19 pz0_22 pz0_23 pz0_29)), (z 3, aI V 900 f_34)] H ∧ va_D A [(z 0, .inr (10, mo z 0 x_28 pz0_6 pz0_7 pz0_8 pz0_9 pz0_10 pz0_11 pz0_12 pz0_13 pz0_14 pz0_18 pz0_19 pz0_22 pz0_23 pz0_29)), (z 3, aI V 900 f_34)] := ⟨_, rfl, ivU tf_27 _ bx_33, hP, hD⟩
    refine lv_aload_n hx hb dX10_feed_105 rfl (lv_at hl 2 rfl) ?_
    refine lv_dup hx hb dX10_feed_106 rfl ?_
    refine va_get (ci := 10) (v := .int x_28) (C := RX10) (T := TX10) (N := 40) hx hb hg inX10 hown hK hP 0 rfl rfl 5 (by decide) (hg _ q_5_229) (fun _ h9 => h9) rfl dX10_feed_107 ?_
    refine lv_iconst (v := 1) hx hb dX10_feed_110 (by decide) ?_
    refine lv_iadd hx hb dX10_feed_111 ?_
    refine lv_topi (fun x_35 ex_35 => ?_)
    have bx_35 : iv 4 884 x_35 := by rw [ex_35]; exact iv_add bx_28 (iv_c (1 : Int32) (a := 1) (b := 1) (by decide)) (by decide)
    refine va_put (ci := 10) (v := .int x_35) (ty := .int) (C := RX10) (T := TX10) (N := 40) hx hb hg inX10 tyX10 tyX10_ok nmX10 hown hK hP hD hS 0 rfl rfl 5 (by decide) (hg _ q_5_229) (fun _ h9 => h9) rfl (by decide +kernel) rfl rfl (Nat.le_of_ble_eq_true rfl) dX10_feed_112 (fun H locs hP hD hS => ?_)
    have hP : va_P V.1 vwCl [(z 0, .inr (10, mo z 0 x_35 pz0_6 pz0_7 pz0_8 pz0_9 pz0_10 pz0_11 pz0_12 pz0_13 pz0_14 pz0_18 pz0_19 pz0_22 pz0_23 pz0_29)), (z 3, aI V 900 f_34)] H := hP
    have hD := cpD hP hD
    refine lv_iinc (v := 4) (lv' := [(6, .int 4), (7, .int a1), (0, .ref (z 0)), (1, .int a1), (2, .int a2), (3, .int a3), (4, .int a4), (5, .int a5)]) hx hb dX10_feed_115 hl (k := 1) rfl (by decide +kernel) (by decide) rfl (fun ls hl => ?_)
    refine lv_goto (tgt := 24) hx hb dX10_feed_118 (by decide) ?_
    refine lv_iload hx hb dX10_feed_24 (lv_at hl 0 rfl) ?_
    refine lv_bipush (v := 20) hx hb dX10_feed_26 (by decide) ?_
    refine lv_icmp_ge (tgt := 121) hx hb dX10_feed_28 (by decide) (fun c_37 => absurd c_37 (by decide)) (fun _ => ?_)
    refine lv_iload hx hb dX10_feed_31 (lv_at hl 0 rfl) ?_
    refine lv_iconst (v := 4) hx hb dX10_feed_33 (by decide) ?_
    refine lv_icmp_ge (tgt := 41) hx hb dX10_feed_34 (by decide) (fun _ => ?_) (fun c_39 => absurd c_39 (by decide))
    refine lv_iload hx hb dX10_feed_41 (lv_at hl 0 rfl) ?_
    refine lv_bipush (v := 8) hx hb dX10_feed_43 (by decide) ?_
    refine lv_icmp_ge (tgt := 52) hx hb dX10_feed_45 (by decide) (fun c_41 => absurd c_41 (by decide)) (fun _ => ?_)
    refine lv_iload_n hx hb dX10_feed_48 rfl (lv_at hl 4 rfl) ?_
    refine lv_goto (tgt := 77) hx hb dX10_feed_49 (by decide) ?_
    refine lv_istore (lv' := [(7, .int a2), (6, .int 4), (0, .ref (z 0)), (1, .int a1), (2, .int a2), (3, .int a3), (4, .int a4), (5, .int a5)]) hx hb dX10_feed_77 hl (by decide) rfl (fun ls hl => ?_)
    refine lv_aload_n hx hb dX10_feed_79 rfl (lv_at hl 2 rfl) ?_
    refine va_get (ci := 10) (v := .ref (z 3)) (C := RX10) (T := TX10) (N := 40) hx hb hg inX10 hown hK hP 0 rfl rfl 3 (by decide) (hg _ q_5_227) (fun _ h9 => h9) rfl dX10_feed_80 ?_
    refine lv_aload_n hx hb dX10_feed_83 rfl (lv_at hl 2 rfl) ?_
    refine va_get (ci := 10) (v := .int x_35) (C := RX10) (T := TX10) (N := 40) hx hb hg inX10 hown hK hP 0 rfl rfl 5 (by decide) (hg _ q_5_229) (fun _ h9 => h9) rfl dX10_feed_84 ?_
    refine lv_iload hx hb dX10_feed_87 (lv_at hl 0 rfl) ?_
    refine lv_bipush (v := 24) hx hb dX10_feed_89 (by decide) ?_
    refine lv_bipush (v := 8) hx hb dX10_feed_91 (by decide) ?_
    refine lv_iload hx hb dX10_feed_93 (lv_at hl 1 rfl) ?_
    refine lv_iconst (v := 4) hx hb dX10_feed_95 (by decide) ?_
    refine lv_irem hx hb dX10_feed_96 (by decide) ?_
    refine tpi (y := 0) (by decide +kernel) ?_
    refine lv_imul hx hb dX10_feed_97 ?_
    refine tpi (y := 0) (by decide +kernel) ?_
    refine lv_isub hx hb dX10_feed_98 ?_
    refine tpi (y := 24) (by decide +kernel) ?_
    refine lv_ishr hx hb dX10_feed_99 ?_
    refine lv_topi (fun x_42 ex_42 => ?_)
    refine lv_sipush (v := 255) hx hb dX10_feed_100 (by decide) ?_
    refine lv_iand hx hb dX10_feed_103 ?_
    refine lv_topi (fun x_43 ex_43 => ?_)
    have bx_43 : iv 0 255 x_43 := by rw [ex_43]; exact iv_and255 _
    refine va_iast hx hb hK hP hD hS 1 0 rfl rfl (iv_in bx_35 (by decide)) dX10_feed_104 (fun H locs hP hD hS => ?_)
    obtain ⟨f_44, ef_44, tf_44, hP, hD⟩ : ∃ f_44 : Nat → Int32, f_44 = (upd f_34 (x_35 : Int32).toNatClampNeg x_43) ∧ (∀ j, iv 0 255 (f_44 j)) ∧ va_P V.1 vwCl [(z 0, .inr (10, mo z 0 x_35 pz0_6 pz0_7 pz0_8 pz0_9 pz0_10 pz0_11 pz0_12 pz0_13 pz0_14 pz0_18 pz0_19 pz0_22 pz0_23 pz0_29)), (z 3, aI V 900 f_44)] H ∧ va_D A [(z 0, .inr (10, mo z 0 x_35 pz0_6 pz0_7 pz0_8 pz0_9 pz0_10 pz0_11 pz0_12 pz0_13 pz0_14 pz0_18 pz0_19 pz0_22 pz0_23 pz0_29)), (z 3, aI V 900 f_44)] := ⟨_, rfl, ivU tf_34 _ bx_43, hP, hD⟩
    refine lv_aload_n hx hb dX10_feed_105 rfl (lv_at hl 2 rfl) ?_
    refine lv_dup hx hb dX10_feed_106 rfl ?_
    refine va_get (ci := 10) (v := .int x_35) (C := RX10) (T := TX10) (N := 40) hx hb hg inX10 hown hK hP 0 rfl rfl 5 (by decide) (hg _ q_5_229) (fun _ h9 => h9) rfl dX10_feed_107 ?_
    refine lv_iconst (v := 1) hx hb dX10_feed_110 (by decide) ?_
    refine lv_iadd hx hb dX10_feed_111 ?_
    refine lv_topi (fun x_45 ex_45 => ?_)
    have bx_45 : iv 5 885 x_45 := by rw [ex_45]; exact iv_add bx_35 (iv_c (1 : Int32) (a := 1) (b := 1) (by decide)) (by decide)
    refine va_put (ci := 10) (v := .int x_45) (ty := .int) (C := RX10) (T := TX10) (N := 40) hx hb hg inX10 tyX10 tyX10_ok nmX10 hown hK hP hD hS 0 rfl rfl 5 (by decide) (hg _ q_5_229) (fun _ h9 => h9) rfl (by decide +kernel) rfl rfl (Nat.le_of_ble_eq_true rfl) dX10_feed_112 (fun H locs hP hD hS => ?_)
    have hP : va_P V.1 vwCl [(z 0, .inr (10, mo z 0 x_45 pz0_6 pz0_7 pz0_8 pz0_9 pz0_10 pz0_11 pz0_12 pz0_13 pz0_14 pz0_18 pz0_19 pz0_22 pz0_23 pz0_29)), (z 3, aI V 900 f_44)] H := hP
    have hD := cpD hP hD
    refine lv_iinc (v := 5) (lv' := [(6, .int 5), (7, .int a2), (0, .ref (z 0)), (1, .int a1), (2, .int a2), (3, .int a3), (4, .int a4), (5, .int a5)]) hx hb dX10_feed_115 hl (k := 1) rfl (by decide +kernel) (by decide) rfl (fun ls hl => ?_)
    refine lv_goto (tgt := 24) hx hb dX10_feed_118 (by decide) ?_
    refine lv_iload hx hb dX10_feed_24 (lv_at hl 0 rfl) ?_
    refine lv_bipush (v := 20) hx hb dX10_feed_26 (by decide) ?_
    refine lv_icmp_ge (tgt := 121) hx hb dX10_feed_28 (by decide) (fun c_47 => absurd c_47 (by decide)) (fun _ => ?_)
    refine lv_iload hx hb dX10_feed_31 (lv_at hl 0 rfl) ?_
    refine lv_iconst (v := 4) hx hb dX10_feed_33 (by decide) ?_
    refine lv_icmp_ge (tgt := 41) hx hb dX10_feed_34 (by decide) (fun _ => ?_) (fun c_49 => absurd c_49 (by decide))
    refine lv_iload hx hb dX10_feed_41 (lv_at hl 0 rfl) ?_
    refine lv_bipush (v := 8) hx hb dX10_feed_43 (by decide) ?_
    refine lv_icmp_ge (tgt := 52) hx hb dX10_feed_45 (by decide) (fun c_51 => absurd c_51 (by decide)) (fun _ => ?_)
    refine lv_iload_n hx hb dX10_feed_48 rfl (lv_at hl 4 rfl) ?_
    refine lv_goto (tgt := 77) hx hb dX10_feed_49 (by decide) ?_
    refine lv_istore (lv' := [(7, .int a2), (6, .int 5), (0, .ref (z 0)), (1, .int a1), (2, .int a2), (3, .int a3), (4, .int a4), (5, .int a5)]) hx hb dX10_feed_77 hl (by decide) rfl (fun ls hl => ?_)
    refine lv_aload_n hx hb dX10_feed_79 rfl (lv_at hl 2 rfl) ?_
    refine va_get (ci := 10) (v := .ref (z 3)) (C := RX10) (T := TX10) (N := 40) hx hb hg inX10 hown hK hP 0 rfl rfl 3 (by decide) (hg _ q_5_227) (fun _ h9 => h9) rfl dX10_feed_80 ?_
    refine lv_aload_n hx hb dX10_feed_83 rfl (lv_at hl 2 rfl) ?_
    refine va_get (ci := 10) (v := .int x_45) (C := RX10) (T := TX10) (N := 40) hx hb hg inX10 hown hK hP 0 rfl rfl 5 (by decide) (hg _ q_5_229) (fun _ h9 => h9) rfl dX10_feed_84 ?_
    refine lv_iload hx hb dX10_feed_87 (lv_at hl 0 rfl) ?_
    refine lv_bipush (v := 24) hx hb dX10_feed_89 (by decide) ?_
    refine lv_bipush (v := 8) hx hb dX10_feed_91 (by decide) ?_
    refine lv_iload hx hb dX10_feed_93 (lv_at hl 1 rfl) ?_
    refine lv_iconst (v := 4) hx hb dX10_feed_95 (by decide) ?_
    refine lv_irem hx hb dX10_feed_96 (by decide) ?_
    refine tpi (y := 1) (by decide +kernel) ?_
    refine lv_imul hx hb dX10_feed_97 ?_
    refine tpi (y := 8) (by decide +kernel) ?_
    refine lv_isub hx hb dX10_feed_98 ?_
    refine tpi (y := 16) (by decide +kernel) ?_
    refine lv_ishr hx hb dX10_feed_99 ?_
    refine lv_topi (fun x_52 ex_52 => ?_)
    refine lv_sipush (v := 255) hx hb dX10_feed_100 (by decide) ?_
    refine lv_iand hx hb dX10_feed_103 ?_
    refine lv_topi (fun x_53 ex_53 => ?_)
    have bx_53 : iv 0 255 x_53 := by rw [ex_53]; exact iv_and255 _
    refine va_iast hx hb hK hP hD hS 1 0 rfl rfl (iv_in bx_45 (by decide)) dX10_feed_104 (fun H locs hP hD hS => ?_)
    obtain ⟨f_54, ef_54, tf_54, hP, hD⟩ : ∃ f_54 : Nat → Int32, f_54 = (upd f_44 (x_45 : Int32).toNatClampNeg x_53) ∧ (∀ j, iv 0 255 (f_54 j)) ∧ va_P V.1 vwCl [(z 0, .inr (10, mo z 0 x_45 pz0_6 pz0_7 pz0_8 pz0_9 pz0_10 pz0_11 pz0_12 pz0_13 pz0_14 pz0_18 pz0_19 pz0_22 pz0_23 pz0_29)), (z 3, aI V 900 f_54)] H ∧ va_D A [(z 0, .inr (10, mo z 0 x_45 pz0_6 pz0_7 pz0_8 pz0_9 pz0_10 pz0_11 pz0_12 pz0_13 pz0_14 pz0_18 pz0_19 pz0_22 pz0_23 pz0_29)), (z 3, aI V 900 f_54)] := ⟨_, rfl, ivU tf_44 _ bx_53, hP, hD⟩
    refine lv_aload_n hx hb dX10_feed_105 rfl (lv_at hl 2 rfl) ?_
    refine lv_dup hx hb dX10_feed_106 rfl ?_
    refine va_get (ci := 10) (v := .int x_45) (C := RX10) (T := TX10) (N := 40) hx hb hg inX10 hown hK hP 0 rfl rfl 5 (by decide) (hg _ q_5_229) (fun _ h9 => h9) rfl dX10_feed_107 ?_
    refine lv_iconst (v := 1) hx hb dX10_feed_110 (by decide) ?_
    refine lv_iadd hx hb dX10_feed_111 ?_
    refine lv_topi (fun x_55 ex_55 => ?_)
    have bx_55 : iv 6 886 x_55 := by rw [ex_55]; exact iv_add bx_45 (iv_c (1 : Int32) (a := 1) (b := 1) (by decide)) (by decide)
    refine va_put (ci := 10) (v := .int x_55) (ty := .int) (C := RX10) (T := TX10) (N := 40) hx hb hg inX10 tyX10 tyX10_ok nmX10 hown hK hP hD hS 0 rfl rfl 5 (by decide) (hg _ q_5_229) (fun _ h9 => h9) rfl (by decide +kernel) rfl rfl (Nat.le_of_ble_eq_true rfl) dX10_feed_112 (fun H locs hP hD hS => ?_)
    have hP : va_P V.1 vwCl [(z 0, .inr (10, mo z 0 x_55 pz0_6 pz0_7 pz0_8 pz0_9 pz0_10 pz0_11 pz0_12 pz0_13 pz0_14 pz0_18 pz0_19 pz0_22 pz0_23 pz0_29)), (z 3, aI V 900 f_54)] H := hP
    have hD := cpD hP hD
    refine lv_iinc (v := 6) (lv' := [(6, .int 6), (7, .int a2), (0, .ref (z 0)), (1, .int a1), (2, .int a2), (3, .int a3), (4, .int a4), (5, .int a5)]) hx hb dX10_feed_115 hl (k := 1) rfl (by decide +kernel) (by decide) rfl (fun ls hl => ?_)
    refine lv_goto (tgt := 24) hx hb dX10_feed_118 (by decide) ?_
    refine lv_iload hx hb dX10_feed_24 (lv_at hl 0 rfl) ?_
    refine lv_bipush (v := 20) hx hb dX10_feed_26 (by decide) ?_
    refine lv_icmp_ge (tgt := 121) hx hb dX10_feed_28 (by decide) (fun c_57 => absurd c_57 (by decide)) (fun _ => ?_)
    refine lv_iload hx hb dX10_feed_31 (lv_at hl 0 rfl) ?_
    refine lv_iconst (v := 4) hx hb dX10_feed_33 (by decide) ?_
    refine lv_icmp_ge (tgt := 41) hx hb dX10_feed_34 (by decide) (fun _ => ?_) (fun c_59 => absurd c_59 (by decide))
    refine lv_iload hx hb dX10_feed_41 (lv_at hl 0 rfl) ?_
    refine lv_bipush (v := 8) hx hb dX10_feed_43 (by decide) ?_
    refine lv_icmp_ge (tgt := 52) hx hb dX10_feed_45 (by decide) (fun c_61 => absurd c_61 (by decide)) (fun _ => ?_)
    refine lv_iload_n hx hb dX10_feed_48 rfl (lv_at hl 4 rfl) ?_
    refine lv_goto (tgt := 77) hx hb dX10_feed_49 (by decide) ?_
    refine lv_istore (lv' := [(7, .int a2), (6, .int 6), (0, .ref (z 0)), (1, .int a1), (2, .int a2), (3, .int a3), (4, .int a4), (5, .int a5)]) hx hb dX10_feed_77 hl (by decide) rfl (fun ls hl => ?_)
    refine lv_aload_n hx hb dX10_feed_79 rfl (lv_at hl 2 rfl) ?_
    refine va_get (ci := 10) (v := .ref (z 3)) (C := RX10) (T := TX10) (N := 40) hx hb hg inX10 hown hK hP 0 rfl rfl 3 (by decide) (hg _ q_5_227) (fun _ h9 => h9) rfl dX10_feed_80 ?_
    refine lv_aload_n hx hb dX10_feed_83 rfl (lv_at hl 2 rfl) ?_
    refine va_get (ci := 10) (v := .int x_55) (C := RX10) (T := TX10) (N := 40) hx hb hg inX10 hown hK hP 0 rfl rfl 5 (by decide) (hg _ q_5_229) (fun _ h9 => h9) rfl dX10_feed_84 ?_
    refine lv_iload hx hb dX10_feed_87 (lv_at hl 0 rfl) ?_
    refine lv_bipush (v := 24) hx hb dX10_feed_89 (by decide) ?_
    refine lv_bipush (v := 8) hx hb dX10_feed_91 (by decide) ?_
    refine lv_iload hx hb dX10_feed_93 (lv_at hl 1 rfl) ?_
    refine lv_iconst (v := 4) hx hb dX10_feed_95 (by decide) ?_
    refine lv_irem hx hb dX10_feed_96 (by decide) ?_
    refine tpi (y := 2) (by decide +kernel) ?_
    refine lv_imul hx hb dX10_feed_97 ?_
    refine tpi (y := 16) (by decide +kernel) ?_
    refine lv_isub hx hb dX10_feed_98 ?_
    refine tpi (y := 8) (by decide +kernel) ?_
    refine lv_ishr hx hb dX10_feed_99 ?_
    refine lv_topi (fun x_62 ex_62 => ?_)
    refine lv_sipush (v := 255) hx hb dX10_feed_100 (by decide) ?_
    refine lv_iand hx hb dX10_feed_103 ?_
    refine lv_topi (fun x_63 ex_63 => ?_)
    have bx_63 : iv 0 255 x_63 := by rw [ex_63]; exact iv_and255 _
    refine va_iast hx hb hK hP hD hS 1 0 rfl rfl (iv_in bx_55 (by decide)) dX10_feed_104 (fun H locs hP hD hS => ?_)
    obtain ⟨f_64, ef_64, tf_64, hP, hD⟩ : ∃ f_64 : Nat → Int32, f_64 = (upd f_54 (x_55 : Int32).toNatClampNeg x_63) ∧ (∀ j, iv 0 255 (f_64 j)) ∧ va_P V.1 vwCl [(z 0, .inr (10, mo z 0 x_55 pz0_6 pz0_7 pz0_8 pz0_9 pz0_10 pz0_11 pz0_12 pz0_13 pz0_14 pz0_18 pz0_19 pz0_22 pz0_23 pz0_29)), (z 3, aI V 900 f_64)] H ∧ va_D A [(z 0, .inr (10, mo z 0 x_55 pz0_6 pz0_7 pz0_8 pz0_9 pz0_10 pz0_11 pz0_12 pz0_13 pz0_14 pz0_18 pz0_19 pz0_22 pz0_23 pz0_29)), (z 3, aI V 900 f_64)] := ⟨_, rfl, ivU tf_54 _ bx_63, hP, hD⟩
    refine lv_aload_n hx hb dX10_feed_105 rfl (lv_at hl 2 rfl) ?_
    refine lv_dup hx hb dX10_feed_106 rfl ?_
    refine va_get (ci := 10) (v := .int x_55) (C := RX10) (T := TX10) (N := 40) hx hb hg inX10 hown hK hP 0 rfl rfl 5 (by decide) (hg _ q_5_229) (fun _ h9 => h9) rfl dX10_feed_107 ?_
    refine lv_iconst (v := 1) hx hb dX10_feed_110 (by decide) ?_
    refine lv_iadd hx hb dX10_feed_111 ?_
    refine lv_topi (fun x_65 ex_65 => ?_)
    have bx_65 : iv 7 887 x_65 := by rw [ex_65]; exact iv_add bx_55 (iv_c (1 : Int32) (a := 1) (b := 1) (by decide)) (by decide)
    refine va_put (ci := 10) (v := .int x_65) (ty := .int) (C := RX10) (T := TX10) (N := 40) hx hb hg inX10 tyX10 tyX10_ok nmX10 hown hK hP hD hS 0 rfl rfl 5 (by decide) (hg _ q_5_229) (fun _ h9 => h9) rfl (by decide +kernel) rfl rfl (Nat.le_of_ble_eq_true rfl) dX10_feed_112 (fun H locs hP hD hS => ?_)
    have hP : va_P V.1 vwCl [(z 0, .inr (10, mo z 0 x_65 pz0_6 pz0_7 pz0_8 pz0_9 pz0_10 pz0_11 pz0_12 pz0_13 pz0_14 pz0_18 pz0_19 pz0_22 pz0_23 pz0_29)), (z 3, aI V 900 f_64)] H := hP
    have hD := cpD hP hD
    refine lv_iinc (v := 7) (lv' := [(6, .int 7), (7, .int a2), (0, .ref (z 0)), (1, .int a1), (2, .int a2), (3, .int a3), (4, .int a4), (5, .int a5)]) hx hb dX10_feed_115 hl (k := 1) rfl (by decide +kernel) (by decide) rfl (fun ls hl => ?_)
    refine lv_goto (tgt := 24) hx hb dX10_feed_118 (by decide) ?_
    refine lv_iload hx hb dX10_feed_24 (lv_at hl 0 rfl) ?_
    refine lv_bipush (v := 20) hx hb dX10_feed_26 (by decide) ?_
    refine lv_icmp_ge (tgt := 121) hx hb dX10_feed_28 (by decide) (fun c_67 => absurd c_67 (by decide)) (fun _ => ?_)
    refine lv_iload hx hb dX10_feed_31 (lv_at hl 0 rfl) ?_
    refine lv_iconst (v := 4) hx hb dX10_feed_33 (by decide) ?_
    refine lv_icmp_ge (tgt := 41) hx hb dX10_feed_34 (by decide) (fun _ => ?_) (fun c_69 => absurd c_69 (by decide))
    refine lv_iload hx hb dX10_feed_41 (lv_at hl 0 rfl) ?_
    refine lv_bipush (v := 8) hx hb dX10_feed_43 (by decide) ?_
    refine lv_icmp_ge (tgt := 52) hx hb dX10_feed_45 (by decide) (fun c_71 => absurd c_71 (by decide)) (fun _ => ?_)
    refine lv_iload_n hx hb dX10_feed_48 rfl (lv_at hl 4 rfl) ?_
    refine lv_goto (tgt := 77) hx hb dX10_feed_49 (by decide) ?_
    refine lv_istore (lv' := [(7, .int a2), (6, .int 7), (0, .ref (z 0)), (1, .int a1), (2, .int a2), (3, .int a3), (4, .int a4), (5, .int a5)]) hx hb dX10_feed_77 hl (by decide) rfl (fun ls hl => ?_)
    refine lv_aload_n hx hb dX10_feed_79 rfl (lv_at hl 2 rfl) ?_
    refine va_get (ci := 10) (v := .ref (z 3)) (C := RX10) (T := TX10) (N := 40) hx hb hg inX10 hown hK hP 0 rfl rfl 3 (by decide) (hg _ q_5_227) (fun _ h9 => h9) rfl dX10_feed_80 ?_
    refine lv_aload_n hx hb dX10_feed_83 rfl (lv_at hl 2 rfl) ?_
    refine va_get (ci := 10) (v := .int x_65) (C := RX10) (T := TX10) (N := 40) hx hb hg inX10 hown hK hP 0 rfl rfl 5 (by decide) (hg _ q_5_229) (fun _ h9 => h9) rfl dX10_feed_84 ?_
    refine lv_iload hx hb dX10_feed_87 (lv_at hl 0 rfl) ?_
    refine lv_bipush (v := 24) hx hb dX10_feed_89 (by decide) ?_
    refine lv_bipush (v := 8) hx hb dX10_feed_91 (by decide) ?_
    refine lv_iload hx hb dX10_feed_93 (lv_at hl 1 rfl) ?_
    refine lv_iconst (v := 4) hx hb dX10_feed_95 (by decide) ?_
    refine lv_irem hx hb dX10_feed_96 (by decide) ?_
    refine tpi (y := 3) (by decide +kernel) ?_
    refine lv_imul hx hb dX10_feed_97 ?_
    refine tpi (y := 24) (by decide +kernel) ?_
    refine lv_isub hx hb dX10_feed_98 ?_
    refine tpi (y := 0) (by decide +kernel) ?_
    refine lv_ishr hx hb dX10_feed_99 ?_
    refine tpi (y := a2) (sb_shr0 _) ?_
    refine lv_sipush (v := 255) hx hb dX10_feed_100 (by decide) ?_
    refine lv_iand hx hb dX10_feed_103 ?_
    refine lv_topi (fun x_72 ex_72 => ?_)
    have bx_72 : iv 0 255 x_72 := by rw [ex_72]; exact iv_and255 _
    refine va_iast hx hb hK hP hD hS 1 0 rfl rfl (iv_in bx_65 (by decide)) dX10_feed_104 (fun H locs hP hD hS => ?_)
    obtain ⟨f_73, ef_73, tf_73, hP, hD⟩ : ∃ f_73 : Nat → Int32, f_73 = (upd f_64 (x_65 : Int32).toNatClampNeg x_72) ∧ (∀ j, iv 0 255 (f_73 j)) ∧ va_P V.1 vwCl [(z 0, .inr (10, mo z 0 x_65 pz0_6 pz0_7 pz0_8 pz0_9 pz0_10 pz0_11 pz0_12 pz0_13 pz0_14 pz0_18 pz0_19 pz0_22 pz0_23 pz0_29)), (z 3, aI V 900 f_73)] H ∧ va_D A [(z 0, .inr (10, mo z 0 x_65 pz0_6 pz0_7 pz0_8 pz0_9 pz0_10 pz0_11 pz0_12 pz0_13 pz0_14 pz0_18 pz0_19 pz0_22 pz0_23 pz0_29)), (z 3, aI V 900 f_73)] := ⟨_, rfl, ivU tf_64 _ bx_72, hP, hD⟩
    refine lv_aload_n hx hb dX10_feed_105 rfl (lv_at hl 2 rfl) ?_
    refine lv_dup hx hb dX10_feed_106 rfl ?_
    refine va_get (ci := 10) (v := .int x_65) (C := RX10) (T := TX10) (N := 40) hx hb hg inX10 hown hK hP 0 rfl rfl 5 (by decide) (hg _ q_5_229) (fun _ h9 => h9) rfl dX10_feed_107 ?_
    refine lv_iconst (v := 1) hx hb dX10_feed_110 (by decide) ?_
    refine lv_iadd hx hb dX10_feed_111 ?_
    refine lv_topi (fun x_74 ex_74 => ?_)
    have bx_74 : iv 8 888 x_74 := by rw [ex_74]; exact iv_add bx_65 (iv_c (1 : Int32) (a := 1) (b := 1) (by decide)) (by decide)
    refine va_put (ci := 10) (v := .int x_74) (ty := .int) (C := RX10) (T := TX10) (N := 40) hx hb hg inX10 tyX10 tyX10_ok nmX10 hown hK hP hD hS 0 rfl rfl 5 (by decide) (hg _ q_5_229) (fun _ h9 => h9) rfl (by decide +kernel) rfl rfl (Nat.le_of_ble_eq_true rfl) dX10_feed_112 (fun H locs hP hD hS => ?_)
    have hP : va_P V.1 vwCl [(z 0, .inr (10, mo z 0 x_74 pz0_6 pz0_7 pz0_8 pz0_9 pz0_10 pz0_11 pz0_12 pz0_13 pz0_14 pz0_18 pz0_19 pz0_22 pz0_23 pz0_29)), (z 3, aI V 900 f_73)] H := hP
    have hD := cpD hP hD
    refine lv_iinc (v := 8) (lv' := [(6, .int 8), (7, .int a2), (0, .ref (z 0)), (1, .int a1), (2, .int a2), (3, .int a3), (4, .int a4), (5, .int a5)]) hx hb dX10_feed_115 hl (k := 1) rfl (by decide +kernel) (by decide) rfl (fun ls hl => ?_)
    refine lv_goto (tgt := 24) hx hb dX10_feed_118 (by decide) ?_
    refine lv_iload hx hb dX10_feed_24 (lv_at hl 0 rfl) ?_
    refine lv_bipush (v := 20) hx hb dX10_feed_26 (by decide) ?_
    refine lv_icmp_ge (tgt := 121) hx hb dX10_feed_28 (by decide) (fun c_76 => absurd c_76 (by decide)) (fun _ => ?_)
    refine lv_iload hx hb dX10_feed_31 (lv_at hl 0 rfl) ?_
    refine lv_iconst (v := 4) hx hb dX10_feed_33 (by decide) ?_
    refine lv_icmp_ge (tgt := 41) hx hb dX10_feed_34 (by decide) (fun _ => ?_) (fun c_78 => absurd c_78 (by decide))
    refine lv_iload hx hb dX10_feed_41 (lv_at hl 0 rfl) ?_
    refine lv_bipush (v := 8) hx hb dX10_feed_43 (by decide) ?_
    refine lv_icmp_ge (tgt := 52) hx hb dX10_feed_45 (by decide) (fun _ => ?_) (fun c_80 => absurd c_80 (by decide))
    refine lv_iload hx hb dX10_feed_52 (lv_at hl 0 rfl) ?_
    refine lv_bipush (v := 12) hx hb dX10_feed_54 (by decide) ?_
    refine lv_icmp_ge (tgt := 63) hx hb dX10_feed_56 (by decide) (fun c_82 => absurd c_82 (by decide)) (fun _ => ?_)
    refine lv_iload_n hx hb dX10_feed_59 rfl (lv_at hl 5 rfl) ?_
    refine lv_goto (tgt := 77) hx hb dX10_feed_60 (by decide) ?_
    refine lv_istore (lv' := [(7, .int a3), (6, .int 8), (0, .ref (z 0)), (1, .int a1), (2, .int a2), (3, .int a3), (4, .int a4), (5, .int a5)]) hx hb dX10_feed_77 hl (by decide) rfl (fun ls hl => ?_)
    refine lv_aload_n hx hb dX10_feed_79 rfl (lv_at hl 2 rfl) ?_
    refine va_get (ci := 10) (v := .ref (z 3)) (C := RX10) (T := TX10) (N := 40) hx hb hg inX10 hown hK hP 0 rfl rfl 3 (by decide) (hg _ q_5_227) (fun _ h9 => h9) rfl dX10_feed_80 ?_
    refine lv_aload_n hx hb dX10_feed_83 rfl (lv_at hl 2 rfl) ?_
    refine va_get (ci := 10) (v := .int x_74) (C := RX10) (T := TX10) (N := 40) hx hb hg inX10 hown hK hP 0 rfl rfl 5 (by decide) (hg _ q_5_229) (fun _ h9 => h9) rfl dX10_feed_84 ?_
    refine lv_iload hx hb dX10_feed_87 (lv_at hl 0 rfl) ?_
    refine lv_bipush (v := 24) hx hb dX10_feed_89 (by decide) ?_
    refine lv_bipush (v := 8) hx hb dX10_feed_91 (by decide) ?_
    refine lv_iload hx hb dX10_feed_93 (lv_at hl 1 rfl) ?_
    refine lv_iconst (v := 4) hx hb dX10_feed_95 (by decide) ?_
    refine lv_irem hx hb dX10_feed_96 (by decide) ?_
    refine tpi (y := 0) (by decide +kernel) ?_
    refine lv_imul hx hb dX10_feed_97 ?_
    refine tpi (y := 0) (by decide +kernel) ?_
    refine lv_isub hx hb dX10_feed_98 ?_
    refine tpi (y := 24) (by decide +kernel) ?_
    refine lv_ishr hx hb dX10_feed_99 ?_
    refine lv_topi (fun x_83 ex_83 => ?_)
    refine lv_sipush (v := 255) hx hb dX10_feed_100 (by decide) ?_
    refine lv_iand hx hb dX10_feed_103 ?_
    refine lv_topi (fun x_84 ex_84 => ?_)
    have bx_84 : iv 0 255 x_84 := by rw [ex_84]; exact iv_and255 _
    refine va_iast hx hb hK hP hD hS 1 0 rfl rfl (iv_in bx_74 (by decide)) dX10_feed_104 (fun H locs hP hD hS => ?_)
    obtain ⟨f_85, ef_85, tf_85, hP, hD⟩ : ∃ f_85 : Nat → Int32, f_85 = (upd f_73 (x_74 : Int32).toNatClampNeg x_84) ∧ (∀ j, iv 0 255 (f_85 j)) ∧ va_P V.1 vwCl [(z 0, .inr (10, mo z 0 x_74 pz0_6 pz0_7 pz0_8 pz0_9 pz0_10 pz0_11 pz0_12 pz0_13 pz0_14 pz0_18 pz0_19 pz0_22 pz0_23 pz0_29)), (z 3, aI V 900 f_85)] H ∧ va_D A [(z 0, .inr (10, mo z 0 x_74 pz0_6 pz0_7 pz0_8 pz0_9 pz0_10 pz0_11 pz0_12 pz0_13 pz0_14 pz0_18 pz0_19 pz0_22 pz0_23 pz0_29)), (z 3, aI V 900 f_85)] := ⟨_, rfl, ivU tf_73 _ bx_84, hP, hD⟩
    refine lv_aload_n hx hb dX10_feed_105 rfl (lv_at hl 2 rfl) ?_
    refine lv_dup hx hb dX10_feed_106 rfl ?_
    refine va_get (ci := 10) (v := .int x_74) (C := RX10) (T := TX10) (N := 40) hx hb hg inX10 hown hK hP 0 rfl rfl 5 (by decide) (hg _ q_5_229) (fun _ h9 => h9) rfl dX10_feed_107 ?_
    refine lv_iconst (v := 1) hx hb dX10_feed_110 (by decide) ?_
    refine lv_iadd hx hb dX10_feed_111 ?_
    refine lv_topi (fun x_86 ex_86 => ?_)
    have bx_86 : iv 9 889 x_86 := by rw [ex_86]; exact iv_add bx_74 (iv_c (1 : Int32) (a := 1) (b := 1) (by decide)) (by decide)
    refine va_put (ci := 10) (v := .int x_86) (ty := .int) (C := RX10) (T := TX10) (N := 40) hx hb hg inX10 tyX10 tyX10_ok nmX10 hown hK hP hD hS 0 rfl rfl 5 (by decide) (hg _ q_5_229) (fun _ h9 => h9) rfl (by decide +kernel) rfl rfl (Nat.le_of_ble_eq_true rfl) dX10_feed_112 (fun H locs hP hD hS => ?_)
    have hP : va_P V.1 vwCl [(z 0, .inr (10, mo z 0 x_86 pz0_6 pz0_7 pz0_8 pz0_9 pz0_10 pz0_11 pz0_12 pz0_13 pz0_14 pz0_18 pz0_19 pz0_22 pz0_23 pz0_29)), (z 3, aI V 900 f_85)] H := hP
    have hD := cpD hP hD
    refine lv_iinc (v := 9) (lv' := [(6, .int 9), (7, .int a3), (0, .ref (z 0)), (1, .int a1), (2, .int a2), (3, .int a3), (4, .int a4), (5, .int a5)]) hx hb dX10_feed_115 hl (k := 1) rfl (by decide +kernel) (by decide) rfl (fun ls hl => ?_)
    refine lv_goto (tgt := 24) hx hb dX10_feed_118 (by decide) ?_
    refine lv_iload hx hb dX10_feed_24 (lv_at hl 0 rfl) ?_
    refine lv_bipush (v := 20) hx hb dX10_feed_26 (by decide) ?_
    refine lv_icmp_ge (tgt := 121) hx hb dX10_feed_28 (by decide) (fun c_88 => absurd c_88 (by decide)) (fun _ => ?_)
    refine lv_iload hx hb dX10_feed_31 (lv_at hl 0 rfl) ?_
    refine lv_iconst (v := 4) hx hb dX10_feed_33 (by decide) ?_
    refine lv_icmp_ge (tgt := 41) hx hb dX10_feed_34 (by decide) (fun _ => ?_) (fun c_90 => absurd c_90 (by decide))
    refine lv_iload hx hb dX10_feed_41 (lv_at hl 0 rfl) ?_
    refine lv_bipush (v := 8) hx hb dX10_feed_43 (by decide) ?_
    refine lv_icmp_ge (tgt := 52) hx hb dX10_feed_45 (by decide) (fun _ => ?_) (fun c_92 => absurd c_92 (by decide))
    refine lv_iload hx hb dX10_feed_52 (lv_at hl 0 rfl) ?_
    refine lv_bipush (v := 12) hx hb dX10_feed_54 (by decide) ?_
    refine lv_icmp_ge (tgt := 63) hx hb dX10_feed_56 (by decide) (fun c_94 => absurd c_94 (by decide)) (fun _ => ?_)
    refine lv_iload_n hx hb dX10_feed_59 rfl (lv_at hl 5 rfl) ?_
    refine lv_goto (tgt := 77) hx hb dX10_feed_60 (by decide) ?_
    refine lv_istore (lv' := [(7, .int a3), (6, .int 9), (0, .ref (z 0)), (1, .int a1), (2, .int a2), (3, .int a3), (4, .int a4), (5, .int a5)]) hx hb dX10_feed_77 hl (by decide) rfl (fun ls hl => ?_)
    refine lv_aload_n hx hb dX10_feed_79 rfl (lv_at hl 2 rfl) ?_
    refine va_get (ci := 10) (v := .ref (z 3)) (C := RX10) (T := TX10) (N := 40) hx hb hg inX10 hown hK hP 0 rfl rfl 3 (by decide) (hg _ q_5_227) (fun _ h9 => h9) rfl dX10_feed_80 ?_
    refine lv_aload_n hx hb dX10_feed_83 rfl (lv_at hl 2 rfl) ?_
    refine va_get (ci := 10) (v := .int x_86) (C := RX10) (T := TX10) (N := 40) hx hb hg inX10 hown hK hP 0 rfl rfl 5 (by decide) (hg _ q_5_229) (fun _ h9 => h9) rfl dX10_feed_84 ?_
    refine lv_iload hx hb dX10_feed_87 (lv_at hl 0 rfl) ?_
    refine lv_bipush (v := 24) hx hb dX10_feed_89 (by decide) ?_
    refine lv_bipush (v := 8) hx hb dX10_feed_91 (by decide) ?_
    refine lv_iload hx hb dX10_feed_93 (lv_at hl 1 rfl) ?_
    refine lv_iconst (v := 4) hx hb dX10_feed_95 (by decide) ?_
    refine lv_irem hx hb dX10_feed_96 (by decide) ?_
    refine tpi (y := 1) (by decide +kernel) ?_
    refine lv_imul hx hb dX10_feed_97 ?_
    refine tpi (y := 8) (by decide +kernel) ?_
    refine lv_isub hx hb dX10_feed_98 ?_
    refine tpi (y := 16) (by decide +kernel) ?_
    refine lv_ishr hx hb dX10_feed_99 ?_
    refine lv_topi (fun x_95 ex_95 => ?_)
    refine lv_sipush (v := 255) hx hb dX10_feed_100 (by decide) ?_
    refine lv_iand hx hb dX10_feed_103 ?_
    refine lv_topi (fun x_96 ex_96 => ?_)
    have bx_96 : iv 0 255 x_96 := by rw [ex_96]; exact iv_and255 _
    refine va_iast hx hb hK hP hD hS 1 0 rfl rfl (iv_in bx_86 (by decide)) dX10_feed_104 (fun H locs hP hD hS => ?_)
    obtain ⟨f_97, ef_97, tf_97, hP, hD⟩ : ∃ f_97 : Nat → Int32, f_97 = (upd f_85 (x_86 : Int32).toNatClampNeg x_96) ∧ (∀ j, iv 0 255 (f_97 j)) ∧ va_P V.1 vwCl [(z 0, .inr (10, mo z 0 x_86 pz0_6 pz0_7 pz0_8 pz0_9 pz0_10 pz0_11 pz0_12 pz0_13 pz0_14 pz0_18 pz0_19 pz0_22 pz0_23 pz0_29)), (z 3, aI V 900 f_97)] H ∧ va_D A [(z 0, .inr (10, mo z 0 x_86 pz0_6 pz0_7 pz0_8 pz0_9 pz0_10 pz0_11 pz0_12 pz0_13 pz0_14 pz0_18 pz0_19 pz0_22 pz0_23 pz0_29)), (z 3, aI V 900 f_97)] := ⟨_, rfl, ivU tf_85 _ bx_96, hP, hD⟩
    refine lv_aload_n hx hb dX10_feed_105 rfl (lv_at hl 2 rfl) ?_
    refine lv_dup hx hb dX10_feed_106 rfl ?_
    refine va_get (ci := 10) (v := .int x_86) (C := RX10) (T := TX10) (N := 40) hx hb hg inX10 hown hK hP 0 rfl rfl 5 (by decide) (hg _ q_5_229) (fun _ h9 => h9) rfl dX10_feed_107 ?_
    refine lv_iconst (v := 1) hx hb dX10_feed_110 (by decide) ?_
    refine lv_iadd hx hb dX10_feed_111 ?_
    refine lv_topi (fun x_98 ex_98 => ?_)
    have bx_98 : iv 10 890 x_98 := by rw [ex_98]; exact iv_add bx_86 (iv_c (1 : Int32) (a := 1) (b := 1) (by decide)) (by decide)
    refine va_put (ci := 10) (v := .int x_98) (ty := .int) (C := RX10) (T := TX10) (N := 40) hx hb hg inX10 tyX10 tyX10_ok nmX10 hown hK hP hD hS 0 rfl rfl 5 (by decide) (hg _ q_5_229) (fun _ h9 => h9) rfl (by decide +kernel) rfl rfl (Nat.le_of_ble_eq_true rfl) dX10_feed_112 (fun H locs hP hD hS => ?_)
    have hP : va_P V.1 vwCl [(z 0, .inr (10, mo z 0 x_98 pz0_6 pz0_7 pz0_8 pz0_9 pz0_10 pz0_11 pz0_12 pz0_13 pz0_14 pz0_18 pz0_19 pz0_22 pz0_23 pz0_29)), (z 3, aI V 900 f_97)] H := hP
    have hD := cpD hP hD
    refine lv_iinc (v := 10) (lv' := [(6, .int 10), (7, .int a3), (0, .ref (z 0)), (1, .int a1), (2, .int a2), (3, .int a3), (4, .int a4), (5, .int a5)]) hx hb dX10_feed_115 hl (k := 1) rfl (by decide +kernel) (by decide) rfl (fun ls hl => ?_)
    refine lv_goto (tgt := 24) hx hb dX10_feed_118 (by decide) ?_
    refine lv_iload hx hb dX10_feed_24 (lv_at hl 0 rfl) ?_
    refine lv_bipush (v := 20) hx hb dX10_feed_26 (by decide) ?_
    refine lv_icmp_ge (tgt := 121) hx hb dX10_feed_28 (by decide) (fun c_100 => absurd c_100 (by decide)) (fun _ => ?_)
    refine lv_iload hx hb dX10_feed_31 (lv_at hl 0 rfl) ?_
    refine lv_iconst (v := 4) hx hb dX10_feed_33 (by decide) ?_
    refine lv_icmp_ge (tgt := 41) hx hb dX10_feed_34 (by decide) (fun _ => ?_) (fun c_102 => absurd c_102 (by decide))
    refine lv_iload hx hb dX10_feed_41 (lv_at hl 0 rfl) ?_
    refine lv_bipush (v := 8) hx hb dX10_feed_43 (by decide) ?_
    refine lv_icmp_ge (tgt := 52) hx hb dX10_feed_45 (by decide) (fun _ => ?_) (fun c_104 => absurd c_104 (by decide))
    refine lv_iload hx hb dX10_feed_52 (lv_at hl 0 rfl) ?_
    refine lv_bipush (v := 12) hx hb dX10_feed_54 (by decide) ?_
    refine lv_icmp_ge (tgt := 63) hx hb dX10_feed_56 (by decide) (fun c_106 => absurd c_106 (by decide)) (fun _ => ?_)
    refine lv_iload_n hx hb dX10_feed_59 rfl (lv_at hl 5 rfl) ?_
    refine lv_goto (tgt := 77) hx hb dX10_feed_60 (by decide) ?_
    refine lv_istore (lv' := [(7, .int a3), (6, .int 10), (0, .ref (z 0)), (1, .int a1), (2, .int a2), (3, .int a3), (4, .int a4), (5, .int a5)]) hx hb dX10_feed_77 hl (by decide) rfl (fun ls hl => ?_)
    refine lv_aload_n hx hb dX10_feed_79 rfl (lv_at hl 2 rfl) ?_
    refine va_get (ci := 10) (v := .ref (z 3)) (C := RX10) (T := TX10) (N := 40) hx hb hg inX10 hown hK hP 0 rfl rfl 3 (by decide) (hg _ q_5_227) (fun _ h9 => h9) rfl dX10_feed_80 ?_
    refine lv_aload_n hx hb dX10_feed_83 rfl (lv_at hl 2 rfl) ?_
    refine va_get (ci := 10) (v := .int x_98) (C := RX10) (T := TX10) (N := 40) hx hb hg inX10 hown hK hP 0 rfl rfl 5 (by decide) (hg _ q_5_229) (fun _ h9 => h9) rfl dX10_feed_84 ?_
    refine lv_iload hx hb dX10_feed_87 (lv_at hl 0 rfl) ?_
    refine lv_bipush (v := 24) hx hb dX10_feed_89 (by decide) ?_
    refine lv_bipush (v := 8) hx hb dX10_feed_91 (by decide) ?_
    refine lv_iload hx hb dX10_feed_93 (lv_at hl 1 rfl) ?_
    refine lv_iconst (v := 4) hx hb dX10_feed_95 (by decide) ?_
    refine lv_irem hx hb dX10_feed_96 (by decide) ?_
    refine tpi (y := 2) (by decide +kernel) ?_
    refine lv_imul hx hb dX10_feed_97 ?_
    refine tpi (y := 16) (by decide +kernel) ?_
    refine lv_isub hx hb dX10_feed_98 ?_
    refine tpi (y := 8) (by decide +kernel) ?_
    refine lv_ishr hx hb dX10_feed_99 ?_
    refine lv_topi (fun x_107 ex_107 => ?_)
    refine lv_sipush (v := 255) hx hb dX10_feed_100 (by decide) ?_
    refine lv_iand hx hb dX10_feed_103 ?_
    refine lv_topi (fun x_108 ex_108 => ?_)
    have bx_108 : iv 0 255 x_108 := by rw [ex_108]; exact iv_and255 _
    refine va_iast hx hb hK hP hD hS 1 0 rfl rfl (iv_in bx_98 (by decide)) dX10_feed_104 (fun H locs hP hD hS => ?_)
    obtain ⟨f_109, ef_109, tf_109, hP, hD⟩ : ∃ f_109 : Nat → Int32, f_109 = (upd f_97 (x_98 : Int32).toNatClampNeg x_108) ∧ (∀ j, iv 0 255 (f_109 j)) ∧ va_P V.1 vwCl [(z 0, .inr (10, mo z 0 x_98 pz0_6 pz0_7 pz0_8 pz0_9 pz0_10 pz0_11 pz0_12 pz0_13 pz0_14 pz0_18 pz0_19 pz0_22 pz0_23 pz0_29)), (z 3, aI V 900 f_109)] H ∧ va_D A [(z 0, .inr (10, mo z 0 x_98 pz0_6 pz0_7 pz0_8 pz0_9 pz0_10 pz0_11 pz0_12 pz0_13 pz0_14 pz0_18 pz0_19 pz0_22 pz0_23 pz0_29)), (z 3, aI V 900 f_109)] := ⟨_, rfl, ivU tf_97 _ bx_108, hP, hD⟩
    refine lv_aload_n hx hb dX10_feed_105 rfl (lv_at hl 2 rfl) ?_
    refine lv_dup hx hb dX10_feed_106 rfl ?_
    refine va_get (ci := 10) (v := .int x_98) (C := RX10) (T := TX10) (N := 40) hx hb hg inX10 hown hK hP 0 rfl rfl 5 (by decide) (hg _ q_5_229) (fun _ h9 => h9) rfl dX10_feed_107 ?_
    refine lv_iconst (v := 1) hx hb dX10_feed_110 (by decide) ?_
    refine lv_iadd hx hb dX10_feed_111 ?_
    refine lv_topi (fun x_110 ex_110 => ?_)
    have bx_110 : iv 11 891 x_110 := by rw [ex_110]; exact iv_add bx_98 (iv_c (1 : Int32) (a := 1) (b := 1) (by decide)) (by decide)
    refine va_put (ci := 10) (v := .int x_110) (ty := .int) (C := RX10) (T := TX10) (N := 40) hx hb hg inX10 tyX10 tyX10_ok nmX10 hown hK hP hD hS 0 rfl rfl 5 (by decide) (hg _ q_5_229) (fun _ h9 => h9) rfl (by decide +kernel) rfl rfl (Nat.le_of_ble_eq_true rfl) dX10_feed_112 (fun H locs hP hD hS => ?_)
    have hP : va_P V.1 vwCl [(z 0, .inr (10, mo z 0 x_110 pz0_6 pz0_7 pz0_8 pz0_9 pz0_10 pz0_11 pz0_12 pz0_13 pz0_14 pz0_18 pz0_19 pz0_22 pz0_23 pz0_29)), (z 3, aI V 900 f_109)] H := hP
    have hD := cpD hP hD
    refine lv_iinc (v := 11) (lv' := [(6, .int 11), (7, .int a3), (0, .ref (z 0)), (1, .int a1), (2, .int a2), (3, .int a3), (4, .int a4), (5, .int a5)]) hx hb dX10_feed_115 hl (k := 1) rfl (by decide +kernel) (by decide) rfl (fun ls hl => ?_)
    refine lv_goto (tgt := 24) hx hb dX10_feed_118 (by decide) ?_
    refine lv_iload hx hb dX10_feed_24 (lv_at hl 0 rfl) ?_
    refine lv_bipush (v := 20) hx hb dX10_feed_26 (by decide) ?_
    refine lv_icmp_ge (tgt := 121) hx hb dX10_feed_28 (by decide) (fun c_112 => absurd c_112 (by decide)) (fun _ => ?_)
    refine lv_iload hx hb dX10_feed_31 (lv_at hl 0 rfl) ?_
    refine lv_iconst (v := 4) hx hb dX10_feed_33 (by decide) ?_
    refine lv_icmp_ge (tgt := 41) hx hb dX10_feed_34 (by decide) (fun _ => ?_) (fun c_114 => absurd c_114 (by decide))
    refine lv_iload hx hb dX10_feed_41 (lv_at hl 0 rfl) ?_
    refine lv_bipush (v := 8) hx hb dX10_feed_43 (by decide) ?_
    refine lv_icmp_ge (tgt := 52) hx hb dX10_feed_45 (by decide) (fun _ => ?_) (fun c_116 => absurd c_116 (by decide))
    refine lv_iload hx hb dX10_feed_52 (lv_at hl 0 rfl) ?_
    refine lv_bipush (v := 12) hx hb dX10_feed_54 (by decide) ?_
    refine lv_icmp_ge (tgt := 63) hx hb dX10_feed_56 (by decide) (fun c_118 => absurd c_118 (by decide)) (fun _ => ?_)
    refine lv_iload_n hx hb dX10_feed_59 rfl (lv_at hl 5 rfl) ?_
    refine lv_goto (tgt := 77) hx hb dX10_feed_60 (by decide) ?_
    refine lv_istore (lv' := [(7, .int a3), (6, .int 11), (0, .ref (z 0)), (1, .int a1), (2, .int a2), (3, .int a3), (4, .int a4), (5, .int a5)]) hx hb dX10_feed_77 hl (by decide) rfl (fun ls hl => ?_)
    refine lv_aload_n hx hb dX10_feed_79 rfl (lv_at hl 2 rfl) ?_
    refine va_get (ci := 10) (v := .ref (z 3)) (C := RX10) (T := TX10) (N := 40) hx hb hg inX10 hown hK hP 0 rfl rfl 3 (by decide) (hg _ q_5_227) (fun _ h9 => h9) rfl dX10_feed_80 ?_
    refine lv_aload_n hx hb dX10_feed_83 rfl (lv_at hl 2 rfl) ?_
    refine va_get (ci := 10) (v := .int x_110) (C := RX10) (T := TX10) (N := 40) hx hb hg inX10 hown hK hP 0 rfl rfl 5 (by decide) (hg _ q_5_229) (fun _ h9 => h9) rfl dX10_feed_84 ?_
    refine lv_iload hx hb dX10_feed_87 (lv_at hl 0 rfl) ?_
    refine lv_bipush (v := 24) hx hb dX10_feed_89 (by decide) ?_
    refine lv_bipush (v := 8) hx hb dX10_feed_91 (by decide) ?_
    refine lv_iload hx hb dX10_feed_93 (lv_at hl 1 rfl) ?_
    refine lv_iconst (v := 4) hx hb dX10_feed_95 (by decide) ?_
    refine lv_irem hx hb dX10_feed_96 (by decide) ?_
    refine tpi (y := 3) (by decide +kernel) ?_
    refine lv_imul hx hb dX10_feed_97 ?_
    refine tpi (y := 24) (by decide +kernel) ?_
    refine lv_isub hx hb dX10_feed_98 ?_
    refine tpi (y := 0) (by decide +kernel) ?_
    refine lv_ishr hx hb dX10_feed_99 ?_
    refine tpi (y := a3) (sb_shr0 _) ?_
    refine lv_sipush (v := 255) hx hb dX10_feed_100 (by decide) ?_
    refine lv_iand hx hb dX10_feed_103 ?_
    refine lv_topi (fun x_119 ex_119 => ?_)
    have bx_119 : iv 0 255 x_119 := by rw [ex_119]; exact iv_and255 _
    refine va_iast hx hb hK hP hD hS 1 0 rfl rfl (iv_in bx_110 (by decide)) dX10_feed_104 (fun H locs hP hD hS => ?_)
    obtain ⟨f_120, ef_120, tf_120, hP, hD⟩ : ∃ f_120 : Nat → Int32, f_120 = (upd f_109 (x_110 : Int32).toNatClampNeg x_119) ∧ (∀ j, iv 0 255 (f_120 j)) ∧ va_P V.1 vwCl [(z 0, .inr (10, mo z 0 x_110 pz0_6 pz0_7 pz0_8 pz0_9 pz0_10 pz0_11 pz0_12 pz0_13 pz0_14 pz0_18 pz0_19 pz0_22 pz0_23 pz0_29)), (z 3, aI V 900 f_120)] H ∧ va_D A [(z 0, .inr (10, mo z 0 x_110 pz0_6 pz0_7 pz0_8 pz0_9 pz0_10 pz0_11 pz0_12 pz0_13 pz0_14 pz0_18 pz0_19 pz0_22 pz0_23 pz0_29)), (z 3, aI V 900 f_120)] := ⟨_, rfl, ivU tf_109 _ bx_119, hP, hD⟩
    refine lv_aload_n hx hb dX10_feed_105 rfl (lv_at hl 2 rfl) ?_
    refine lv_dup hx hb dX10_feed_106 rfl ?_
    refine va_get (ci := 10) (v := .int x_110) (C := RX10) (T := TX10) (N := 40) hx hb hg inX10 hown hK hP 0 rfl rfl 5 (by decide) (hg _ q_5_229) (fun _ h9 => h9) rfl dX10_feed_107 ?_
    refine lv_iconst (v := 1) hx hb dX10_feed_110 (by decide) ?_
    refine lv_iadd hx hb dX10_feed_111 ?_
    refine lv_topi (fun x_121 ex_121 => ?_)
    have bx_121 : iv 12 892 x_121 := by rw [ex_121]; exact iv_add bx_110 (iv_c (1 : Int32) (a := 1) (b := 1) (by decide)) (by decide)
    refine va_put (ci := 10) (v := .int x_121) (ty := .int) (C := RX10) (T := TX10) (N := 40) hx hb hg inX10 tyX10 tyX10_ok nmX10 hown hK hP hD hS 0 rfl rfl 5 (by decide) (hg _ q_5_229) (fun _ h9 => h9) rfl (by decide +kernel) rfl rfl (Nat.le_of_ble_eq_true rfl) dX10_feed_112 (fun H locs hP hD hS => ?_)
    have hP : va_P V.1 vwCl [(z 0, .inr (10, mo z 0 x_121 pz0_6 pz0_7 pz0_8 pz0_9 pz0_10 pz0_11 pz0_12 pz0_13 pz0_14 pz0_18 pz0_19 pz0_22 pz0_23 pz0_29)), (z 3, aI V 900 f_120)] H := hP
    have hD := cpD hP hD
    refine lv_iinc (v := 12) (lv' := [(6, .int 12), (7, .int a3), (0, .ref (z 0)), (1, .int a1), (2, .int a2), (3, .int a3), (4, .int a4), (5, .int a5)]) hx hb dX10_feed_115 hl (k := 1) rfl (by decide +kernel) (by decide) rfl (fun ls hl => ?_)
    refine lv_goto (tgt := 24) hx hb dX10_feed_118 (by decide) ?_
    refine lv_iload hx hb dX10_feed_24 (lv_at hl 0 rfl) ?_
    refine lv_bipush (v := 20) hx hb dX10_feed_26 (by decide) ?_
    refine lv_icmp_ge (tgt := 121) hx hb dX10_feed_28 (by decide) (fun c_123 => absurd c_123 (by decide)) (fun _ => ?_)
    refine lv_iload hx hb dX10_feed_31 (lv_at hl 0 rfl) ?_
    refine lv_iconst (v := 4) hx hb dX10_feed_33 (by decide) ?_
    refine lv_icmp_ge (tgt := 41) hx hb dX10_feed_34 (by decide) (fun _ => ?_) (fun c_125 => absurd c_125 (by decide))
    refine lv_iload hx hb dX10_feed_41 (lv_at hl 0 rfl) ?_
    refine lv_bipush (v := 8) hx hb dX10_feed_43 (by decide) ?_
    refine lv_icmp_ge (tgt := 52) hx hb dX10_feed_45 (by decide) (fun _ => ?_) (fun c_127 => absurd c_127 (by decide))
    refine lv_iload hx hb dX10_feed_52 (lv_at hl 0 rfl) ?_
    refine lv_bipush (v := 12) hx hb dX10_feed_54 (by decide) ?_
    refine lv_icmp_ge (tgt := 63) hx hb dX10_feed_56 (by decide) (fun _ => ?_) (fun c_129 => absurd c_129 (by decide))
    refine lv_iload hx hb dX10_feed_63 (lv_at hl 0 rfl) ?_
    refine lv_bipush (v := 16) hx hb dX10_feed_65 (by decide) ?_
    refine lv_icmp_ge (tgt := 75) hx hb dX10_feed_67 (by decide) (fun c_131 => absurd c_131 (by decide)) (fun _ => ?_)
    refine lv_iload hx hb dX10_feed_70 (lv_at hl 6 rfl) ?_
    refine lv_goto (tgt := 77) hx hb dX10_feed_72 (by decide) ?_
    refine lv_istore (lv' := [(7, .int a4), (6, .int 12), (0, .ref (z 0)), (1, .int a1), (2, .int a2), (3, .int a3), (4, .int a4), (5, .int a5)]) hx hb dX10_feed_77 hl (by decide) rfl (fun ls hl => ?_)
    refine lv_aload_n hx hb dX10_feed_79 rfl (lv_at hl 2 rfl) ?_
    refine va_get (ci := 10) (v := .ref (z 3)) (C := RX10) (T := TX10) (N := 40) hx hb hg inX10 hown hK hP 0 rfl rfl 3 (by decide) (hg _ q_5_227) (fun _ h9 => h9) rfl dX10_feed_80 ?_
    refine lv_aload_n hx hb dX10_feed_83 rfl (lv_at hl 2 rfl) ?_
    refine va_get (ci := 10) (v := .int x_121) (C := RX10) (T := TX10) (N := 40) hx hb hg inX10 hown hK hP 0 rfl rfl 5 (by decide) (hg _ q_5_229) (fun _ h9 => h9) rfl dX10_feed_84 ?_
    refine lv_iload hx hb dX10_feed_87 (lv_at hl 0 rfl) ?_
    refine lv_bipush (v := 24) hx hb dX10_feed_89 (by decide) ?_
    refine lv_bipush (v := 8) hx hb dX10_feed_91 (by decide) ?_
    refine lv_iload hx hb dX10_feed_93 (lv_at hl 1 rfl) ?_
    refine lv_iconst (v := 4) hx hb dX10_feed_95 (by decide) ?_
    refine lv_irem hx hb dX10_feed_96 (by decide) ?_
    refine tpi (y := 0) (by decide +kernel) ?_
    refine lv_imul hx hb dX10_feed_97 ?_
    refine tpi (y := 0) (by decide +kernel) ?_
    refine lv_isub hx hb dX10_feed_98 ?_
    refine tpi (y := 24) (by decide +kernel) ?_
    refine lv_ishr hx hb dX10_feed_99 ?_
    refine lv_topi (fun x_132 ex_132 => ?_)
    refine lv_sipush (v := 255) hx hb dX10_feed_100 (by decide) ?_
    refine lv_iand hx hb dX10_feed_103 ?_
    refine lv_topi (fun x_133 ex_133 => ?_)
    have bx_133 : iv 0 255 x_133 := by rw [ex_133]; exact iv_and255 _
    refine va_iast hx hb hK hP hD hS 1 0 rfl rfl (iv_in bx_121 (by decide)) dX10_feed_104 (fun H locs hP hD hS => ?_)
    obtain ⟨f_134, ef_134, tf_134, hP, hD⟩ : ∃ f_134 : Nat → Int32, f_134 = (upd f_120 (x_121 : Int32).toNatClampNeg x_133) ∧ (∀ j, iv 0 255 (f_134 j)) ∧ va_P V.1 vwCl [(z 0, .inr (10, mo z 0 x_121 pz0_6 pz0_7 pz0_8 pz0_9 pz0_10 pz0_11 pz0_12 pz0_13 pz0_14 pz0_18 pz0_19 pz0_22 pz0_23 pz0_29)), (z 3, aI V 900 f_134)] H ∧ va_D A [(z 0, .inr (10, mo z 0 x_121 pz0_6 pz0_7 pz0_8 pz0_9 pz0_10 pz0_11 pz0_12 pz0_13 pz0_14 pz0_18 pz0_19 pz0_22 pz0_23 pz0_29)), (z 3, aI V 900 f_134)] := ⟨_, rfl, ivU tf_120 _ bx_133, hP, hD⟩
    refine lv_aload_n hx hb dX10_feed_105 rfl (lv_at hl 2 rfl) ?_
    refine lv_dup hx hb dX10_feed_106 rfl ?_
    refine va_get (ci := 10) (v := .int x_121) (C := RX10) (T := TX10) (N := 40) hx hb hg inX10 hown hK hP 0 rfl rfl 5 (by decide) (hg _ q_5_229) (fun _ h9 => h9) rfl dX10_feed_107 ?_
    refine lv_iconst (v := 1) hx hb dX10_feed_110 (by decide) ?_
    refine lv_iadd hx hb dX10_feed_111 ?_
    refine lv_topi (fun x_135 ex_135 => ?_)
    have bx_135 : iv 13 893 x_135 := by rw [ex_135]; exact iv_add bx_121 (iv_c (1 : Int32) (a := 1) (b := 1) (by decide)) (by decide)
    refine va_put (ci := 10) (v := .int x_135) (ty := .int) (C := RX10) (T := TX10) (N := 40) hx hb hg inX10 tyX10 tyX10_ok nmX10 hown hK hP hD hS 0 rfl rfl 5 (by decide) (hg _ q_5_229) (fun _ h9 => h9) rfl (by decide +kernel) rfl rfl (Nat.le_of_ble_eq_true rfl) dX10_feed_112 (fun H locs hP hD hS => ?_)
    have hP : va_P V.1 vwCl [(z 0, .inr (10, mo z 0 x_135 pz0_6 pz0_7 pz0_8 pz0_9 pz0_10 pz0_11 pz0_12 pz0_13 pz0_14 pz0_18 pz0_19 pz0_22 pz0_23 pz0_29)), (z 3, aI V 900 f_134)] H := hP
    have hD := cpD hP hD
    refine lv_iinc (v := 13) (lv' := [(6, .int 13), (7, .int a4), (0, .ref (z 0)), (1, .int a1), (2, .int a2), (3, .int a3), (4, .int a4), (5, .int a5)]) hx hb dX10_feed_115 hl (k := 1) rfl (by decide +kernel) (by decide) rfl (fun ls hl => ?_)
    refine lv_goto (tgt := 24) hx hb dX10_feed_118 (by decide) ?_
    refine lv_iload hx hb dX10_feed_24 (lv_at hl 0 rfl) ?_
    refine lv_bipush (v := 20) hx hb dX10_feed_26 (by decide) ?_
    refine lv_icmp_ge (tgt := 121) hx hb dX10_feed_28 (by decide) (fun c_137 => absurd c_137 (by decide)) (fun _ => ?_)
    refine lv_iload hx hb dX10_feed_31 (lv_at hl 0 rfl) ?_
    refine lv_iconst (v := 4) hx hb dX10_feed_33 (by decide) ?_
    refine lv_icmp_ge (tgt := 41) hx hb dX10_feed_34 (by decide) (fun _ => ?_) (fun c_139 => absurd c_139 (by decide))
    refine lv_iload hx hb dX10_feed_41 (lv_at hl 0 rfl) ?_
    refine lv_bipush (v := 8) hx hb dX10_feed_43 (by decide) ?_
    refine lv_icmp_ge (tgt := 52) hx hb dX10_feed_45 (by decide) (fun _ => ?_) (fun c_141 => absurd c_141 (by decide))
    refine lv_iload hx hb dX10_feed_52 (lv_at hl 0 rfl) ?_
    refine lv_bipush (v := 12) hx hb dX10_feed_54 (by decide) ?_
    refine lv_icmp_ge (tgt := 63) hx hb dX10_feed_56 (by decide) (fun _ => ?_) (fun c_143 => absurd c_143 (by decide))
    refine lv_iload hx hb dX10_feed_63 (lv_at hl 0 rfl) ?_
    refine lv_bipush (v := 16) hx hb dX10_feed_65 (by decide) ?_
    refine lv_icmp_ge (tgt := 75) hx hb dX10_feed_67 (by decide) (fun c_145 => absurd c_145 (by decide)) (fun _ => ?_)
    refine lv_iload hx hb dX10_feed_70 (lv_at hl 6 rfl) ?_
    refine lv_goto (tgt := 77) hx hb dX10_feed_72 (by decide) ?_
    refine lv_istore (lv' := [(7, .int a4), (6, .int 13), (0, .ref (z 0)), (1, .int a1), (2, .int a2), (3, .int a3), (4, .int a4), (5, .int a5)]) hx hb dX10_feed_77 hl (by decide) rfl (fun ls hl => ?_)
    refine lv_aload_n hx hb dX10_feed_79 rfl (lv_at hl 2 rfl) ?_
    refine va_get (ci := 10) (v := .ref (z 3)) (C := RX10) (T := TX10) (N := 40) hx hb hg inX10 hown hK hP 0 rfl rfl 3 (by decide) (hg _ q_5_227) (fun _ h9 => h9) rfl dX10_feed_80 ?_
    refine lv_aload_n hx hb dX10_feed_83 rfl (lv_at hl 2 rfl) ?_
    refine va_get (ci := 10) (v := .int x_135) (C := RX10) (T := TX10) (N := 40) hx hb hg inX10 hown hK hP 0 rfl rfl 5 (by decide) (hg _ q_5_229) (fun _ h9 => h9) rfl dX10_feed_84 ?_
    refine lv_iload hx hb dX10_feed_87 (lv_at hl 0 rfl) ?_
    refine lv_bipush (v := 24) hx hb dX10_feed_89 (by decide) ?_
    refine lv_bipush (v := 8) hx hb dX10_feed_91 (by decide) ?_
    refine lv_iload hx hb dX10_feed_93 (lv_at hl 1 rfl) ?_
    refine lv_iconst (v := 4) hx hb dX10_feed_95 (by decide) ?_
    refine lv_irem hx hb dX10_feed_96 (by decide) ?_
    refine tpi (y := 1) (by decide +kernel) ?_
    refine lv_imul hx hb dX10_feed_97 ?_
    refine tpi (y := 8) (by decide +kernel) ?_
    refine lv_isub hx hb dX10_feed_98 ?_
    refine tpi (y := 16) (by decide +kernel) ?_
    refine lv_ishr hx hb dX10_feed_99 ?_
    refine lv_topi (fun x_146 ex_146 => ?_)
    refine lv_sipush (v := 255) hx hb dX10_feed_100 (by decide) ?_
    refine lv_iand hx hb dX10_feed_103 ?_
    refine lv_topi (fun x_147 ex_147 => ?_)
    have bx_147 : iv 0 255 x_147 := by rw [ex_147]; exact iv_and255 _
    refine va_iast hx hb hK hP hD hS 1 0 rfl rfl (iv_in bx_135 (by decide)) dX10_feed_104 (fun H locs hP hD hS => ?_)
    obtain ⟨f_148, ef_148, tf_148, hP, hD⟩ : ∃ f_148 : Nat → Int32, f_148 = (upd f_134 (x_135 : Int32).toNatClampNeg x_147) ∧ (∀ j, iv 0 255 (f_148 j)) ∧ va_P V.1 vwCl [(z 0, .inr (10, mo z 0 x_135 pz0_6 pz0_7 pz0_8 pz0_9 pz0_10 pz0_11 pz0_12 pz0_13 pz0_14 pz0_18 pz0_19 pz0_22 pz0_23 pz0_29)), (z 3, aI V 900 f_148)] H ∧ va_D A [(z 0, .inr (10, mo z 0 x_135 pz0_6 pz0_7 pz0_8 pz0_9 pz0_10 pz0_11 pz0_12 pz0_13 pz0_14 pz0_18 pz0_19 pz0_22 pz0_23 pz0_29)), (z 3, aI V 900 f_148)] := ⟨_, rfl, ivU tf_134 _ bx_147, hP, hD⟩
    refine lv_aload_n hx hb dX10_feed_105 rfl (lv_at hl 2 rfl) ?_
    refine lv_dup hx hb dX10_feed_106 rfl ?_
    refine va_get (ci := 10) (v := .int x_135) (C := RX10) (T := TX10) (N := 40) hx hb hg inX10 hown hK hP 0 rfl rfl 5 (by decide) (hg _ q_5_229) (fun _ h9 => h9) rfl dX10_feed_107 ?_
    refine lv_iconst (v := 1) hx hb dX10_feed_110 (by decide) ?_
    refine lv_iadd hx hb dX10_feed_111 ?_
    refine lv_topi (fun x_149 ex_149 => ?_)
    have bx_149 : iv 14 894 x_149 := by rw [ex_149]; exact iv_add bx_135 (iv_c (1 : Int32) (a := 1) (b := 1) (by decide)) (by decide)
    refine va_put (ci := 10) (v := .int x_149) (ty := .int) (C := RX10) (T := TX10) (N := 40) hx hb hg inX10 tyX10 tyX10_ok nmX10 hown hK hP hD hS 0 rfl rfl 5 (by decide) (hg _ q_5_229) (fun _ h9 => h9) rfl (by decide +kernel) rfl rfl (Nat.le_of_ble_eq_true rfl) dX10_feed_112 (fun H locs hP hD hS => ?_)
    have hP : va_P V.1 vwCl [(z 0, .inr (10, mo z 0 x_149 pz0_6 pz0_7 pz0_8 pz0_9 pz0_10 pz0_11 pz0_12 pz0_13 pz0_14 pz0_18 pz0_19 pz0_22 pz0_23 pz0_29)), (z 3, aI V 900 f_148)] H := hP
    have hD := cpD hP hD
    refine lv_iinc (v := 14) (lv' := [(6, .int 14), (7, .int a4), (0, .ref (z 0)), (1, .int a1), (2, .int a2), (3, .int a3), (4, .int a4), (5, .int a5)]) hx hb dX10_feed_115 hl (k := 1) rfl (by decide +kernel) (by decide) rfl (fun ls hl => ?_)
    refine lv_goto (tgt := 24) hx hb dX10_feed_118 (by decide) ?_
    refine lv_iload hx hb dX10_feed_24 (lv_at hl 0 rfl) ?_
    refine lv_bipush (v := 20) hx hb dX10_feed_26 (by decide) ?_
    refine lv_icmp_ge (tgt := 121) hx hb dX10_feed_28 (by decide) (fun c_151 => absurd c_151 (by decide)) (fun _ => ?_)
    refine lv_iload hx hb dX10_feed_31 (lv_at hl 0 rfl) ?_
    refine lv_iconst (v := 4) hx hb dX10_feed_33 (by decide) ?_
    refine lv_icmp_ge (tgt := 41) hx hb dX10_feed_34 (by decide) (fun _ => ?_) (fun c_153 => absurd c_153 (by decide))
    refine lv_iload hx hb dX10_feed_41 (lv_at hl 0 rfl) ?_
    refine lv_bipush (v := 8) hx hb dX10_feed_43 (by decide) ?_
    refine lv_icmp_ge (tgt := 52) hx hb dX10_feed_45 (by decide) (fun _ => ?_) (fun c_155 => absurd c_155 (by decide))
    refine lv_iload hx hb dX10_feed_52 (lv_at hl 0 rfl) ?_
    refine lv_bipush (v := 12) hx hb dX10_feed_54 (by decide) ?_
    refine lv_icmp_ge (tgt := 63) hx hb dX10_feed_56 (by decide) (fun _ => ?_) (fun c_157 => absurd c_157 (by decide))
    refine lv_iload hx hb dX10_feed_63 (lv_at hl 0 rfl) ?_
    refine lv_bipush (v := 16) hx hb dX10_feed_65 (by decide) ?_
    refine lv_icmp_ge (tgt := 75) hx hb dX10_feed_67 (by decide) (fun c_159 => absurd c_159 (by decide)) (fun _ => ?_)
    refine lv_iload hx hb dX10_feed_70 (lv_at hl 6 rfl) ?_
    refine lv_goto (tgt := 77) hx hb dX10_feed_72 (by decide) ?_
    refine lv_istore (lv' := [(7, .int a4), (6, .int 14), (0, .ref (z 0)), (1, .int a1), (2, .int a2), (3, .int a3), (4, .int a4), (5, .int a5)]) hx hb dX10_feed_77 hl (by decide) rfl (fun ls hl => ?_)
    refine lv_aload_n hx hb dX10_feed_79 rfl (lv_at hl 2 rfl) ?_
    refine va_get (ci := 10) (v := .ref (z 3)) (C := RX10) (T := TX10) (N := 40) hx hb hg inX10 hown hK hP 0 rfl rfl 3 (by decide) (hg _ q_5_227) (fun _ h9 => h9) rfl dX10_feed_80 ?_
    refine lv_aload_n hx hb dX10_feed_83 rfl (lv_at hl 2 rfl) ?_
    refine va_get (ci := 10) (v := .int x_149) (C := RX10) (T := TX10) (N := 40) hx hb hg inX10 hown hK hP 0 rfl rfl 5 (by decide) (hg _ q_5_229) (fun _ h9 => h9) rfl dX10_feed_84 ?_
    refine lv_iload hx hb dX10_feed_87 (lv_at hl 0 rfl) ?_
    refine lv_bipush (v := 24) hx hb dX10_feed_89 (by decide) ?_
    refine lv_bipush (v := 8) hx hb dX10_feed_91 (by decide) ?_
    refine lv_iload hx hb dX10_feed_93 (lv_at hl 1 rfl) ?_
    refine lv_iconst (v := 4) hx hb dX10_feed_95 (by decide) ?_
    refine lv_irem hx hb dX10_feed_96 (by decide) ?_
    refine tpi (y := 2) (by decide +kernel) ?_
    refine lv_imul hx hb dX10_feed_97 ?_
    refine tpi (y := 16) (by decide +kernel) ?_
    refine lv_isub hx hb dX10_feed_98 ?_
    refine tpi (y := 8) (by decide +kernel) ?_
    refine lv_ishr hx hb dX10_feed_99 ?_
    refine lv_topi (fun x_160 ex_160 => ?_)
    refine lv_sipush (v := 255) hx hb dX10_feed_100 (by decide) ?_
    refine lv_iand hx hb dX10_feed_103 ?_
    refine lv_topi (fun x_161 ex_161 => ?_)
    have bx_161 : iv 0 255 x_161 := by rw [ex_161]; exact iv_and255 _
    refine va_iast hx hb hK hP hD hS 1 0 rfl rfl (iv_in bx_149 (by decide)) dX10_feed_104 (fun H locs hP hD hS => ?_)
    obtain ⟨f_162, ef_162, tf_162, hP, hD⟩ : ∃ f_162 : Nat → Int32, f_162 = (upd f_148 (x_149 : Int32).toNatClampNeg x_161) ∧ (∀ j, iv 0 255 (f_162 j)) ∧ va_P V.1 vwCl [(z 0, .inr (10, mo z 0 x_149 pz0_6 pz0_7 pz0_8 pz0_9 pz0_10 pz0_11 pz0_12 pz0_13 pz0_14 pz0_18 pz0_19 pz0_22 pz0_23 pz0_29)), (z 3, aI V 900 f_162)] H ∧ va_D A [(z 0, .inr (10, mo z 0 x_149 pz0_6 pz0_7 pz0_8 pz0_9 pz0_10 pz0_11 pz0_12 pz0_13 pz0_14 pz0_18 pz0_19 pz0_22 pz0_23 pz0_29)), (z 3, aI V 900 f_162)] := ⟨_, rfl, ivU tf_148 _ bx_161, hP, hD⟩
    refine lv_aload_n hx hb dX10_feed_105 rfl (lv_at hl 2 rfl) ?_
    refine lv_dup hx hb dX10_feed_106 rfl ?_
    refine va_get (ci := 10) (v := .int x_149) (C := RX10) (T := TX10) (N := 40) hx hb hg inX10 hown hK hP 0 rfl rfl 5 (by decide) (hg _ q_5_229) (fun _ h9 => h9) rfl dX10_feed_107 ?_
    refine lv_iconst (v := 1) hx hb dX10_feed_110 (by decide) ?_
    refine lv_iadd hx hb dX10_feed_111 ?_
    refine lv_topi (fun x_163 ex_163 => ?_)
    have bx_163 : iv 15 895 x_163 := by rw [ex_163]; exact iv_add bx_149 (iv_c (1 : Int32) (a := 1) (b := 1) (by decide)) (by decide)
    refine va_put (ci := 10) (v := .int x_163) (ty := .int) (C := RX10) (T := TX10) (N := 40) hx hb hg inX10 tyX10 tyX10_ok nmX10 hown hK hP hD hS 0 rfl rfl 5 (by decide) (hg _ q_5_229) (fun _ h9 => h9) rfl (by decide +kernel) rfl rfl (Nat.le_of_ble_eq_true rfl) dX10_feed_112 (fun H locs hP hD hS => ?_)
    have hP : va_P V.1 vwCl [(z 0, .inr (10, mo z 0 x_163 pz0_6 pz0_7 pz0_8 pz0_9 pz0_10 pz0_11 pz0_12 pz0_13 pz0_14 pz0_18 pz0_19 pz0_22 pz0_23 pz0_29)), (z 3, aI V 900 f_162)] H := hP
    have hD := cpD hP hD
    refine lv_iinc (v := 15) (lv' := [(6, .int 15), (7, .int a4), (0, .ref (z 0)), (1, .int a1), (2, .int a2), (3, .int a3), (4, .int a4), (5, .int a5)]) hx hb dX10_feed_115 hl (k := 1) rfl (by decide +kernel) (by decide) rfl (fun ls hl => ?_)
    refine lv_goto (tgt := 24) hx hb dX10_feed_118 (by decide) ?_
    refine lv_iload hx hb dX10_feed_24 (lv_at hl 0 rfl) ?_
    refine lv_bipush (v := 20) hx hb dX10_feed_26 (by decide) ?_
    refine lv_icmp_ge (tgt := 121) hx hb dX10_feed_28 (by decide) (fun c_165 => absurd c_165 (by decide)) (fun _ => ?_)
    refine lv_iload hx hb dX10_feed_31 (lv_at hl 0 rfl) ?_
    refine lv_iconst (v := 4) hx hb dX10_feed_33 (by decide) ?_
    refine lv_icmp_ge (tgt := 41) hx hb dX10_feed_34 (by decide) (fun _ => ?_) (fun c_167 => absurd c_167 (by decide))
    refine lv_iload hx hb dX10_feed_41 (lv_at hl 0 rfl) ?_
    refine lv_bipush (v := 8) hx hb dX10_feed_43 (by decide) ?_
    refine lv_icmp_ge (tgt := 52) hx hb dX10_feed_45 (by decide) (fun _ => ?_) (fun c_169 => absurd c_169 (by decide))
    refine lv_iload hx hb dX10_feed_52 (lv_at hl 0 rfl) ?_
    refine lv_bipush (v := 12) hx hb dX10_feed_54 (by decide) ?_
    refine lv_icmp_ge (tgt := 63) hx hb dX10_feed_56 (by decide) (fun _ => ?_) (fun c_171 => absurd c_171 (by decide))
    refine lv_iload hx hb dX10_feed_63 (lv_at hl 0 rfl) ?_
    refine lv_bipush (v := 16) hx hb dX10_feed_65 (by decide) ?_
    refine lv_icmp_ge (tgt := 75) hx hb dX10_feed_67 (by decide) (fun c_173 => absurd c_173 (by decide)) (fun _ => ?_)
    refine lv_iload hx hb dX10_feed_70 (lv_at hl 6 rfl) ?_
    refine lv_goto (tgt := 77) hx hb dX10_feed_72 (by decide) ?_
    refine lv_istore (lv' := [(7, .int a4), (6, .int 15), (0, .ref (z 0)), (1, .int a1), (2, .int a2), (3, .int a3), (4, .int a4), (5, .int a5)]) hx hb dX10_feed_77 hl (by decide) rfl (fun ls hl => ?_)
    refine lv_aload_n hx hb dX10_feed_79 rfl (lv_at hl 2 rfl) ?_
    refine va_get (ci := 10) (v := .ref (z 3)) (C := RX10) (T := TX10) (N := 40) hx hb hg inX10 hown hK hP 0 rfl rfl 3 (by decide) (hg _ q_5_227) (fun _ h9 => h9) rfl dX10_feed_80 ?_
    refine lv_aload_n hx hb dX10_feed_83 rfl (lv_at hl 2 rfl) ?_
    refine va_get (ci := 10) (v := .int x_163) (C := RX10) (T := TX10) (N := 40) hx hb hg inX10 hown hK hP 0 rfl rfl 5 (by decide) (hg _ q_5_229) (fun _ h9 => h9) rfl dX10_feed_84 ?_
    refine lv_iload hx hb dX10_feed_87 (lv_at hl 0 rfl) ?_
    refine lv_bipush (v := 24) hx hb dX10_feed_89 (by decide) ?_
    refine lv_bipush (v := 8) hx hb dX10_feed_91 (by decide) ?_
    refine lv_iload hx hb dX10_feed_93 (lv_at hl 1 rfl) ?_
    refine lv_iconst (v := 4) hx hb dX10_feed_95 (by decide) ?_
    refine lv_irem hx hb dX10_feed_96 (by decide) ?_
    refine tpi (y := 3) (by decide +kernel) ?_
    refine lv_imul hx hb dX10_feed_97 ?_
    refine tpi (y := 24) (by decide +kernel) ?_
    refine lv_isub hx hb dX10_feed_98 ?_
    refine tpi (y := 0) (by decide +kernel) ?_
    refine lv_ishr hx hb dX10_feed_99 ?_
    refine tpi (y := a4) (sb_shr0 _) ?_
    refine lv_sipush (v := 255) hx hb dX10_feed_100 (by decide) ?_
    refine lv_iand hx hb dX10_feed_103 ?_
    refine lv_topi (fun x_174 ex_174 => ?_)
    have bx_174 : iv 0 255 x_174 := by rw [ex_174]; exact iv_and255 _
    refine va_iast hx hb hK hP hD hS 1 0 rfl rfl (iv_in bx_163 (by decide)) dX10_feed_104 (fun H locs hP hD hS => ?_)
    obtain ⟨f_175, ef_175, tf_175, hP, hD⟩ : ∃ f_175 : Nat → Int32, f_175 = (upd f_162 (x_163 : Int32).toNatClampNeg x_174) ∧ (∀ j, iv 0 255 (f_175 j)) ∧ va_P V.1 vwCl [(z 0, .inr (10, mo z 0 x_163 pz0_6 pz0_7 pz0_8 pz0_9 pz0_10 pz0_11 pz0_12 pz0_13 pz0_14 pz0_18 pz0_19 pz0_22 pz0_23 pz0_29)), (z 3, aI V 900 f_175)] H ∧ va_D A [(z 0, .inr (10, mo z 0 x_163 pz0_6 pz0_7 pz0_8 pz0_9 pz0_10 pz0_11 pz0_12 pz0_13 pz0_14 pz0_18 pz0_19 pz0_22 pz0_23 pz0_29)), (z 3, aI V 900 f_175)] := ⟨_, rfl, ivU tf_162 _ bx_174, hP, hD⟩
    refine lv_aload_n hx hb dX10_feed_105 rfl (lv_at hl 2 rfl) ?_
    refine lv_dup hx hb dX10_feed_106 rfl ?_
    refine va_get (ci := 10) (v := .int x_163) (C := RX10) (T := TX10) (N := 40) hx hb hg inX10 hown hK hP 0 rfl rfl 5 (by decide) (hg _ q_5_229) (fun _ h9 => h9) rfl dX10_feed_107 ?_
    refine lv_iconst (v := 1) hx hb dX10_feed_110 (by decide) ?_
    refine lv_iadd hx hb dX10_feed_111 ?_
    refine lv_topi (fun x_176 ex_176 => ?_)
    have bx_176 : iv 16 896 x_176 := by rw [ex_176]; exact iv_add bx_163 (iv_c (1 : Int32) (a := 1) (b := 1) (by decide)) (by decide)
    refine va_put (ci := 10) (v := .int x_176) (ty := .int) (C := RX10) (T := TX10) (N := 40) hx hb hg inX10 tyX10 tyX10_ok nmX10 hown hK hP hD hS 0 rfl rfl 5 (by decide) (hg _ q_5_229) (fun _ h9 => h9) rfl (by decide +kernel) rfl rfl (Nat.le_of_ble_eq_true rfl) dX10_feed_112 (fun H locs hP hD hS => ?_)
    have hP : va_P V.1 vwCl [(z 0, .inr (10, mo z 0 x_176 pz0_6 pz0_7 pz0_8 pz0_9 pz0_10 pz0_11 pz0_12 pz0_13 pz0_14 pz0_18 pz0_19 pz0_22 pz0_23 pz0_29)), (z 3, aI V 900 f_175)] H := hP
    have hD := cpD hP hD
    refine lv_iinc (v := 16) (lv' := [(6, .int 16), (7, .int a4), (0, .ref (z 0)), (1, .int a1), (2, .int a2), (3, .int a3), (4, .int a4), (5, .int a5)]) hx hb dX10_feed_115 hl (k := 1) rfl (by decide +kernel) (by decide) rfl (fun ls hl => ?_)
    refine lv_goto (tgt := 24) hx hb dX10_feed_118 (by decide) ?_
    refine lv_iload hx hb dX10_feed_24 (lv_at hl 0 rfl) ?_
    refine lv_bipush (v := 20) hx hb dX10_feed_26 (by decide) ?_
    refine lv_icmp_ge (tgt := 121) hx hb dX10_feed_28 (by decide) (fun c_178 => absurd c_178 (by decide)) (fun _ => ?_)
    refine lv_iload hx hb dX10_feed_31 (lv_at hl 0 rfl) ?_
    refine lv_iconst (v := 4) hx hb dX10_feed_33 (by decide) ?_
    refine lv_icmp_ge (tgt := 41) hx hb dX10_feed_34 (by decide) (fun _ => ?_) (fun c_180 => absurd c_180 (by decide))
    refine lv_iload hx hb dX10_feed_41 (lv_at hl 0 rfl) ?_
    refine lv_bipush (v := 8) hx hb dX10_feed_43 (by decide) ?_
    refine lv_icmp_ge (tgt := 52) hx hb dX10_feed_45 (by decide) (fun _ => ?_) (fun c_182 => absurd c_182 (by decide))
    refine lv_iload hx hb dX10_feed_52 (lv_at hl 0 rfl) ?_
    refine lv_bipush (v := 12) hx hb dX10_feed_54 (by decide) ?_
    refine lv_icmp_ge (tgt := 63) hx hb dX10_feed_56 (by decide) (fun _ => ?_) (fun c_184 => absurd c_184 (by decide))
    refine lv_iload hx hb dX10_feed_63 (lv_at hl 0 rfl) ?_
    refine lv_bipush (v := 16) hx hb dX10_feed_65 (by decide) ?_
    refine lv_icmp_ge (tgt := 75) hx hb dX10_feed_67 (by decide) (fun _ => ?_) (fun c_186 => absurd c_186 (by decide))
    refine lv_iload hx hb dX10_feed_75 (lv_at hl 7 rfl) ?_
    refine lv_istore (lv' := [(7, .int a5), (6, .int 16), (0, .ref (z 0)), (1, .int a1), (2, .int a2), (3, .int a3), (4, .int a4), (5, .int a5)]) hx hb dX10_feed_77 hl (by decide) rfl (fun ls hl => ?_)
    refine lv_aload_n hx hb dX10_feed_79 rfl (lv_at hl 2 rfl) ?_
    refine va_get (ci := 10) (v := .ref (z 3)) (C := RX10) (T := TX10) (N := 40) hx hb hg inX10 hown hK hP 0 rfl rfl 3 (by decide) (hg _ q_5_227) (fun _ h9 => h9) rfl dX10_feed_80 ?_
    refine lv_aload_n hx hb dX10_feed_83 rfl (lv_at hl 2 rfl) ?_
    refine va_get (ci := 10) (v := .int x_176) (C := RX10) (T := TX10) (N := 40) hx hb hg inX10 hown hK hP 0 rfl rfl 5 (by decide) (hg _ q_5_229) (fun _ h9 => h9) rfl dX10_feed_84 ?_
    refine lv_iload hx hb dX10_feed_87 (lv_at hl 0 rfl) ?_
    refine lv_bipush (v := 24) hx hb dX10_feed_89 (by decide) ?_
    refine lv_bipush (v := 8) hx hb dX10_feed_91 (by decide) ?_
    refine lv_iload hx hb dX10_feed_93 (lv_at hl 1 rfl) ?_
    refine lv_iconst (v := 4) hx hb dX10_feed_95 (by decide) ?_
    refine lv_irem hx hb dX10_feed_96 (by decide) ?_
    refine tpi (y := 0) (by decide +kernel) ?_
    refine lv_imul hx hb dX10_feed_97 ?_
    refine tpi (y := 0) (by decide +kernel) ?_
    refine lv_isub hx hb dX10_feed_98 ?_
    refine tpi (y := 24) (by decide +kernel) ?_
    refine lv_ishr hx hb dX10_feed_99 ?_
    refine lv_topi (fun x_187 ex_187 => ?_)
    refine lv_sipush (v := 255) hx hb dX10_feed_100 (by decide) ?_
    refine lv_iand hx hb dX10_feed_103 ?_
    refine lv_topi (fun x_188 ex_188 => ?_)
    have bx_188 : iv 0 255 x_188 := by rw [ex_188]; exact iv_and255 _
    refine va_iast hx hb hK hP hD hS 1 0 rfl rfl (iv_in bx_176 (by decide)) dX10_feed_104 (fun H locs hP hD hS => ?_)
    obtain ⟨f_189, ef_189, tf_189, hP, hD⟩ : ∃ f_189 : Nat → Int32, f_189 = (upd f_175 (x_176 : Int32).toNatClampNeg x_188) ∧ (∀ j, iv 0 255 (f_189 j)) ∧ va_P V.1 vwCl [(z 0, .inr (10, mo z 0 x_176 pz0_6 pz0_7 pz0_8 pz0_9 pz0_10 pz0_11 pz0_12 pz0_13 pz0_14 pz0_18 pz0_19 pz0_22 pz0_23 pz0_29)), (z 3, aI V 900 f_189)] H ∧ va_D A [(z 0, .inr (10, mo z 0 x_176 pz0_6 pz0_7 pz0_8 pz0_9 pz0_10 pz0_11 pz0_12 pz0_13 pz0_14 pz0_18 pz0_19 pz0_22 pz0_23 pz0_29)), (z 3, aI V 900 f_189)] := ⟨_, rfl, ivU tf_175 _ bx_188, hP, hD⟩
    refine lv_aload_n hx hb dX10_feed_105 rfl (lv_at hl 2 rfl) ?_
    refine lv_dup hx hb dX10_feed_106 rfl ?_
    refine va_get (ci := 10) (v := .int x_176) (C := RX10) (T := TX10) (N := 40) hx hb hg inX10 hown hK hP 0 rfl rfl 5 (by decide) (hg _ q_5_229) (fun _ h9 => h9) rfl dX10_feed_107 ?_
    refine lv_iconst (v := 1) hx hb dX10_feed_110 (by decide) ?_
    refine lv_iadd hx hb dX10_feed_111 ?_
    refine lv_topi (fun x_190 ex_190 => ?_)
    have bx_190 : iv 17 897 x_190 := by rw [ex_190]; exact iv_add bx_176 (iv_c (1 : Int32) (a := 1) (b := 1) (by decide)) (by decide)
    refine va_put (ci := 10) (v := .int x_190) (ty := .int) (C := RX10) (T := TX10) (N := 40) hx hb hg inX10 tyX10 tyX10_ok nmX10 hown hK hP hD hS 0 rfl rfl 5 (by decide) (hg _ q_5_229) (fun _ h9 => h9) rfl (by decide +kernel) rfl rfl (Nat.le_of_ble_eq_true rfl) dX10_feed_112 (fun H locs hP hD hS => ?_)
    have hP : va_P V.1 vwCl [(z 0, .inr (10, mo z 0 x_190 pz0_6 pz0_7 pz0_8 pz0_9 pz0_10 pz0_11 pz0_12 pz0_13 pz0_14 pz0_18 pz0_19 pz0_22 pz0_23 pz0_29)), (z 3, aI V 900 f_189)] H := hP
    have hD := cpD hP hD
    refine lv_iinc (v := 17) (lv' := [(6, .int 17), (7, .int a5), (0, .ref (z 0)), (1, .int a1), (2, .int a2), (3, .int a3), (4, .int a4), (5, .int a5)]) hx hb dX10_feed_115 hl (k := 1) rfl (by decide +kernel) (by decide) rfl (fun ls hl => ?_)
    refine lv_goto (tgt := 24) hx hb dX10_feed_118 (by decide) ?_
    refine lv_iload hx hb dX10_feed_24 (lv_at hl 0 rfl) ?_
    refine lv_bipush (v := 20) hx hb dX10_feed_26 (by decide) ?_
    refine lv_icmp_ge (tgt := 121) hx hb dX10_feed_28 (by decide) (fun c_192 => absurd c_192 (by decide)) (fun _ => ?_)
    refine lv_iload hx hb dX10_feed_31 (lv_at hl 0 rfl) ?_
    refine lv_iconst (v := 4) hx hb dX10_feed_33 (by decide) ?_
    refine lv_icmp_ge (tgt := 41) hx hb dX10_feed_34 (by decide) (fun _ => ?_) (fun c_194 => absurd c_194 (by decide))
    refine lv_iload hx hb dX10_feed_41 (lv_at hl 0 rfl) ?_
    refine lv_bipush (v := 8) hx hb dX10_feed_43 (by decide) ?_
    refine lv_icmp_ge (tgt := 52) hx hb dX10_feed_45 (by decide) (fun _ => ?_) (fun c_196 => absurd c_196 (by decide))
    refine lv_iload hx hb dX10_feed_52 (lv_at hl 0 rfl) ?_
    refine lv_bipush (v := 12) hx hb dX10_feed_54 (by decide) ?_
    refine lv_icmp_ge (tgt := 63) hx hb dX10_feed_56 (by decide) (fun _ => ?_) (fun c_198 => absurd c_198 (by decide))
    refine lv_iload hx hb dX10_feed_63 (lv_at hl 0 rfl) ?_
    refine lv_bipush (v := 16) hx hb dX10_feed_65 (by decide) ?_
    refine lv_icmp_ge (tgt := 75) hx hb dX10_feed_67 (by decide) (fun _ => ?_) (fun c_200 => absurd c_200 (by decide))
    refine lv_iload hx hb dX10_feed_75 (lv_at hl 7 rfl) ?_
    refine lv_istore (lv' := [(7, .int a5), (6, .int 17), (0, .ref (z 0)), (1, .int a1), (2, .int a2), (3, .int a3), (4, .int a4), (5, .int a5)]) hx hb dX10_feed_77 hl (by decide) rfl (fun ls hl => ?_)
    refine lv_aload_n hx hb dX10_feed_79 rfl (lv_at hl 2 rfl) ?_
    refine va_get (ci := 10) (v := .ref (z 3)) (C := RX10) (T := TX10) (N := 40) hx hb hg inX10 hown hK hP 0 rfl rfl 3 (by decide) (hg _ q_5_227) (fun _ h9 => h9) rfl dX10_feed_80 ?_
    refine lv_aload_n hx hb dX10_feed_83 rfl (lv_at hl 2 rfl) ?_
    refine va_get (ci := 10) (v := .int x_190) (C := RX10) (T := TX10) (N := 40) hx hb hg inX10 hown hK hP 0 rfl rfl 5 (by decide) (hg _ q_5_229) (fun _ h9 => h9) rfl dX10_feed_84 ?_
    refine lv_iload hx hb dX10_feed_87 (lv_at hl 0 rfl) ?_
    refine lv_bipush (v := 24) hx hb dX10_feed_89 (by decide) ?_
    refine lv_bipush (v := 8) hx hb dX10_feed_91 (by decide) ?_
    refine lv_iload hx hb dX10_feed_93 (lv_at hl 1 rfl) ?_
    refine lv_iconst (v := 4) hx hb dX10_feed_95 (by decide) ?_
    refine lv_irem hx hb dX10_feed_96 (by decide) ?_
    refine tpi (y := 1) (by decide +kernel) ?_
    refine lv_imul hx hb dX10_feed_97 ?_
    refine tpi (y := 8) (by decide +kernel) ?_
    refine lv_isub hx hb dX10_feed_98 ?_
    refine tpi (y := 16) (by decide +kernel) ?_
    refine lv_ishr hx hb dX10_feed_99 ?_
    refine lv_topi (fun x_201 ex_201 => ?_)
    refine lv_sipush (v := 255) hx hb dX10_feed_100 (by decide) ?_
    refine lv_iand hx hb dX10_feed_103 ?_
    refine lv_topi (fun x_202 ex_202 => ?_)
    have bx_202 : iv 0 255 x_202 := by rw [ex_202]; exact iv_and255 _
    refine va_iast hx hb hK hP hD hS 1 0 rfl rfl (iv_in bx_190 (by decide)) dX10_feed_104 (fun H locs hP hD hS => ?_)
    obtain ⟨f_203, ef_203, tf_203, hP, hD⟩ : ∃ f_203 : Nat → Int32, f_203 = (upd f_189 (x_190 : Int32).toNatClampNeg x_202) ∧ (∀ j, iv 0 255 (f_203 j)) ∧ va_P V.1 vwCl [(z 0, .inr (10, mo z 0 x_190 pz0_6 pz0_7 pz0_8 pz0_9 pz0_10 pz0_11 pz0_12 pz0_13 pz0_14 pz0_18 pz0_19 pz0_22 pz0_23 pz0_29)), (z 3, aI V 900 f_203)] H ∧ va_D A [(z 0, .inr (10, mo z 0 x_190 pz0_6 pz0_7 pz0_8 pz0_9 pz0_10 pz0_11 pz0_12 pz0_13 pz0_14 pz0_18 pz0_19 pz0_22 pz0_23 pz0_29)), (z 3, aI V 900 f_203)] := ⟨_, rfl, ivU tf_189 _ bx_202, hP, hD⟩
    refine lv_aload_n hx hb dX10_feed_105 rfl (lv_at hl 2 rfl) ?_
    refine lv_dup hx hb dX10_feed_106 rfl ?_
    refine va_get (ci := 10) (v := .int x_190) (C := RX10) (T := TX10) (N := 40) hx hb hg inX10 hown hK hP 0 rfl rfl 5 (by decide) (hg _ q_5_229) (fun _ h9 => h9) rfl dX10_feed_107 ?_
    refine lv_iconst (v := 1) hx hb dX10_feed_110 (by decide) ?_
    refine lv_iadd hx hb dX10_feed_111 ?_
    refine lv_topi (fun x_204 ex_204 => ?_)
    have bx_204 : iv 18 898 x_204 := by rw [ex_204]; exact iv_add bx_190 (iv_c (1 : Int32) (a := 1) (b := 1) (by decide)) (by decide)
    refine va_put (ci := 10) (v := .int x_204) (ty := .int) (C := RX10) (T := TX10) (N := 40) hx hb hg inX10 tyX10 tyX10_ok nmX10 hown hK hP hD hS 0 rfl rfl 5 (by decide) (hg _ q_5_229) (fun _ h9 => h9) rfl (by decide +kernel) rfl rfl (Nat.le_of_ble_eq_true rfl) dX10_feed_112 (fun H locs hP hD hS => ?_)
    have hP : va_P V.1 vwCl [(z 0, .inr (10, mo z 0 x_204 pz0_6 pz0_7 pz0_8 pz0_9 pz0_10 pz0_11 pz0_12 pz0_13 pz0_14 pz0_18 pz0_19 pz0_22 pz0_23 pz0_29)), (z 3, aI V 900 f_203)] H := hP
    have hD := cpD hP hD
    refine lv_iinc (v := 18) (lv' := [(6, .int 18), (7, .int a5), (0, .ref (z 0)), (1, .int a1), (2, .int a2), (3, .int a3), (4, .int a4), (5, .int a5)]) hx hb dX10_feed_115 hl (k := 1) rfl (by decide +kernel) (by decide) rfl (fun ls hl => ?_)
    refine lv_goto (tgt := 24) hx hb dX10_feed_118 (by decide) ?_
    refine lv_iload hx hb dX10_feed_24 (lv_at hl 0 rfl) ?_
    refine lv_bipush (v := 20) hx hb dX10_feed_26 (by decide) ?_
    refine lv_icmp_ge (tgt := 121) hx hb dX10_feed_28 (by decide) (fun c_206 => absurd c_206 (by decide)) (fun _ => ?_)
    refine lv_iload hx hb dX10_feed_31 (lv_at hl 0 rfl) ?_
    refine lv_iconst (v := 4) hx hb dX10_feed_33 (by decide) ?_
    refine lv_icmp_ge (tgt := 41) hx hb dX10_feed_34 (by decide) (fun _ => ?_) (fun c_208 => absurd c_208 (by decide))
    refine lv_iload hx hb dX10_feed_41 (lv_at hl 0 rfl) ?_
    refine lv_bipush (v := 8) hx hb dX10_feed_43 (by decide) ?_
    refine lv_icmp_ge (tgt := 52) hx hb dX10_feed_45 (by decide) (fun _ => ?_) (fun c_210 => absurd c_210 (by decide))
    refine lv_iload hx hb dX10_feed_52 (lv_at hl 0 rfl) ?_
    refine lv_bipush (v := 12) hx hb dX10_feed_54 (by decide) ?_
    refine lv_icmp_ge (tgt := 63) hx hb dX10_feed_56 (by decide) (fun _ => ?_) (fun c_212 => absurd c_212 (by decide))
    refine lv_iload hx hb dX10_feed_63 (lv_at hl 0 rfl) ?_
    refine lv_bipush (v := 16) hx hb dX10_feed_65 (by decide) ?_
    refine lv_icmp_ge (tgt := 75) hx hb dX10_feed_67 (by decide) (fun _ => ?_) (fun c_214 => absurd c_214 (by decide))
    refine lv_iload hx hb dX10_feed_75 (lv_at hl 7 rfl) ?_
    refine lv_istore (lv' := [(7, .int a5), (6, .int 18), (0, .ref (z 0)), (1, .int a1), (2, .int a2), (3, .int a3), (4, .int a4), (5, .int a5)]) hx hb dX10_feed_77 hl (by decide) rfl (fun ls hl => ?_)
    refine lv_aload_n hx hb dX10_feed_79 rfl (lv_at hl 2 rfl) ?_
    refine va_get (ci := 10) (v := .ref (z 3)) (C := RX10) (T := TX10) (N := 40) hx hb hg inX10 hown hK hP 0 rfl rfl 3 (by decide) (hg _ q_5_227) (fun _ h9 => h9) rfl dX10_feed_80 ?_
    refine lv_aload_n hx hb dX10_feed_83 rfl (lv_at hl 2 rfl) ?_
    refine va_get (ci := 10) (v := .int x_204) (C := RX10) (T := TX10) (N := 40) hx hb hg inX10 hown hK hP 0 rfl rfl 5 (by decide) (hg _ q_5_229) (fun _ h9 => h9) rfl dX10_feed_84 ?_
    refine lv_iload hx hb dX10_feed_87 (lv_at hl 0 rfl) ?_
    refine lv_bipush (v := 24) hx hb dX10_feed_89 (by decide) ?_
    refine lv_bipush (v := 8) hx hb dX10_feed_91 (by decide) ?_
    refine lv_iload hx hb dX10_feed_93 (lv_at hl 1 rfl) ?_
    refine lv_iconst (v := 4) hx hb dX10_feed_95 (by decide) ?_
    refine lv_irem hx hb dX10_feed_96 (by decide) ?_
    refine tpi (y := 2) (by decide +kernel) ?_
    refine lv_imul hx hb dX10_feed_97 ?_
    refine tpi (y := 16) (by decide +kernel) ?_
    refine lv_isub hx hb dX10_feed_98 ?_
    refine tpi (y := 8) (by decide +kernel) ?_
    refine lv_ishr hx hb dX10_feed_99 ?_
    refine lv_topi (fun x_215 ex_215 => ?_)
    refine lv_sipush (v := 255) hx hb dX10_feed_100 (by decide) ?_
    refine lv_iand hx hb dX10_feed_103 ?_
    refine lv_topi (fun x_216 ex_216 => ?_)
    have bx_216 : iv 0 255 x_216 := by rw [ex_216]; exact iv_and255 _
    refine va_iast hx hb hK hP hD hS 1 0 rfl rfl (iv_in bx_204 (by decide)) dX10_feed_104 (fun H locs hP hD hS => ?_)
    obtain ⟨f_217, ef_217, tf_217, hP, hD⟩ : ∃ f_217 : Nat → Int32, f_217 = (upd f_203 (x_204 : Int32).toNatClampNeg x_216) ∧ (∀ j, iv 0 255 (f_217 j)) ∧ va_P V.1 vwCl [(z 0, .inr (10, mo z 0 x_204 pz0_6 pz0_7 pz0_8 pz0_9 pz0_10 pz0_11 pz0_12 pz0_13 pz0_14 pz0_18 pz0_19 pz0_22 pz0_23 pz0_29)), (z 3, aI V 900 f_217)] H ∧ va_D A [(z 0, .inr (10, mo z 0 x_204 pz0_6 pz0_7 pz0_8 pz0_9 pz0_10 pz0_11 pz0_12 pz0_13 pz0_14 pz0_18 pz0_19 pz0_22 pz0_23 pz0_29)), (z 3, aI V 900 f_217)] := ⟨_, rfl, ivU tf_203 _ bx_216, hP, hD⟩
    refine lv_aload_n hx hb dX10_feed_105 rfl (lv_at hl 2 rfl) ?_
    refine lv_dup hx hb dX10_feed_106 rfl ?_
    refine va_get (ci := 10) (v := .int x_204) (C := RX10) (T := TX10) (N := 40) hx hb hg inX10 hown hK hP 0 rfl rfl 5 (by decide) (hg _ q_5_229) (fun _ h9 => h9) rfl dX10_feed_107 ?_
    refine lv_iconst (v := 1) hx hb dX10_feed_110 (by decide) ?_
    refine lv_iadd hx hb dX10_feed_111 ?_
    refine lv_topi (fun x_218 ex_218 => ?_)
    have bx_218 : iv 19 899 x_218 := by rw [ex_218]; exact iv_add bx_204 (iv_c (1 : Int32) (a := 1) (b := 1) (by decide)) (by decide)
    refine va_put (ci := 10) (v := .int x_218) (ty := .int) (C := RX10) (T := TX10) (N := 40) hx hb hg inX10 tyX10 tyX10_ok nmX10 hown hK hP hD hS 0 rfl rfl 5 (by decide) (hg _ q_5_229) (fun _ h9 => h9) rfl (by decide +kernel) rfl rfl (Nat.le_of_ble_eq_true rfl) dX10_feed_112 (fun H locs hP hD hS => ?_)
    have hP : va_P V.1 vwCl [(z 0, .inr (10, mo z 0 x_218 pz0_6 pz0_7 pz0_8 pz0_9 pz0_10 pz0_11 pz0_12 pz0_13 pz0_14 pz0_18 pz0_19 pz0_22 pz0_23 pz0_29)), (z 3, aI V 900 f_217)] H := hP
    have hD := cpD hP hD
    refine lv_iinc (v := 19) (lv' := [(6, .int 19), (7, .int a5), (0, .ref (z 0)), (1, .int a1), (2, .int a2), (3, .int a3), (4, .int a4), (5, .int a5)]) hx hb dX10_feed_115 hl (k := 1) rfl (by decide +kernel) (by decide) rfl (fun ls hl => ?_)
    refine lv_goto (tgt := 24) hx hb dX10_feed_118 (by decide) ?_
    refine lv_iload hx hb dX10_feed_24 (lv_at hl 0 rfl) ?_
    refine lv_bipush (v := 20) hx hb dX10_feed_26 (by decide) ?_
    refine lv_icmp_ge (tgt := 121) hx hb dX10_feed_28 (by decide) (fun c_220 => absurd c_220 (by decide)) (fun _ => ?_)
    refine lv_iload hx hb dX10_feed_31 (lv_at hl 0 rfl) ?_
    refine lv_iconst (v := 4) hx hb dX10_feed_33 (by decide) ?_
    refine lv_icmp_ge (tgt := 41) hx hb dX10_feed_34 (by decide) (fun _ => ?_) (fun c_222 => absurd c_222 (by decide))
    refine lv_iload hx hb dX10_feed_41 (lv_at hl 0 rfl) ?_
    refine lv_bipush (v := 8) hx hb dX10_feed_43 (by decide) ?_
    refine lv_icmp_ge (tgt := 52) hx hb dX10_feed_45 (by decide) (fun _ => ?_) (fun c_224 => absurd c_224 (by decide))
    refine lv_iload hx hb dX10_feed_52 (lv_at hl 0 rfl) ?_
    refine lv_bipush (v := 12) hx hb dX10_feed_54 (by decide) ?_
    refine lv_icmp_ge (tgt := 63) hx hb dX10_feed_56 (by decide) (fun _ => ?_) (fun c_226 => absurd c_226 (by decide))
    refine lv_iload hx hb dX10_feed_63 (lv_at hl 0 rfl) ?_
    refine lv_bipush (v := 16) hx hb dX10_feed_65 (by decide) ?_
    refine lv_icmp_ge (tgt := 75) hx hb dX10_feed_67 (by decide) (fun _ => ?_) (fun c_228 => absurd c_228 (by decide))
    refine lv_iload hx hb dX10_feed_75 (lv_at hl 7 rfl) ?_
    refine lv_istore (lv' := [(7, .int a5), (6, .int 19), (0, .ref (z 0)), (1, .int a1), (2, .int a2), (3, .int a3), (4, .int a4), (5, .int a5)]) hx hb dX10_feed_77 hl (by decide) rfl (fun ls hl => ?_)
    refine lv_aload_n hx hb dX10_feed_79 rfl (lv_at hl 2 rfl) ?_
    refine va_get (ci := 10) (v := .ref (z 3)) (C := RX10) (T := TX10) (N := 40) hx hb hg inX10 hown hK hP 0 rfl rfl 3 (by decide) (hg _ q_5_227) (fun _ h9 => h9) rfl dX10_feed_80 ?_
    refine lv_aload_n hx hb dX10_feed_83 rfl (lv_at hl 2 rfl) ?_
    refine va_get (ci := 10) (v := .int x_218) (C := RX10) (T := TX10) (N := 40) hx hb hg inX10 hown hK hP 0 rfl rfl 5 (by decide) (hg _ q_5_229) (fun _ h9 => h9) rfl dX10_feed_84 ?_
    refine lv_iload hx hb dX10_feed_87 (lv_at hl 0 rfl) ?_
    refine lv_bipush (v := 24) hx hb dX10_feed_89 (by decide) ?_
    refine lv_bipush (v := 8) hx hb dX10_feed_91 (by decide) ?_
    refine lv_iload hx hb dX10_feed_93 (lv_at hl 1 rfl) ?_
    refine lv_iconst (v := 4) hx hb dX10_feed_95 (by decide) ?_
    refine lv_irem hx hb dX10_feed_96 (by decide) ?_
    refine tpi (y := 3) (by decide +kernel) ?_
    refine lv_imul hx hb dX10_feed_97 ?_
    refine tpi (y := 24) (by decide +kernel) ?_
    refine lv_isub hx hb dX10_feed_98 ?_
    refine tpi (y := 0) (by decide +kernel) ?_
    refine lv_ishr hx hb dX10_feed_99 ?_
    refine tpi (y := a5) (sb_shr0 _) ?_
    refine lv_sipush (v := 255) hx hb dX10_feed_100 (by decide) ?_
    refine lv_iand hx hb dX10_feed_103 ?_
    refine lv_topi (fun x_229 ex_229 => ?_)
    have bx_229 : iv 0 255 x_229 := by rw [ex_229]; exact iv_and255 _
    refine va_iast hx hb hK hP hD hS 1 0 rfl rfl (iv_in bx_218 (by decide)) dX10_feed_104 (fun H locs hP hD hS => ?_)
    obtain ⟨f_230, ef_230, tf_230, hP, hD⟩ : ∃ f_230 : Nat → Int32, f_230 = (upd f_217 (x_218 : Int32).toNatClampNeg x_229) ∧ (∀ j, iv 0 255 (f_230 j)) ∧ va_P V.1 vwCl [(z 0, .inr (10, mo z 0 x_218 pz0_6 pz0_7 pz0_8 pz0_9 pz0_10 pz0_11 pz0_12 pz0_13 pz0_14 pz0_18 pz0_19 pz0_22 pz0_23 pz0_29)), (z 3, aI V 900 f_230)] H ∧ va_D A [(z 0, .inr (10, mo z 0 x_218 pz0_6 pz0_7 pz0_8 pz0_9 pz0_10 pz0_11 pz0_12 pz0_13 pz0_14 pz0_18 pz0_19 pz0_22 pz0_23 pz0_29)), (z 3, aI V 900 f_230)] := ⟨_, rfl, ivU tf_217 _ bx_229, hP, hD⟩
    refine lv_aload_n hx hb dX10_feed_105 rfl (lv_at hl 2 rfl) ?_
    refine lv_dup hx hb dX10_feed_106 rfl ?_
    refine va_get (ci := 10) (v := .int x_218) (C := RX10) (T := TX10) (N := 40) hx hb hg inX10 hown hK hP 0 rfl rfl 5 (by decide) (hg _ q_5_229) (fun _ h9 => h9) rfl dX10_feed_107 ?_
    refine lv_iconst (v := 1) hx hb dX10_feed_110 (by decide) ?_
    refine lv_iadd hx hb dX10_feed_111 ?_
    refine lv_topi (fun x_231 ex_231 => ?_)
    have bx_231 : iv 20 900 x_231 := by rw [ex_231]; exact iv_add bx_218 (iv_c (1 : Int32) (a := 1) (b := 1) (by decide)) (by decide)
    refine va_put (ci := 10) (v := .int x_231) (ty := .int) (C := RX10) (T := TX10) (N := 40) hx hb hg inX10 tyX10 tyX10_ok nmX10 hown hK hP hD hS 0 rfl rfl 5 (by decide) (hg _ q_5_229) (fun _ h9 => h9) rfl (by decide +kernel) rfl rfl (Nat.le_of_ble_eq_true rfl) dX10_feed_112 (fun H locs hP hD hS => ?_)
    have hP : va_P V.1 vwCl [(z 0, .inr (10, mo z 0 x_231 pz0_6 pz0_7 pz0_8 pz0_9 pz0_10 pz0_11 pz0_12 pz0_13 pz0_14 pz0_18 pz0_19 pz0_22 pz0_23 pz0_29)), (z 3, aI V 900 f_230)] H := hP
    have hD := cpD hP hD
    refine lv_iinc (v := 20) (lv' := [(6, .int 20), (7, .int a5), (0, .ref (z 0)), (1, .int a1), (2, .int a2), (3, .int a3), (4, .int a4), (5, .int a5)]) hx hb dX10_feed_115 hl (k := 1) rfl (by decide +kernel) (by decide) rfl (fun ls hl => ?_)
    refine lv_goto (tgt := 24) hx hb dX10_feed_118 (by decide) ?_
    refine lv_iload hx hb dX10_feed_24 (lv_at hl 0 rfl) ?_
    refine lv_bipush (v := 20) hx hb dX10_feed_26 (by decide) ?_
    refine lv_icmp_ge (tgt := 121) hx hb dX10_feed_28 (by decide) (fun _ => ?_) (fun c_233 => absurd c_233 (by decide))
    refine lv_aload_n hx hb dX10_feed_121 rfl (lv_at hl 2 rfl) ?_
    refine va_get (ci := 10) (v := .int x_231) (C := RX10) (T := TX10) (N := 40) hx hb hg inX10 hown hK hP 0 rfl rfl 5 (by decide) (hg _ q_5_229) (fun _ h9 => h9) rfl dX10_feed_122 ?_
    exact fiI hx hb hr hlk hK hP hD hS dX10_feed_125 (Nat.le_of_ble_eq_true rfl) (Nat.le_of_ble_eq_true rfl) (⟨0, x_231, f_230, (iv_w bx_231 (by decide)), tf_230, (iv_w bx_231 (by decide)), (fe_1 (by have q_x_12 := toInt_add ex_12 b_4 (iv_c (1 : Int32) (a := 1) (b := 1) (by decide)) (by decide); have k_x_12 : (1 : Int32).toInt = 1 := (by decide); have q_x_20 := toInt_add ex_20 bx_12 (iv_c (1 : Int32) (a := 1) (b := 1) (by decide)) (by decide); have k_x_20 : (1 : Int32).toInt = 1 := (by decide); have q_x_28 := toInt_add ex_28 bx_20 (iv_c (1 : Int32) (a := 1) (b := 1) (by decide)) (by decide); have k_x_28 : (1 : Int32).toInt = 1 := (by decide); have q_x_35 := toInt_add ex_35 bx_28 (iv_c (1 : Int32) (a := 1) (b := 1) (by decide)) (by decide); have k_x_35 : (1 : Int32).toInt = 1 := (by decide); have q_x_45 := toInt_add ex_45 bx_35 (iv_c (1 : Int32) (a := 1) (b := 1) (by decide)) (by decide); have k_x_45 : (1 : Int32).toInt = 1 := (by decide); have q_x_55 := toInt_add ex_55 bx_45 (iv_c (1 : Int32) (a := 1) (b := 1) (by decide)) (by decide); have k_x_55 : (1 : Int32).toInt = 1 := (by decide); have q_x_65 := toInt_add ex_65 bx_55 (iv_c (1 : Int32) (a := 1) (b := 1) (by decide)) (by decide); have k_x_65 : (1 : Int32).toInt = 1 := (by decide); have q_x_74 := toInt_add ex_74 bx_65 (iv_c (1 : Int32) (a := 1) (b := 1) (by decide)) (by decide); have k_x_74 : (1 : Int32).toInt = 1 := (by decide); have q_x_86 := toInt_add ex_86 bx_74 (iv_c (1 : Int32) (a := 1) (b := 1) (by decide)) (by decide); have k_x_86 : (1 : Int32).toInt = 1 := (by decide); have q_x_98 := toInt_add ex_98 bx_86 (iv_c (1 : Int32) (a := 1) (b := 1) (by decide)) (by decide); have k_x_98 : (1 : Int32).toInt = 1 := (by decide); have q_x_110 := toInt_add ex_110 bx_98 (iv_c (1 : Int32) (a := 1) (b := 1) (by decide)) (by decide); have k_x_110 : (1 : Int32).toInt = 1 := (by decide); have q_x_121 := toInt_add ex_121 bx_110 (iv_c (1 : Int32) (a := 1) (b := 1) (by decide)) (by decide); have k_x_121 : (1 : Int32).toInt = 1 := (by decide); have q_x_135 := toInt_add ex_135 bx_121 (iv_c (1 : Int32) (a := 1) (b := 1) (by decide)) (by decide); have k_x_135 : (1 : Int32).toInt = 1 := (by decide); have q_x_149 := toInt_add ex_149 bx_135 (iv_c (1 : Int32) (a := 1) (b := 1) (by decide)) (by decide); have k_x_149 : (1 : Int32).toInt = 1 := (by decide); have q_x_163 := toInt_add ex_163 bx_149 (iv_c (1 : Int32) (a := 1) (b := 1) (by decide)) (by decide); have k_x_163 : (1 : Int32).toInt = 1 := (by decide); have q_x_176 := toInt_add ex_176 bx_163 (iv_c (1 : Int32) (a := 1) (b := 1) (by decide)) (by decide); have k_x_176 : (1 : Int32).toInt = 1 := (by decide); have q_x_190 := toInt_add ex_190 bx_176 (iv_c (1 : Int32) (a := 1) (b := 1) (by decide)) (by decide); have k_x_190 : (1 : Int32).toInt = 1 := (by decide); have q_x_204 := toInt_add ex_204 bx_190 (iv_c (1 : Int32) (a := 1) (b := 1) (by decide)) (by decide); have k_x_204 : (1 : Int32).toInt = 1 := (by decide); have q_x_218 := toInt_add ex_218 bx_204 (iv_c (1 : Int32) (a := 1) (b := 1) (by decide)) (by decide); have k_x_218 : (1 : Int32).toInt = 1 := (by decide); have q_x_231 := toInt_add ex_231 bx_218 (iv_c (1 : Int32) (a := 1) (b := 1) (by decide)) (by decide); have k_x_231 : (1 : Int32).toInt = 1 := (by decide); omega) (by have q_x_1 := toInt_add ex_1 b_4 (iv_c (20 : Int32) (a := 20) (b := 20) (by decide)) (by decide); have k_x_1 : (20 : Int32).toInt = 20 := (by decide); have z_0 := Int32.le_iff_toInt_le.mp c_2; have k_900 : (900 : Int32).toInt = 900 := (by decide); omega)), (fs_1 (by have q_x_12 := toInt_add ex_12 b_4 (iv_c (1 : Int32) (a := 1) (b := 1) (by decide)) (by decide); have k_x_12 : (1 : Int32).toInt = 1 := (by decide); have q_x_20 := toInt_add ex_20 bx_12 (iv_c (1 : Int32) (a := 1) (b := 1) (by decide)) (by decide); have k_x_20 : (1 : Int32).toInt = 1 := (by decide); have q_x_28 := toInt_add ex_28 bx_20 (iv_c (1 : Int32) (a := 1) (b := 1) (by decide)) (by decide); have k_x_28 : (1 : Int32).toInt = 1 := (by decide); have q_x_35 := toInt_add ex_35 bx_28 (iv_c (1 : Int32) (a := 1) (b := 1) (by decide)) (by decide); have k_x_35 : (1 : Int32).toInt = 1 := (by decide); have q_x_45 := toInt_add ex_45 bx_35 (iv_c (1 : Int32) (a := 1) (b := 1) (by decide)) (by decide); have k_x_45 : (1 : Int32).toInt = 1 := (by decide); have q_x_55 := toInt_add ex_55 bx_45 (iv_c (1 : Int32) (a := 1) (b := 1) (by decide)) (by decide); have k_x_55 : (1 : Int32).toInt = 1 := (by decide); have q_x_65 := toInt_add ex_65 bx_55 (iv_c (1 : Int32) (a := 1) (b := 1) (by decide)) (by decide); have k_x_65 : (1 : Int32).toInt = 1 := (by decide); have q_x_74 := toInt_add ex_74 bx_65 (iv_c (1 : Int32) (a := 1) (b := 1) (by decide)) (by decide); have k_x_74 : (1 : Int32).toInt = 1 := (by decide); have q_x_86 := toInt_add ex_86 bx_74 (iv_c (1 : Int32) (a := 1) (b := 1) (by decide)) (by decide); have k_x_86 : (1 : Int32).toInt = 1 := (by decide); have q_x_98 := toInt_add ex_98 bx_86 (iv_c (1 : Int32) (a := 1) (b := 1) (by decide)) (by decide); have k_x_98 : (1 : Int32).toInt = 1 := (by decide); have q_x_110 := toInt_add ex_110 bx_98 (iv_c (1 : Int32) (a := 1) (b := 1) (by decide)) (by decide); have k_x_110 : (1 : Int32).toInt = 1 := (by decide); have q_x_121 := toInt_add ex_121 bx_110 (iv_c (1 : Int32) (a := 1) (b := 1) (by decide)) (by decide); have k_x_121 : (1 : Int32).toInt = 1 := (by decide); have q_x_135 := toInt_add ex_135 bx_121 (iv_c (1 : Int32) (a := 1) (b := 1) (by decide)) (by decide); have k_x_135 : (1 : Int32).toInt = 1 := (by decide); have q_x_149 := toInt_add ex_149 bx_135 (iv_c (1 : Int32) (a := 1) (b := 1) (by decide)) (by decide); have k_x_149 : (1 : Int32).toInt = 1 := (by decide); have q_x_163 := toInt_add ex_163 bx_149 (iv_c (1 : Int32) (a := 1) (b := 1) (by decide)) (by decide); have k_x_163 : (1 : Int32).toInt = 1 := (by decide); have q_x_176 := toInt_add ex_176 bx_163 (iv_c (1 : Int32) (a := 1) (b := 1) (by decide)) (by decide); have k_x_176 : (1 : Int32).toInt = 1 := (by decide); have q_x_190 := toInt_add ex_190 bx_176 (iv_c (1 : Int32) (a := 1) (b := 1) (by decide)) (by decide); have k_x_190 : (1 : Int32).toInt = 1 := (by decide); have q_x_204 := toInt_add ex_204 bx_190 (iv_c (1 : Int32) (a := 1) (b := 1) (by decide)) (by decide); have k_x_204 : (1 : Int32).toInt = 1 := (by decide); have q_x_218 := toInt_add ex_218 bx_204 (iv_c (1 : Int32) (a := 1) (b := 1) (by decide)) (by decide); have k_x_218 : (1 : Int32).toInt = 1 := (by decide); have q_x_231 := toInt_add ex_231 bx_218 (iv_c (1 : Int32) (a := 1) (b := 1) (by decide)) (by decide); have k_x_231 : (1 : Int32).toInt = 1 := (by decide); omega) (by have q_x_1 := toInt_add ex_1 b_4 (iv_c (20 : Int32) (a := 20) (b := 20) (by decide)) (by decide); have k_x_1 : (20 : Int32).toInt = 20 := (by decide); have z_0 := Int32.le_iff_toInt_le.mp c_2; have k_900 : (900 : Int32).toInt = 900 := (by decide); omega)), (by unfold feZ; rw [if_neg (show ¬ 880 < (pz0_5 : Int32).toInt by have q_x_1 := toInt_add ex_1 b_4 (iv_c (20 : Int32) (a := 20) (b := 20) (by decide)) (by decide); have k_x_1 : (20 : Int32).toInt = 20 := (by decide); have z_0 := Int32.le_iff_toInt_le.mp c_2; have k_900 : (900 : Int32).toInt = 900 := (by decide); omega), ef_230, ef_217, ef_203, ef_189, ef_175, ef_162, ef_148, ef_134, ef_120, ef_109, ef_97, ef_85, ef_73, ef_64, ef_54, ef_44, ef_34, ef_27, ef_19, ef_11, ex_229, ex_216, ex_215, ex_202, ex_201, ex_188, ex_187, ex_174, ex_161, ex_160, ex_147, ex_146, ex_133, ex_132, ex_119, ex_108, ex_107, ex_96, ex_95, ex_84, ex_83, ex_72, ex_63, ex_62, ex_53, ex_52, ex_43, ex_42, ex_33, ex_26, ex_25, ex_18, ex_17, ex_10, ex_9, ex_218, ex_204, ex_190, ex_176, ex_163, ex_149, ex_135, ex_121, ex_110, ex_98, ex_86, ex_74, ex_65, ex_55, ex_45, ex_35, ex_28, ex_20, ex_12]; rfl), rfl⟩)
  · have b_234 : iv 901 920 x_1 := iv_l2 (Int32.not_le.mp c_2) (iv_c (900 : Int32) (a := 900) (b := 900) (by decide)) bx_1 (by decide)
    have b_235 : iv 881 900 pz0_5 := iv_addb ex_1 b_234 bpz0_5 (iv_c (20 : Int32) (a := 20) (b := 20) (by decide)) (by decide)
    refine lv_bipush (v := (-5)) hx hb dX10_feed_18 (by decide) ?_
    exact fiI hx hb hr hlk hK hP hD hS dX10_feed_20 (Nat.le_of_ble_eq_true rfl) (Nat.le_of_ble_eq_true rfl) (⟨0, pz0_5, fz3, (iv_w b_235 (by decide)), tfz3, (iv_c ((-5) : Int32) (by decide)), (fe_5 (by have q_x_1 := toInt_add ex_1 b_235 (iv_c (20 : Int32) (a := 20) (b := 20) (by decide)) (by decide); have k_x_1 : (20 : Int32).toInt = 20 := (by decide); have z_0 := Int32.lt_iff_toInt_lt.mp (Int32.not_le.mp c_2); have k_900 : (900 : Int32).toInt = 900 := (by decide); omega)), (fs_5 (by have q_x_1 := toInt_add ex_1 b_235 (iv_c (20 : Int32) (a := 20) (b := 20) (by decide)) (by decide); have k_x_1 : (20 : Int32).toInt = 20 := (by decide); have z_0 := Int32.lt_iff_toInt_lt.mp (Int32.not_le.mp c_2); have k_900 : (900 : Int32).toInt = 900 := (by decide); omega)), (by unfold feZ; rw [if_pos (show 880 < (pz0_5 : Int32).toInt by have q_x_1 := toInt_add ex_1 b_235 (iv_c (20 : Int32) (a := 20) (b := 20) (by decide)) (by decide); have k_x_1 : (20 : Int32).toInt = 20 := (by decide); have z_0 := Int32.lt_iff_toInt_lt.mp (Int32.not_le.mp c_2); have k_900 : (900 : Int32).toInt = 900 := (by decide); omega)]), rfl⟩)
theorem dX10_within_0 : decode cX10_within 0 = .ok (.lload_n 0, 1) := by decide +kernel
theorem dX10_within_1 : decode cX10_within 1 = .ok (.lload_n 2, 1) := by decide +kernel
theorem dX10_within_2 : decode cX10_within 2 = .ok (.lcmp, 1) := by decide +kernel
theorem dX10_within_3 : decode cX10_within 3 = .ok (.ifCond .lt 14, 3) := by decide +kernel
theorem dX10_within_17 : decode cX10_within 17 = .ok (.iconst 0, 1) := by decide +kernel
theorem dX10_within_18 : decode cX10_within 18 = .ok (.ireturn, 1) := by decide +kernel
theorem dX10_within_6 : decode cX10_within 6 = .ok (.lload_n 0, 1) := by decide +kernel
theorem dX10_within_7 : decode cX10_within 7 = .ok (.lload 4, 2) := by decide +kernel
theorem dX10_within_9 : decode cX10_within 9 = .ok (.lcmp, 1) := by decide +kernel
theorem dX10_within_10 : decode cX10_within 10 = .ok (.ifCond .gt 7, 3) := by decide +kernel
theorem dX10_within_13 : decode cX10_within 13 = .ok (.iconst 1, 1) := by decide +kernel
theorem dX10_within_14 : decode cX10_within 14 = .ok (.goto 4, 3) := by decide +kernel
set_option maxRecDepth 100000 in
noncomputable def F_k_X10_within_0 (k0 : Int64) (k1 : Int64) (k2 : Int64) : Int32 := if k0 < k1 then (((0 : Int32))) else (if k2 < k0 then (((0 : Int32))) else (((1 : Int32))))
set_option maxHeartbeats 4000000 in
set_option maxRecDepth 100000 in
theorem k_X10_within_0 (l : Launch) (V : GV) (k0 : Int64) (k1 : Int64) (k2 : Int64) : Ct l V yX10_within (.code yX10_within cX10_within 6 (some .boolean)) 1 [.long k0, .long k1, .long k2] [] 0 0 (QI V (fun (r : Int32) (w : va_W) => iv 0 1 r ∧ (r = 0 → ¬ (k1 ≤ k0 ∧ k0 ≤ k2)) ∧ (r = 1 → k1 ≤ k0) ∧ (r = 1 → k0 ≤ k2) ∧ r = (F_k_X10_within_0 k0 k1 k2) ∧ w = [])) := by
  refine Ct.of (by decide) (Nat.le_of_ble_eq_true rfl) (fun p e s m below meth c A ls hx hb hr hml hown hlk hnm hg hP hK hD hE hA hS hl => ?_)
  have hl : lv_has ls 6 [(0, .long k0), (2, .long k1), (4, .long k2)] := hl
  obtain ⟨T0, hT0⟩ : ∃ T9, T9 = F_k_X10_within_0 k0 k1 k2 := ⟨_, rfl⟩
  have hR := hT0.trans (F_k_X10_within_0.eq_1 ..)
  refine lv_lload_n hx hb dX10_within_0 rfl (lv_at hl 0 rfl) ?_
  refine lv_lload_n hx hb dX10_within_1 rfl (lv_at hl 1 rfl) ?_
  refine W.lcmp hx hb dX10_within_2 ?_
  refine lv_if_lt (tgt := 17) hx hb dX10_within_3 (by decide) (fun c_1 => ?_) (fun c_1 => ?_)
  · replace c_1 : k0 < k1 := (lg_cmp_lt _ _).mp c_1
    replace hR := ti hR c_1
    have b_2 : ivL (-9223372036854775808) 9223372036854775806 k0 := ivL_l1 c_1 (ivL_top k0) (ivL_top k1) (by decide)
    have b_3 : ivL (-9223372036854775807) 9223372036854775807 k1 := ivL_l2 c_1 (ivL_top k0) (ivL_top k1) (by decide)
    refine lv_iconst (v := 0) hx hb dX10_within_17 (by decide) ?_
    exact fiZ rfl hx hb hr hlk hK hP hD hS dX10_within_18 (Nat.le_of_ble_eq_true rfl) (Nat.le_of_ble_eq_true rfl) (⟨(iv_c (0 : Int32) (by decide)), (fun _ q9 => absurd q9.1 (Int64.not_le.mpr c_1)), (fun q9 => absurd q9 (by decide)), (fun q9 => absurd q9 (by decide)), (hR.symm.trans hT0), rfl⟩)
  · replace c_1 : ¬ k0 < k1 := fun z => c_1 ((lg_cmp_lt _ _).mpr z)
    replace hR := te hR c_1
    refine lv_lload_n hx hb dX10_within_6 rfl (lv_at hl 0 rfl) ?_
    refine lv_lload hx hb dX10_within_7 (lv_at hl 2 rfl) ?_
    refine W.lcmp hx hb dX10_within_9 ?_
    refine lv_if_gt (tgt := 17) hx hb dX10_within_10 (by decide) (fun c_4 => ?_) (fun c_4 => ?_)
    · replace c_4 : k2 < k0 := (lg_cmp_gt _ _).mp c_4
      replace hR := ti hR c_4
      have b_5 : ivL (-9223372036854775808) 9223372036854775806 k2 := ivL_l1 c_4 (ivL_top k2) (ivL_top k0) (by decide)
      have b_6 : ivL (-9223372036854775807) 9223372036854775807 k0 := ivL_l2 c_4 (ivL_top k2) (ivL_top k0) (by decide)
      refine lv_iconst (v := 0) hx hb dX10_within_17 (by decide) ?_
      exact fiZ rfl hx hb hr hlk hK hP hD hS dX10_within_18 (Nat.le_of_ble_eq_true rfl) (Nat.le_of_ble_eq_true rfl) (⟨(iv_c (0 : Int32) (by decide)), (fun _ q9 => absurd q9.2 (Int64.not_le.mpr c_4)), (fun q9 => absurd q9 (by decide)), (fun q9 => absurd q9 (by decide)), (hR.symm.trans hT0), rfl⟩)
    · replace c_4 : ¬ k2 < k0 := fun z => c_4 ((lg_cmp_gt _ _).mpr z)
      replace hR := te hR c_4
      refine lv_iconst (v := 1) hx hb dX10_within_13 (by decide) ?_
      refine lv_goto (tgt := 18) hx hb dX10_within_14 (by decide) ?_
      exact fiZ rfl hx hb hr hlk hK hP hD hS dX10_within_18 (Nat.le_of_ble_eq_true rfl) (Nat.le_of_ble_eq_true rfl) (⟨(iv_c (1 : Int32) (by decide)), (fun q9 => absurd q9 (by decide)), (fun _ => (Int64.not_lt.mp c_1)), (fun _ => (Int64.not_lt.mp c_4)), (hR.symm.trans hT0), rfl⟩)
theorem dX10_plain_0 : decode cX10_plain 0 = .ok (.iconst 0, 1) := by decide +kernel
theorem dX10_plain_1 : decode cX10_plain 1 = .ok (.istore_n 1, 1) := by decide +kernel
theorem dX10_plain_2 : decode cX10_plain 2 = .ok (.iload_n 1, 1) := by decide +kernel
theorem dX10_plain_3 : decode cX10_plain 3 = .ok (.sipush 1025, 3) := by decide +kernel
theorem dX10_plain_6 : decode cX10_plain 6 = .ok (.if_icmp .ge 13, 3) := by decide +kernel
theorem dX10_plain_19 : decode cX10_plain 19 = .ok (.return_, 1) := by decide +kernel
theorem dX10_plain_9 : decode cX10_plain 9 = .ok (.aload_n 0, 1) := by decide +kernel
theorem dX10_plain_10 : decode cX10_plain 10 = .ok (.iload_n 1, 1) := by decide +kernel
theorem dX10_plain_11 : decode cX10_plain 11 = .ok (.iconst 0, 1) := by decide +kernel
theorem dX10_plain_12 : decode cX10_plain 12 = .ok (.iastore, 1) := by decide +kernel
theorem dX10_plain_13 : decode cX10_plain 13 = .ok (.iinc 1 1, 3) := by decide +kernel
theorem dX10_plain_16 : decode cX10_plain 16 = .ok (.goto (-14), 3) := by decide +kernel
set_option maxHeartbeats 4000000 in
set_option maxRecDepth 100000 in
theorem k_X10_plain_0 (l : Launch) (V : GV) (z : Nat → Nat) (fz4 : Nat → Int32) (tfz4 : ivT tF fz4) : Ct l V yX10_plain (.code yX10_plain cX10_plain 2 none) 1 [.ref (z 4)] [(z 4, aI V 1025 fz4)] 0 0 (QV V (fun (w : va_W) => ∃ (g0 : Nat → Int32), (ivT tF g0) ∧ (∀ j : Nat, (j : Int) < (1025 : Int32).toInt → g0 j = 0) ∧ w = [(z 4, aI V 1025 g0)])) := by
  refine Ct.of (by decide) (Nat.le_of_ble_eq_true rfl) (fun p e s m below meth c A ls hx hb hr hml hown hlk hnm hg hP hK hD hE hA hS hl => ?_)
  have hl : lv_has ls 2 [(0, .ref (z 4))] := hl
  refine lv_iconst (v := 0) hx hb dX10_plain_0 (by decide) ?_
  refine lv_istore_n (lv' := [(1, .int 0), (0, .ref (z 4))]) hx hb dX10_plain_1 rfl hl (by decide) rfl (fun ls hl => ?_)
  refine loopF (X := fun (n_3 : Nat) (H : Heap) (locs : List Loc) (ls : Array Slot) => ∃ (u_1 : Int32) (f_2 : Nat → Int32), (iv 0 1025 u_1) ∧ (ivT tF f_2) ∧ (∀ j : Nat, (j : Int) < (u_1 : Int32).toInt → f_2 j = 0) ∧ n_3 = (2147483647 - (u_1 : Int32).toInt).toNat ∧ va_P V.1 vwCl [(z 4, aI V 1025 f_2)] H ∧ va_D A [(z 4, aI V 1025 f_2)] ∧ va_S A s.heap H locs ∧ lv_has ls 2 [(1, .int u_1), (0, .ref (z 4))]) (g := fun ls => F0 m 2 ls []) (fun n_3 H locs ls hX ihn_3 => ?_) _ ⟨0, fz4, (iv_c (0 : Int32) (by decide)), tfz4, (fun j hj => absurd hj (by have h9 : (0 : Int32).toInt = 0 := (by decide); omega)), rfl, hP, hD, hS, lv_sub hl [0, 1] rfl⟩
  obtain ⟨u_1, f_2, bu_1, tf_2, inn_3_0, en_3, hP, hD, hS, hl⟩ := hX
  refine lv_iload_n hx hb dX10_plain_2 rfl (lv_at hl 0 rfl) ?_
  refine lv_sipush (v := 1025) hx hb dX10_plain_3 (by decide) ?_
  refine lv_icmp_ge (tgt := 19) hx hb dX10_plain_6 (by decide) (fun c_4 => ?_) (fun c_4 => ?_)
  · have b_5 : iv 1025 1025 u_1 := iv_e2 c_4 (iv_c (1025 : Int32) (a := 1025) (b := 1025) (by decide)) bu_1 (by decide)
    exact fiV hx hb hr hlk hK hP hD hS dX10_plain_19 (Nat.le_of_ble_eq_true rfl) (Nat.le_of_ble_eq_true rfl) (⟨f_2, tf_2, (fun j hj => inn_3_0 j (by have q9 := (Int32.not_lt.mpr c_4); rw [Int32.lt_iff_toInt_lt] at q9; omega)), rfl⟩)
  · have b_6 : iv 0 1024 u_1 := iv_l1 (Int32.not_le.mp c_4) bu_1 (iv_c (1025 : Int32) (a := 1025) (b := 1025) (by decide)) (by decide)
    refine lv_aload_n hx hb dX10_plain_9 rfl (lv_at hl 1 rfl) ?_
    refine lv_iload_n hx hb dX10_plain_10 rfl (lv_at hl 0 rfl) ?_
    refine lv_iconst (v := 0) hx hb dX10_plain_11 (by decide) ?_
    refine va_iast hx hb hK hP hD hS 0 0 rfl rfl (iv_in b_6 (by decide)) dX10_plain_12 (fun H locs hP hD hS => ?_)
    obtain ⟨f_7, ef_7, tf_7, hP, hD⟩ : ∃ f_7 : Nat → Int32, f_7 = (upd f_2 (u_1 : Int32).toNatClampNeg 0) ∧ (ivT tF f_7) ∧ va_P V.1 vwCl [(z 4, aI V 1025 f_7)] H ∧ va_D A [(z 4, aI V 1025 f_7)] := ⟨_, rfl, upT (lo := 0) (hi := 4) (a := 0) (n := 1025) tf_2 b_6 (by decide) (iv_c (0 : Int32) (by decide)) (by decide +kernel), hP, hD⟩
    obtain ⟨x_8, ex_8⟩ : ∃ z9 : Int32, z9 = u_1 + 1 := ⟨_, rfl⟩
    have bx_8 : iv 1 1025 x_8 := by rw [ex_8]; exact iv_add b_6 (iv_c (1 : Int32) (a := 1) (b := 1) (by decide)) (by decide)
    refine lv_iinc (v := x_8) (lv' := [(1, .int x_8), (0, .ref (z 4))]) hx hb dX10_plain_13 hl (k := 0) rfl (by rw [ex_8]; rfl) (by decide) rfl (fun ls hl => ?_)
    refine lv_goto (tgt := 2) hx hb dX10_plain_16 (by decide) ?_
    exact ihn_3 _ _ _ _ (by rw [en_3, ex_8]; exact mu_up b_6 (by decide)) ⟨x_8, f_7, (iv_w bx_8 (by decide)), tf_7, (FL_s inn_3_0 b_6 (by decide) ef_7 ex_8), rfl, hP, hD, hS, lv_sub hl [0, 1] rfl⟩
theorem dX10_see_0 : decode cX10_see 0 = .ok (.iload_n 1, 1) := by decide +kernel
theorem dX10_see_1 : decode cX10_see 1 = .ok (.aload_n 0, 1) := by decide +kernel
theorem q_5_232 : Cond.fieldLink "BeaconDelayModel" 100 "BeaconDelayModel" "size" "I" ∈ gw := gw_5 (i := 232) (by decide +kernel) rfl
theorem dX10_see_2 : decode cX10_see 2 = .ok (.getfield 100, 3) := by decide +kernel
theorem dX10_see_5 : decode cX10_see 5 = .ok (.if_icmp .ge 12, 3) := by decide +kernel
theorem dX10_see_17 : decode cX10_see 17 = .ok (.iconst (-1), 1) := by decide +kernel
theorem dX10_see_18 : decode cX10_see 18 = .ok (.ireturn, 1) := by decide +kernel
theorem dX10_see_8 : decode cX10_see 8 = .ok (.aload_n 0, 1) := by decide +kernel
theorem dX10_see_9 : decode cX10_see 9 = .ok (.getfield 21, 3) := by decide +kernel
theorem dX10_see_12 : decode cX10_see 12 = .ok (.iload_n 1, 1) := by decide +kernel
theorem dX10_see_13 : decode cX10_see 13 = .ok (.iaload, 1) := by decide +kernel
theorem dX10_see_14 : decode cX10_see 14 = .ok (.goto 4, 3) := by decide +kernel
set_option maxHeartbeats 4000000 in
set_option maxRecDepth 100000 in
theorem k_X10_see_0 (l : Launch) (V : GV) (z : Nat → Nat) (a1 : Int32) (pz0_0 : Int32) (pz0_5 : Int32) (pz0_6 : Int32) (pz0_7 : Int32) (pz0_8 : Int32) (pz0_9 : Int32) (pz0_10 : Int32) (pz0_11 : Int32) (pz0_12 : Int32) (pz0_13 : Int32) (pz0_14 : Int32) (pz0_18 : Int32) (pz0_19 : Int32) (pz0_22 : Int32) (pz0_23 : Int32) (pz0_29 : Int32) (fz3 : Nat → Int32) (ba1 : iv 0 900 a1) (bpz0_5 : iv 0 900 pz0_5) (bpz0_6 : iv 0 900 pz0_6) (bpz0_7 : iv 0 900 pz0_7) (bpz0_8 : iv 0 900 pz0_8) (bpz0_10 : iv 0 999 pz0_10) (bpz0_11 : iv 0 4 pz0_11) (bpz0_12 : iv 0 900 pz0_12) (bpz0_13 : iv 0 4 pz0_13) (bpz0_14 : iv (-1) 900 pz0_14) (bpz0_18 : iv 0 2 pz0_18) (bpz0_22 : iv 0 9999 pz0_22) (bpz0_29 : iv 0 10000 pz0_29) (tfz3 : ∀ j, iv 0 255 (fz3 j)) : Ct l V yX10_see (.code yX10_see cX10_see 2 (some .int)) 1 [.ref (z 0), .int a1] [(z 0, .inr (10, mo z pz0_0 pz0_5 pz0_6 pz0_7 pz0_8 pz0_9 pz0_10 pz0_11 pz0_12 pz0_13 pz0_14 pz0_18 pz0_19 pz0_22 pz0_23 pz0_29)), (z 3, aI V 900 fz3)] 0 0 (QI V (fun (r : Int32) (w : va_W) => iv (-1) 255 r ∧ r = seF fz3 a1 pz0_8 ∧ (0 ≤ (r : Int32).toInt → a1 < pz0_8) ∧ w = [(z 0, .inr (10, mo z pz0_0 pz0_5 pz0_6 pz0_7 pz0_8 pz0_9 pz0_10 pz0_11 pz0_12 pz0_13 pz0_14 pz0_18 pz0_19 pz0_22 pz0_23 pz0_29)), (z 3, aI V 900 fz3)])) := by
  refine Ct.of (by decide) (Nat.le_of_ble_eq_true rfl) (fun p e s m below meth c A ls hx hb hr hml hown hlk hnm hg hP hK hD hE hA hS hl => ?_)
  have hl : lv_has ls 2 [(0, .ref (z 0)), (1, .int a1)] := hl
  refine lv_iload_n hx hb dX10_see_0 rfl (lv_at hl 1 rfl) ?_
  refine lv_aload_n hx hb dX10_see_1 rfl (lv_at hl 0 rfl) ?_
  refine va_get (ci := 10) (v := .int pz0_8) (C := RX10) (T := TX10) (N := 40) hx hb hg inX10 hown hK hP 0 rfl rfl 8 (by decide) (hg _ q_5_232) (fun _ h9 => h9) rfl dX10_see_2 ?_
  refine lv_icmp_ge (tgt := 17) hx hb dX10_see_5 (by decide) (fun c_1 => ?_) (fun c_1 => ?_)
  · refine lv_iconst (v := (-1)) hx hb dX10_see_17 (by decide) ?_
    exact fiI hx hb hr hlk hK hP hD hS dX10_see_18 (Nat.le_of_ble_eq_true rfl) (Nat.le_of_ble_eq_true rfl) (⟨(iv_c ((-1) : Int32) (by decide)), (seF_b (Int32.not_lt.mpr c_1)), (fun q9 => absurd q9 (by decide)), rfl⟩)
  · have b_2 : iv 0 899 a1 := iv_l1 (Int32.not_le.mp c_1) ba1 bpz0_8 (by decide)
    have b_3 : iv 1 900 pz0_8 := iv_l2 (Int32.not_le.mp c_1) ba1 bpz0_8 (by decide)
    refine lv_aload_n hx hb dX10_see_8 rfl (lv_at hl 0 rfl) ?_
    refine va_get (ci := 10) (v := .ref (z 3)) (C := RX10) (T := TX10) (N := 40) hx hb hg inX10 hown hK hP 0 rfl rfl 3 (by decide) (hg _ q_5_227) (fun _ h9 => h9) rfl dX10_see_9 ?_
    refine lv_iload_n hx hb dX10_see_12 rfl (lv_at hl 1 rfl) ?_
    refine va_iald hx hb hK hP 1 0 rfl rfl (iv_in b_2 (by decide)) dX10_see_13 ?_
    refine lv_topi (fun x_4 ex_4 => ?_)
    have bx_4 : iv 0 255 x_4 := by rw [ex_4]; exact tfz3 _
    refine lv_goto (tgt := 18) hx hb dX10_see_14 (by decide) ?_
    exact fiI hx hb hr hlk hK hP hD hS dX10_see_18 (Nat.le_of_ble_eq_true rfl) (Nat.le_of_ble_eq_true rfl) (⟨(iv_w bx_4 (by decide)), (seF_a (Int32.not_le.mp c_1) ex_4), (fun _ => (Int32.not_le.mp c_1)), rfl⟩)
theorem dX10_isSmall_0 : decode cX10_isSmall 0 = .ok (.iload_n 0, 1) := by decide +kernel
theorem dX10_isSmall_1 : decode cX10_isSmall 1 = .ok (.bipush 97, 2) := by decide +kernel
theorem dX10_isSmall_3 : decode cX10_isSmall 3 = .ok (.if_icmp .lt 13, 3) := by decide +kernel
theorem dX10_isSmall_16 : decode cX10_isSmall 16 = .ok (.iconst 0, 1) := by decide +kernel
theorem dX10_isSmall_17 : decode cX10_isSmall 17 = .ok (.ireturn, 1) := by decide +kernel
theorem dX10_isSmall_6 : decode cX10_isSmall 6 = .ok (.iload_n 0, 1) := by decide +kernel
theorem dX10_isSmall_7 : decode cX10_isSmall 7 = .ok (.bipush 122, 2) := by decide +kernel
theorem dX10_isSmall_9 : decode cX10_isSmall 9 = .ok (.if_icmp .gt 7, 3) := by decide +kernel
theorem dX10_isSmall_12 : decode cX10_isSmall 12 = .ok (.iconst 1, 1) := by decide +kernel
theorem dX10_isSmall_13 : decode cX10_isSmall 13 = .ok (.goto 4, 3) := by decide +kernel
set_option maxHeartbeats 4000000 in
set_option maxRecDepth 100000 in
theorem k_X10_isSmall_0 (l : Launch) (V : GV) (a0 : Int32) : Ct l V yX10_isSmall (.code yX10_isSmall cX10_isSmall 1 (some .boolean)) 1 [.int a0] [] 0 0 (QI V (fun (r : Int32) (w : va_W) => ((a0 < 97) ∧ r = 0 ∧ w = []) ∨ ((¬ a0 < 97) ∧ (122 < a0) ∧ r = 0 ∧ w = []) ∨ ((¬ a0 < 97) ∧ (¬ 122 < a0) ∧ r = 1 ∧ w = []))) := by
  refine Ct.of (by decide) (Nat.le_of_ble_eq_true rfl) (fun p e s m below meth c A ls hx hb hr hml hown hlk hnm hg hP hK hD hE hA hS hl => ?_)
  have hl : lv_has ls 1 [(0, .int a0)] := hl
  refine lv_iload_n hx hb dX10_isSmall_0 rfl (lv_at hl 0 rfl) ?_
  refine lv_bipush (v := 97) hx hb dX10_isSmall_1 (by decide) ?_
  refine lv_icmp_lt (tgt := 16) hx hb dX10_isSmall_3 (by decide) (fun c_1 => ?_) (fun c_1 => ?_)
  · have b_2 : iv (-2147483648) 96 a0 := iv_l1 c_1 (iv_top a0) (iv_c (97 : Int32) (a := 97) (b := 97) (by decide)) (by decide)
    refine lv_iconst (v := 0) hx hb dX10_isSmall_16 (by decide) ?_
    exact fiZ rfl hx hb hr hlk hK hP hD hS dX10_isSmall_17 (Nat.le_of_ble_eq_true rfl) (Nat.le_of_ble_eq_true rfl) (Or.inl ⟨c_1, rfl, rfl⟩)
  · have b_3 : iv 97 2147483647 a0 := iv_e2 (Int32.not_lt.mp c_1) (iv_c (97 : Int32) (a := 97) (b := 97) (by decide)) (iv_top a0) (by decide)
    refine lv_iload_n hx hb dX10_isSmall_6 rfl (lv_at hl 0 rfl) ?_
    refine lv_bipush (v := 122) hx hb dX10_isSmall_7 (by decide) ?_
    refine lv_icmp_gt (tgt := 16) hx hb dX10_isSmall_9 (by decide) (fun c_4 => ?_) (fun c_4 => ?_)
    · have b_5 : iv 123 2147483647 a0 := iv_l2 c_4 (iv_c (122 : Int32) (a := 122) (b := 122) (by decide)) b_3 (by decide)
      refine lv_iconst (v := 0) hx hb dX10_isSmall_16 (by decide) ?_
      exact fiZ rfl hx hb hr hlk hK hP hD hS dX10_isSmall_17 (Nat.le_of_ble_eq_true rfl) (Nat.le_of_ble_eq_true rfl) (Or.inr (Or.inl ⟨c_1, c_4, rfl, rfl⟩))
    · have b_6 : iv 97 122 a0 := iv_e1 (Int32.not_lt.mp c_4) b_3 (iv_c (122 : Int32) (a := 122) (b := 122) (by decide)) (by decide)
      refine lv_iconst (v := 1) hx hb dX10_isSmall_12 (by decide) ?_
      refine lv_goto (tgt := 17) hx hb dX10_isSmall_13 (by decide) ?_
      exact fiZ rfl hx hb hr hlk hK hP hD hS dX10_isSmall_17 (Nat.le_of_ble_eq_true rfl) (Nat.le_of_ble_eq_true rfl) (Or.inr (Or.inr (⟨c_1, c_4, rfl, rfl⟩)))
theorem dX10_isDigit_0 : decode cX10_isDigit 0 = .ok (.iload_n 0, 1) := by decide +kernel
theorem dX10_isDigit_1 : decode cX10_isDigit 1 = .ok (.bipush 48, 2) := by decide +kernel
theorem dX10_isDigit_3 : decode cX10_isDigit 3 = .ok (.if_icmp .lt 13, 3) := by decide +kernel
theorem dX10_isDigit_16 : decode cX10_isDigit 16 = .ok (.iconst 0, 1) := by decide +kernel
theorem dX10_isDigit_17 : decode cX10_isDigit 17 = .ok (.ireturn, 1) := by decide +kernel
theorem dX10_isDigit_6 : decode cX10_isDigit 6 = .ok (.iload_n 0, 1) := by decide +kernel
theorem dX10_isDigit_7 : decode cX10_isDigit 7 = .ok (.bipush 57, 2) := by decide +kernel
theorem dX10_isDigit_9 : decode cX10_isDigit 9 = .ok (.if_icmp .gt 7, 3) := by decide +kernel
theorem dX10_isDigit_12 : decode cX10_isDigit 12 = .ok (.iconst 1, 1) := by decide +kernel
theorem dX10_isDigit_13 : decode cX10_isDigit 13 = .ok (.goto 4, 3) := by decide +kernel
set_option maxHeartbeats 4000000 in
set_option maxRecDepth 100000 in
theorem k_X10_isDigit_0 (l : Launch) (V : GV) (a0 : Int32) : Ct l V yX10_isDigit (.code yX10_isDigit cX10_isDigit 1 (some .boolean)) 1 [.int a0] [] 0 0 (QI V (fun (r : Int32) (w : va_W) => ((a0 < 48) ∧ r = 0 ∧ w = []) ∨ ((¬ a0 < 48) ∧ (57 < a0) ∧ r = 0 ∧ w = []) ∨ ((¬ a0 < 48) ∧ (¬ 57 < a0) ∧ r = 1 ∧ w = []))) := by
  refine Ct.of (by decide) (Nat.le_of_ble_eq_true rfl) (fun p e s m below meth c A ls hx hb hr hml hown hlk hnm hg hP hK hD hE hA hS hl => ?_)
  have hl : lv_has ls 1 [(0, .int a0)] := hl
  refine lv_iload_n hx hb dX10_isDigit_0 rfl (lv_at hl 0 rfl) ?_
  refine lv_bipush (v := 48) hx hb dX10_isDigit_1 (by decide) ?_
  refine lv_icmp_lt (tgt := 16) hx hb dX10_isDigit_3 (by decide) (fun c_1 => ?_) (fun c_1 => ?_)
  · have b_2 : iv (-2147483648) 47 a0 := iv_l1 c_1 (iv_top a0) (iv_c (48 : Int32) (a := 48) (b := 48) (by decide)) (by decide)
    refine lv_iconst (v := 0) hx hb dX10_isDigit_16 (by decide) ?_
    exact fiZ rfl hx hb hr hlk hK hP hD hS dX10_isDigit_17 (Nat.le_of_ble_eq_true rfl) (Nat.le_of_ble_eq_true rfl) (Or.inl ⟨c_1, rfl, rfl⟩)
  · have b_3 : iv 48 2147483647 a0 := iv_e2 (Int32.not_lt.mp c_1) (iv_c (48 : Int32) (a := 48) (b := 48) (by decide)) (iv_top a0) (by decide)
    refine lv_iload_n hx hb dX10_isDigit_6 rfl (lv_at hl 0 rfl) ?_
    refine lv_bipush (v := 57) hx hb dX10_isDigit_7 (by decide) ?_
    refine lv_icmp_gt (tgt := 16) hx hb dX10_isDigit_9 (by decide) (fun c_4 => ?_) (fun c_4 => ?_)
    · have b_5 : iv 58 2147483647 a0 := iv_l2 c_4 (iv_c (57 : Int32) (a := 57) (b := 57) (by decide)) b_3 (by decide)
      refine lv_iconst (v := 0) hx hb dX10_isDigit_16 (by decide) ?_
      exact fiZ rfl hx hb hr hlk hK hP hD hS dX10_isDigit_17 (Nat.le_of_ble_eq_true rfl) (Nat.le_of_ble_eq_true rfl) (Or.inr (Or.inl ⟨c_1, c_4, rfl, rfl⟩))
    · have b_6 : iv 48 57 a0 := iv_e1 (Int32.not_lt.mp c_4) b_3 (iv_c (57 : Int32) (a := 57) (b := 57) (by decide)) (by decide)
      refine lv_iconst (v := 1) hx hb dX10_isDigit_12 (by decide) ?_
      refine lv_goto (tgt := 17) hx hb dX10_isDigit_13 (by decide) ?_
      exact fiZ rfl hx hb hr hlk hK hP hD hS dX10_isDigit_17 (Nat.le_of_ble_eq_true rfl) (Nat.le_of_ble_eq_true rfl) (Or.inr (Or.inr (⟨c_1, c_4, rfl, rfl⟩)))
theorem dX10_keyAt_0 : decode cX10_keyAt 0 = .ok (.iconst 0, 1) := by decide +kernel
theorem dX10_keyAt_1 : decode cX10_keyAt 1 = .ok (.istore_n 1, 1) := by decide +kernel
theorem dX10_keyAt_2 : decode cX10_keyAt 2 = .ok (.iconst 1, 1) := by decide +kernel
theorem dX10_keyAt_3 : decode cX10_keyAt 3 = .ok (.istore_n 2, 1) := by decide +kernel
theorem dX10_keyAt_4 : decode cX10_keyAt 4 = .ok (.iload_n 2, 1) := by decide +kernel
theorem dX10_keyAt_5 : decode cX10_keyAt 5 = .ok (.ldc 103, 2) := by decide +kernel
theorem q_6_133 : Cond.methodLink "BeaconDelayModel" 105 yJ0_length_8abf5 ∈ gw := gw_6 (i := 133) (by decide +kernel) rfl
theorem dX10_keyAt_7 : decode cX10_keyAt 7 = .ok (.invokevirtual 105, 3) := by decide +kernel
theorem dX10_keyAt_10 : decode cX10_keyAt 10 = .ok (.if_icmp .ge 113, 3) := by decide +kernel
theorem dX10_keyAt_123 : decode cX10_keyAt 123 = .ok (.bipush 22, 2) := by decide +kernel
theorem dX10_keyAt_125 : decode cX10_keyAt 125 = .ok (.ireturn, 1) := by decide +kernel
theorem dX10_keyAt_13 : decode cX10_keyAt 13 = .ok (.iconst 0, 1) := by decide +kernel
theorem dX10_keyAt_14 : decode cX10_keyAt 14 = .ok (.istore_n 3, 1) := by decide +kernel
theorem dX10_keyAt_15 : decode cX10_keyAt 15 = .ok (.ldc 103, 2) := by decide +kernel
theorem dX10_keyAt_17 : decode cX10_keyAt 17 = .ok (.iload_n 2, 1) := by decide +kernel
theorem dX10_keyAt_18 : decode cX10_keyAt 18 = .ok (.iload_n 3, 1) := by decide +kernel
theorem dX10_keyAt_19 : decode cX10_keyAt 19 = .ok (.iadd, 1) := by decide +kernel
theorem q_6_134 : Cond.methodLink "BeaconDelayModel" 111 yJ0_charAt_5068e ∈ gw := gw_6 (i := 134) (by decide +kernel) rfl
theorem dX10_keyAt_20 : decode cX10_keyAt 20 = .ok (.invokevirtual 111, 3) := by decide +kernel
theorem dX10_keyAt_23 : decode cX10_keyAt 23 = .ok (.bipush 32, 2) := by decide +kernel
theorem dX10_keyAt_25 : decode cX10_keyAt 25 = .ok (.if_icmp .eq 44, 3) := by decide +kernel
theorem dX10_keyAt_69 : decode cX10_keyAt 69 = .ok (.ldc 103, 2) := by decide +kernel
theorem dX10_keyAt_71 : decode cX10_keyAt 71 = .ok (.iload_n 2, 1) := by decide +kernel
theorem dX10_keyAt_72 : decode cX10_keyAt 72 = .ok (.iload_n 3, 1) := by decide +kernel
theorem dX10_keyAt_73 : decode cX10_keyAt 73 = .ok (.iadd, 1) := by decide +kernel
theorem dX10_keyAt_74 : decode cX10_keyAt 74 = .ok (.invokevirtual 111, 3) := by decide +kernel
theorem dX10_keyAt_77 : decode cX10_keyAt 77 = .ok (.bipush 32, 2) := by decide +kernel
theorem dX10_keyAt_79 : decode cX10_keyAt 79 = .ok (.if_icmp .ne 18, 3) := by decide +kernel
theorem dX10_keyAt_82 : decode cX10_keyAt 82 = .ok (.aload_n 0, 1) := by decide +kernel
theorem q_5_230 : Cond.fieldLink "BeaconDelayModel" 115 "BeaconDelayModel" "at" "I" ∈ gw := gw_5 (i := 230) (by decide +kernel) rfl
theorem dX10_keyAt_83 : decode cX10_keyAt 83 = .ok (.getfield 115, 3) := by decide +kernel
theorem dX10_keyAt_86 : decode cX10_keyAt 86 = .ok (.iload_n 3, 1) := by decide +kernel
theorem dX10_keyAt_87 : decode cX10_keyAt 87 = .ok (.iadd, 1) := by decide +kernel
theorem dX10_keyAt_88 : decode cX10_keyAt 88 = .ok (.aload_n 0, 1) := by decide +kernel
theorem q_5_231 : Cond.fieldLink "BeaconDelayModel" 118 "BeaconDelayModel" "behind" "I" ∈ gw := gw_5 (i := 231) (by decide +kernel) rfl
theorem dX10_keyAt_89 : decode cX10_keyAt 89 = .ok (.getfield 118, 3) := by decide +kernel
theorem dX10_keyAt_92 : decode cX10_keyAt 92 = .ok (.if_icmp .ne 5, 3) := by decide +kernel
theorem dX10_keyAt_97 : decode cX10_keyAt 97 = .ok (.ldc 103, 2) := by decide +kernel
theorem dX10_keyAt_99 : decode cX10_keyAt 99 = .ok (.iload_n 2, 1) := by decide +kernel
theorem dX10_keyAt_100 : decode cX10_keyAt 100 = .ok (.invokevirtual 111, 3) := by decide +kernel
theorem dX10_keyAt_103 : decode cX10_keyAt 103 = .ok (.bipush 32, 2) := by decide +kernel
theorem dX10_keyAt_105 : decode cX10_keyAt 105 = .ok (.if_icmp .eq 9, 3) := by decide +kernel
theorem dX10_keyAt_114 : decode cX10_keyAt 114 = .ok (.iinc 2 1, 3) := by decide +kernel
theorem dX10_keyAt_117 : decode cX10_keyAt 117 = .ok (.iinc 1 1, 3) := by decide +kernel
theorem dX10_keyAt_120 : decode cX10_keyAt 120 = .ok (.goto (-116), 3) := by decide +kernel
theorem dX10_keyAt_108 : decode cX10_keyAt 108 = .ok (.iinc 2 1, 3) := by decide +kernel
theorem dX10_keyAt_111 : decode cX10_keyAt 111 = .ok (.goto (-14), 3) := by decide +kernel
theorem dX10_keyAt_95 : decode cX10_keyAt 95 = .ok (.iload_n 1, 1) := by decide +kernel
theorem dX10_keyAt_96 : decode cX10_keyAt 96 = .ok (.ireturn, 1) := by decide +kernel
theorem dX10_keyAt_28 : decode cX10_keyAt 28 = .ok (.aload_n 0, 1) := by decide +kernel
theorem dX10_keyAt_29 : decode cX10_keyAt 29 = .ok (.getfield 115, 3) := by decide +kernel
theorem dX10_keyAt_32 : decode cX10_keyAt 32 = .ok (.iload_n 3, 1) := by decide +kernel
theorem dX10_keyAt_33 : decode cX10_keyAt 33 = .ok (.iadd, 1) := by decide +kernel
theorem dX10_keyAt_34 : decode cX10_keyAt 34 = .ok (.aload_n 0, 1) := by decide +kernel
theorem dX10_keyAt_35 : decode cX10_keyAt 35 = .ok (.getfield 118, 3) := by decide +kernel
theorem dX10_keyAt_38 : decode cX10_keyAt 38 = .ok (.if_icmp .ge 31, 3) := by decide +kernel
theorem dX10_keyAt_41 : decode cX10_keyAt 41 = .ok (.aload_n 0, 1) := by decide +kernel
theorem dX10_keyAt_42 : decode cX10_keyAt 42 = .ok (.getfield 21, 3) := by decide +kernel
theorem dX10_keyAt_45 : decode cX10_keyAt 45 = .ok (.aload_n 0, 1) := by decide +kernel
theorem dX10_keyAt_46 : decode cX10_keyAt 46 = .ok (.getfield 115, 3) := by decide +kernel
theorem dX10_keyAt_49 : decode cX10_keyAt 49 = .ok (.iload_n 3, 1) := by decide +kernel
theorem dX10_keyAt_50 : decode cX10_keyAt 50 = .ok (.iadd, 1) := by decide +kernel
theorem dX10_keyAt_51 : decode cX10_keyAt 51 = .ok (.iaload, 1) := by decide +kernel
theorem dX10_keyAt_52 : decode cX10_keyAt 52 = .ok (.ldc 103, 2) := by decide +kernel
theorem dX10_keyAt_54 : decode cX10_keyAt 54 = .ok (.iload_n 2, 1) := by decide +kernel
theorem dX10_keyAt_55 : decode cX10_keyAt 55 = .ok (.iload_n 3, 1) := by decide +kernel
theorem dX10_keyAt_56 : decode cX10_keyAt 56 = .ok (.iadd, 1) := by decide +kernel
theorem dX10_keyAt_57 : decode cX10_keyAt 57 = .ok (.invokevirtual 111, 3) := by decide +kernel
theorem dX10_keyAt_60 : decode cX10_keyAt 60 = .ok (.if_icmp .ne 9, 3) := by decide +kernel
theorem dX10_keyAt_63 : decode cX10_keyAt 63 = .ok (.iinc 3 1, 3) := by decide +kernel
theorem dX10_keyAt_66 : decode cX10_keyAt 66 = .ok (.goto (-51), 3) := by decide +kernel
set_option maxHeartbeats 4000000 in
set_option maxRecDepth 100000 in
theorem k_X10_keyAt_0 (l : Launch) (V : GV) (z : Nat → Nat) (pz0_0 : Int32) (pz0_5 : Int32) (pz0_6 : Int32) (pz0_7 : Int32) (pz0_8 : Int32) (pz0_9 : Int32) (pz0_10 : Int32) (pz0_11 : Int32) (pz0_12 : Int32) (pz0_13 : Int32) (pz0_14 : Int32) (pz0_18 : Int32) (pz0_19 : Int32) (pz0_22 : Int32) (pz0_23 : Int32) (pz0_29 : Int32) (fz3 : Nat → Int32) (bpz0_5 : iv 0 900 pz0_5) (bpz0_6 : iv 0 900 pz0_6) (bpz0_7 : iv 0 900 pz0_7) (bpz0_8 : iv 0 900 pz0_8) (bpz0_10 : iv 0 999 pz0_10) (bpz0_11 : iv 0 4 pz0_11) (bpz0_12 : iv 0 900 pz0_12) (bpz0_13 : iv 0 4 pz0_13) (bpz0_14 : iv (-1) 900 pz0_14) (bpz0_18 : iv 0 2 pz0_18) (bpz0_22 : iv 0 9999 pz0_22) (bpz0_29 : iv 0 10000 pz0_29) (tfz3 : ∀ j, iv 0 255 (fz3 j)) (hf0 : (pz0_6 : Int32).toInt ≤ (pz0_7 : Int32).toInt) : Ct l V yX10_keyAt (.code yX10_keyAt cX10_keyAt 4 (some .int)) 5 [.ref (z 0)] [(z 0, .inr (10, mo z pz0_0 pz0_5 pz0_6 pz0_7 pz0_8 pz0_9 pz0_10 pz0_11 pz0_12 pz0_13 pz0_14 pz0_18 pz0_19 pz0_22 pz0_23 pz0_29)), (z 3, aI V 900 fz3)] 0 0 (QI V (fun (r : Int32) (w : va_W) => r = kyF fz3 pz0_6 pz0_7 0 KWS ∧ w = [(z 0, .inr (10, mo z pz0_0 pz0_5 pz0_6 pz0_7 pz0_8 pz0_9 pz0_10 pz0_11 pz0_12 pz0_13 pz0_14 pz0_18 pz0_19 pz0_22 pz0_23 pz0_29)), (z 3, aI V 900 fz3)])) := by
  refine Ct.of (by decide) (Nat.le_of_ble_eq_true rfl) (fun p e s m below meth c A ls hx hb hr hml hown hlk hnm hg hP hK hD hE hA hS hl => ?_)
  have hl : lv_has ls 4 [(0, .ref (z 0))] := hl
  refine lv_iconst (v := 0) hx hb dX10_keyAt_0 (by decide) ?_
  refine lv_istore_n (lv' := [(1, .int 0), (0, .ref (z 0))]) hx hb dX10_keyAt_1 rfl hl (by decide) rfl (fun ls hl => ?_)
  refine lv_iconst (v := 1) hx hb dX10_keyAt_2 (by decide) ?_
  refine lv_istore_n (lv' := [(2, .int 1), (1, .int 0), (0, .ref (z 0))]) hx hb dX10_keyAt_3 rfl hl (by decide) rfl (fun ls hl => ?_)
  refine loopF (X := fun (n_3 : Nat) (H : Heap) (locs : List Loc) (ls : Array Slot) => ∃ (u_1 : Int32) (u_2 : Int32), (iv 1 116 u_1) ∧ (KA fz3 pz0_6 pz0_7 u_1 u_2) ∧ n_3 = (117 - (u_1 : Int32).toInt).toNat ∧ va_P V.1 vwCl [(z 0, .inr (10, mo z pz0_0 pz0_5 pz0_6 pz0_7 pz0_8 pz0_9 pz0_10 pz0_11 pz0_12 pz0_13 pz0_14 pz0_18 pz0_19 pz0_22 pz0_23 pz0_29)), (z 3, aI V 900 fz3)] H ∧ va_D A [(z 0, .inr (10, mo z pz0_0 pz0_5 pz0_6 pz0_7 pz0_8 pz0_9 pz0_10 pz0_11 pz0_12 pz0_13 pz0_14 pz0_18 pz0_19 pz0_22 pz0_23 pz0_29)), (z 3, aI V 900 fz3)] ∧ va_S A s.heap H locs ∧ lv_has ls 4 [(2, .int u_1), (1, .int u_2), (0, .ref (z 0))]) (g := fun ls => F0 m 4 ls []) (fun n_3 H locs ls hX ihn_3 => ?_) _ ⟨1, 0, (iv_c (1 : Int32) (by decide)), KA_0, rfl, hP, hD, hS, lv_sub hl [0, 1, 2] rfl⟩
  obtain ⟨u_1, u_2, bu_1, inn_3_0, en_3, hP, hD, hS, hl⟩ := hX
  refine lv_iload_n hx hb dX10_keyAt_4 rfl (lv_at hl 0 rfl) ?_
  refine va_ldcS hx hb hown (hE.2.2.2.2.2.2 35 ("BeaconDelayModel", 103, " coast weather hill stack fear gap took village needs road carries takes adds if then else end west seen and or not ", [32, 99, 111, 97, 115, 116, 32, 119, 101, 97, 116, 104, 101, 114, 32, 104, 105, 108, 108, 32, 115, 116, 97, 99, 107, 32, 102, 101, 97, 114, 32, 103, 97, 112, 32, 116, 111, 111, 107, 32, 118, 105, 108, 108, 97, 103, 101, 32, 110, 101, 101, 100, 115, 32, 114, 111, 97, 100, 32, 99, 97, 114, 114, 105, 101, 115, 32, 116, 97, 107, 101, 115, 32, 97, 100, 100, 115, 32, 105, 102, 32, 116, 104, 101, 110, 32, 101, 108, 115, 101, 32, 101, 110, 100, 32, 119, 101, 115, 116, 32, 115, 101, 101, 110, 32, 97, 110, 100, 32, 111, 114, 32, 110, 111, 116, 32]) rfl).1 dX10_keyAt_5 ?_
  refine jnI (wr := [(z 0, .inr (10, mo z pz0_0 pz0_5 pz0_6 pz0_7 pz0_8 pz0_9 pz0_10 pz0_11 pz0_12 pz0_13 pz0_14 pz0_18 pz0_19 pz0_22 pz0_23 pz0_29)), (z 3, aI V 900 fz3)]) (rnVx (rest := [.int u_1]) ⟨hx, hb, hml, hown, hg⟩ (k_J0_length_8abf5_0 l V 35 ("BeaconDelayModel", 103, " coast weather hill stack fear gap took village needs road carries takes adds if then else end west seen and or not ", [32, 99, 111, 97, 115, 116, 32, 119, 101, 97, 116, 104, 101, 114, 32, 104, 105, 108, 108, 32, 115, 116, 97, 99, 107, 32, 102, 101, 97, 114, 32, 103, 97, 112, 32, 116, 111, 111, 107, 32, 118, 105, 108, 108, 97, 103, 101, 32, 110, 101, 101, 100, 115, 32, 114, 111, 97, 100, 32, 99, 97, 114, 114, 105, 101, 115, 32, 116, 97, 107, 101, 115, 32, 97, 100, 100, 115, 32, 105, 102, 32, 116, 104, 101, 110, 32, 101, 108, 115, 101, 32, 101, 110, 100, 32, 119, 101, 115, 116, 32, 115, 101, 101, 110, 32, 97, 110, 100, 32, 111, 114, 32, 110, 111, 116, 32]) rfl) mt_J0_length_8abf5 q_6_133 ⟨Nat.le_of_ble_eq_true rfl, Nat.le_of_ble_eq_true rfl⟩ hK hP hD hS hA hE [] rfl rfl (o_recv (hE.2.2.2.2.2.2 35 ("BeaconDelayModel", 103, " coast weather hill stack fear gap took village needs road carries takes adds if then else end west seen and or not ", [32, 99, 111, 97, 115, 116, 32, 119, 101, 97, 116, 104, 101, 114, 32, 104, 105, 108, 108, 32, 115, 116, 97, 99, 107, 32, 102, 101, 97, 114, 32, 103, 97, 112, 32, 116, 111, 111, 107, 32, 118, 105, 108, 108, 97, 103, 101, 32, 110, 101, 101, 100, 115, 32, 114, 111, 97, 100, 32, 99, 97, 114, 114, 105, 101, 115, 32, 116, 97, 107, 101, 115, 32, 97, 100, 100, 115, 32, 105, 102, 32, 116, 104, 101, 110, 32, 101, 108, 115, 101, 32, 101, 110, 100, 32, 119, 101, 115, 116, 32, 115, 101, 101, 110, 32, 97, 110, 100, 32, 111, 114, 32, 110, 111, 116, 32]) rfl).2.1 hS) rfl hl.1 rfl (Nat.le_of_ble_eq_true rfl) dX10_keyAt_7 ⟨Nat.le_of_ble_eq_true rfl, Nat.le_of_ble_eq_true rfl⟩) hP hD hS hA [] [0, 1] rfl rfl rfl (by decide) (fun r_4 w H locs hw hP hD hS => ?_)
  obtain ⟨rfl, rfl⟩ := hw
  have hP : va_P V.1 vwCl [(z 0, .inr (10, mo z pz0_0 pz0_5 pz0_6 pz0_7 pz0_8 pz0_9 pz0_10 pz0_11 pz0_12 pz0_13 pz0_14 pz0_18 pz0_19 pz0_22 pz0_23 pz0_29)), (z 3, aI V 900 fz3)] H := hP
  have hD := cpD hP hD
  refine lv_icmp_ge (tgt := 123) hx hb dX10_keyAt_10 (by decide) (fun c_5 => ?_) (fun c_5 => ?_)
  · have b_6 : iv 116 116 u_1 := iv_e2 c_5 (iv_c (116 : Int32) (a := 116) (b := 116) (by decide)) bu_1 (by decide)
    refine lv_bipush (v := 22) hx hb dX10_keyAt_123 (by decide) ?_
    exact fiI hx hb hr hlk hK hP hD hS dX10_keyAt_125 (Nat.le_of_ble_eq_true rfl) (Nat.le_of_ble_eq_true rfl) (⟨(KA_e inn_3_0 (Int32.not_lt.mpr c_5)), rfl⟩)
  · have b_7 : iv 1 115 u_1 := iv_l1 (Int32.not_le.mp c_5) bu_1 (iv_c (116 : Int32) (a := 116) (b := 116) (by decide)) (by decide)
    refine lv_iconst (v := 0) hx hb dX10_keyAt_13 (by decide) ?_
    refine lv_istore_n (lv' := [(3, .int 0), (2, .int u_1), (1, .int u_2), (0, .ref (z 0))]) hx hb dX10_keyAt_14 rfl hl (by decide) rfl (fun ls hl => ?_)
    refine loopF (X := fun (n_9 : Nat) (H : Heap) (locs : List Loc) (ls : Array Slot) => ∃ (u_8 : Int32), (iv 0 115 u_8) ∧ ((u_1 : Int32).toInt + (u_8 : Int32).toInt ≤ 115) ∧ (KJ fz3 pz0_6 pz0_7 u_1 u_8) ∧ n_9 = (2147483647 - (u_8 : Int32).toInt).toNat ∧ va_P V.1 vwCl [(z 0, .inr (10, mo z pz0_0 pz0_5 pz0_6 pz0_7 pz0_8 pz0_9 pz0_10 pz0_11 pz0_12 pz0_13 pz0_14 pz0_18 pz0_19 pz0_22 pz0_23 pz0_29)), (z 3, aI V 900 fz3)] H ∧ va_D A [(z 0, .inr (10, mo z pz0_0 pz0_5 pz0_6 pz0_7 pz0_8 pz0_9 pz0_10 pz0_11 pz0_12 pz0_13 pz0_14 pz0_18 pz0_19 pz0_22 pz0_23 pz0_29)), (z 3, aI V 900 fz3)] ∧ va_S A s.heap H locs ∧ lv_has ls 4 [(3, .int u_8), (2, .int u_1), (1, .int u_2), (0, .ref (z 0))]) (g := fun ls => F0 m 15 ls []) (fun n_9 H locs ls hX ihn_9 => ?_) _ ⟨0, (iv_c (0 : Int32) (by decide)), (by have q9 := b_7; have q8 : (0 : Int32).toInt = 0 := (by decide); unfold iv at q9; omega), KJ_0, rfl, hP, hD, hS, lv_sub hl [0, 1, 2, 3] rfl⟩
    obtain ⟨u_8, bu_8, inn_9_0, inn_9_1, en_9, hP, hD, hS, hl⟩ := hX
    refine va_ldcS hx hb hown (hE.2.2.2.2.2.2 35 ("BeaconDelayModel", 103, " coast weather hill stack fear gap took village needs road carries takes adds if then else end west seen and or not ", [32, 99, 111, 97, 115, 116, 32, 119, 101, 97, 116, 104, 101, 114, 32, 104, 105, 108, 108, 32, 115, 116, 97, 99, 107, 32, 102, 101, 97, 114, 32, 103, 97, 112, 32, 116, 111, 111, 107, 32, 118, 105, 108, 108, 97, 103, 101, 32, 110, 101, 101, 100, 115, 32, 114, 111, 97, 100, 32, 99, 97, 114, 114, 105, 101, 115, 32, 116, 97, 107, 101, 115, 32, 97, 100, 100, 115, 32, 105, 102, 32, 116, 104, 101, 110, 32, 101, 108, 115, 101, 32, 101, 110, 100, 32, 119, 101, 115, 116, 32, 115, 101, 101, 110, 32, 97, 110, 100, 32, 111, 114, 32, 110, 111, 116, 32]) rfl).1 dX10_keyAt_15 ?_
    refine lv_iload_n hx hb dX10_keyAt_17 rfl (lv_at hl 1 rfl) ?_
    refine lv_iload_n hx hb dX10_keyAt_18 rfl (lv_at hl 0 rfl) ?_
    refine lv_iadd hx hb dX10_keyAt_19 ?_
    refine lv_topi (fun x_10 ex_10 => ?_)
    have bx_10 : iv 1 230 x_10 := by rw [ex_10]; exact iv_add b_7 bu_8 (by decide)
    have b_11 : iv 0 115 x_10 := by have q9 := inn_9_0; have q8 := toInt_add ex_10 b_7 bu_8 (by decide); have q7 := b_7; have q6 := bu_8; unfold iv at *; omega
    refine jnI (wr := [(z 0, .inr (10, mo z pz0_0 pz0_5 pz0_6 pz0_7 pz0_8 pz0_9 pz0_10 pz0_11 pz0_12 pz0_13 pz0_14 pz0_18 pz0_19 pz0_22 pz0_23 pz0_29)), (z 3, aI V 900 fz3)]) (rnVx (rest := []) ⟨hx, hb, hml, hown, hg⟩ (k_J0_charAt_5068e_0 l V 35 ("BeaconDelayModel", 103, " coast weather hill stack fear gap took village needs road carries takes adds if then else end west seen and or not ", [32, 99, 111, 97, 115, 116, 32, 119, 101, 97, 116, 104, 101, 114, 32, 104, 105, 108, 108, 32, 115, 116, 97, 99, 107, 32, 102, 101, 97, 114, 32, 103, 97, 112, 32, 116, 111, 111, 107, 32, 118, 105, 108, 108, 97, 103, 101, 32, 110, 101, 101, 100, 115, 32, 114, 111, 97, 100, 32, 99, 97, 114, 114, 105, 101, 115, 32, 116, 97, 107, 101, 115, 32, 97, 100, 100, 115, 32, 105, 102, 32, 116, 104, 101, 110, 32, 101, 108, 115, 101, 32, 101, 110, 100, 32, 119, 101, 115, 116, 32, 115, 101, 101, 110, 32, 97, 110, 100, 32, 111, 114, 32, 110, 111, 116, 32]) rfl x_10 (iv_w b_11 (by decide)) (iv_lt b_11 (iv_c (116 : Int32) (a := 116) (b := 116) (by decide)) (by decide))) mt_J0_charAt_5068e q_6_134 ⟨Nat.le_of_ble_eq_true rfl, Nat.le_of_ble_eq_true rfl⟩ hK hP hD hS hA hE [] rfl rfl (o_recv (hE.2.2.2.2.2.2 35 ("BeaconDelayModel", 103, " coast weather hill stack fear gap took village needs road carries takes adds if then else end west seen and or not ", [32, 99, 111, 97, 115, 116, 32, 119, 101, 97, 116, 104, 101, 114, 32, 104, 105, 108, 108, 32, 115, 116, 97, 99, 107, 32, 102, 101, 97, 114, 32, 103, 97, 112, 32, 116, 111, 111, 107, 32, 118, 105, 108, 108, 97, 103, 101, 32, 110, 101, 101, 100, 115, 32, 114, 111, 97, 100, 32, 99, 97, 114, 114, 105, 101, 115, 32, 116, 97, 107, 101, 115, 32, 97, 100, 100, 115, 32, 105, 102, 32, 116, 104, 101, 110, 32, 101, 108, 115, 101, 32, 101, 110, 100, 32, 119, 101, 115, 116, 32, 115, 101, 101, 110, 32, 97, 110, 100, 32, 111, 114, 32, 110, 111, 116, 32]) rfl).2.1 hS) rfl hl.1 rfl (Nat.le_of_ble_eq_true rfl) dX10_keyAt_20 ⟨Nat.le_of_ble_eq_true rfl, Nat.le_of_ble_eq_true rfl⟩) hP hD hS hA [] [0, 1] rfl rfl rfl (by decide) (fun r_12 w H locs hw hP hD hS => ?_)
    obtain ⟨er_12, rfl⟩ := hw
    have hP : va_P V.1 vwCl [(z 0, .inr (10, mo z pz0_0 pz0_5 pz0_6 pz0_7 pz0_8 pz0_9 pz0_10 pz0_11 pz0_12 pz0_13 pz0_14 pz0_18 pz0_19 pz0_22 pz0_23 pz0_29)), (z 3, aI V 900 fz3)] H := hP
    have hD := cpD hP hD
    refine lv_bipush (v := 32) hx hb dX10_keyAt_23 (by decide) ?_
    refine lv_icmp_eq (tgt := 69) hx hb dX10_keyAt_25 (by decide) (fun c_13 => ?_) (fun c_13 => ?_)
    · have b_14 : iv 32 32 r_12 := iv_q c_13 (iv_c (32 : Int32) (a := 32) (b := 32) (by decide))
      refine va_ldcS hx hb hown (hE.2.2.2.2.2.2 35 ("BeaconDelayModel", 103, " coast weather hill stack fear gap took village needs road carries takes adds if then else end west seen and or not ", [32, 99, 111, 97, 115, 116, 32, 119, 101, 97, 116, 104, 101, 114, 32, 104, 105, 108, 108, 32, 115, 116, 97, 99, 107, 32, 102, 101, 97, 114, 32, 103, 97, 112, 32, 116, 111, 111, 107, 32, 118, 105, 108, 108, 97, 103, 101, 32, 110, 101, 101, 100, 115, 32, 114, 111, 97, 100, 32, 99, 97, 114, 114, 105, 101, 115, 32, 116, 97, 107, 101, 115, 32, 97, 100, 100, 115, 32, 105, 102, 32, 116, 104, 101, 110, 32, 101, 108, 115, 101, 32, 101, 110, 100, 32, 119, 101, 115, 116, 32, 115, 101, 101, 110, 32, 97, 110, 100, 32, 111, 114, 32, 110, 111, 116, 32]) rfl).1 dX10_keyAt_69 ?_
      refine lv_iload_n hx hb dX10_keyAt_71 rfl (lv_at hl 1 rfl) ?_
      refine lv_iload_n hx hb dX10_keyAt_72 rfl (lv_at hl 0 rfl) ?_
      refine lv_iadd hx hb dX10_keyAt_73 ?_
      refine tpi (y := x_10) ex_10.symm ?_
      refine jnI (wr := [(z 0, .inr (10, mo z pz0_0 pz0_5 pz0_6 pz0_7 pz0_8 pz0_9 pz0_10 pz0_11 pz0_12 pz0_13 pz0_14 pz0_18 pz0_19 pz0_22 pz0_23 pz0_29)), (z 3, aI V 900 fz3)]) (rnVx (rest := []) ⟨hx, hb, hml, hown, hg⟩ (k_J0_charAt_5068e_0 l V 35 ("BeaconDelayModel", 103, " coast weather hill stack fear gap took village needs road carries takes adds if then else end west seen and or not ", [32, 99, 111, 97, 115, 116, 32, 119, 101, 97, 116, 104, 101, 114, 32, 104, 105, 108, 108, 32, 115, 116, 97, 99, 107, 32, 102, 101, 97, 114, 32, 103, 97, 112, 32, 116, 111, 111, 107, 32, 118, 105, 108, 108, 97, 103, 101, 32, 110, 101, 101, 100, 115, 32, 114, 111, 97, 100, 32, 99, 97, 114, 114, 105, 101, 115, 32, 116, 97, 107, 101, 115, 32, 97, 100, 100, 115, 32, 105, 102, 32, 116, 104, 101, 110, 32, 101, 108, 115, 101, 32, 101, 110, 100, 32, 119, 101, 115, 116, 32, 115, 101, 101, 110, 32, 97, 110, 100, 32, 111, 114, 32, 110, 111, 116, 32]) rfl x_10 (iv_w b_11 (by decide)) (iv_lt b_11 (iv_c (116 : Int32) (a := 116) (b := 116) (by decide)) (by decide))) mt_J0_charAt_5068e q_6_134 ⟨Nat.le_of_ble_eq_true rfl, Nat.le_of_ble_eq_true rfl⟩ hK hP hD hS hA hE [] rfl rfl (o_recv (hE.2.2.2.2.2.2 35 ("BeaconDelayModel", 103, " coast weather hill stack fear gap took village needs road carries takes adds if then else end west seen and or not ", [32, 99, 111, 97, 115, 116, 32, 119, 101, 97, 116, 104, 101, 114, 32, 104, 105, 108, 108, 32, 115, 116, 97, 99, 107, 32, 102, 101, 97, 114, 32, 103, 97, 112, 32, 116, 111, 111, 107, 32, 118, 105, 108, 108, 97, 103, 101, 32, 110, 101, 101, 100, 115, 32, 114, 111, 97, 100, 32, 99, 97, 114, 114, 105, 101, 115, 32, 116, 97, 107, 101, 115, 32, 97, 100, 100, 115, 32, 105, 102, 32, 116, 104, 101, 110, 32, 101, 108, 115, 101, 32, 101, 110, 100, 32, 119, 101, 115, 116, 32, 115, 101, 101, 110, 32, 97, 110, 100, 32, 111, 114, 32, 110, 111, 116, 32]) rfl).2.1 hS) rfl hl.1 rfl (Nat.le_of_ble_eq_true rfl) dX10_keyAt_74 ⟨Nat.le_of_ble_eq_true rfl, Nat.le_of_ble_eq_true rfl⟩) hP hD hS hA [] [0, 1] rfl rfl rfl (by decide) (fun r_15 w H locs hw hP hD hS => ?_)
      obtain ⟨er_15, rfl⟩ := hw
      have e9_r_15 : r_15 = r_12 := er_15.trans er_12.symm
      rw [e9_r_15]
      have hP : va_P V.1 vwCl [(z 0, .inr (10, mo z pz0_0 pz0_5 pz0_6 pz0_7 pz0_8 pz0_9 pz0_10 pz0_11 pz0_12 pz0_13 pz0_14 pz0_18 pz0_19 pz0_22 pz0_23 pz0_29)), (z 3, aI V 900 fz3)] H := hP
      have hD := cpD hP hD
      refine lv_bipush (v := 32) hx hb dX10_keyAt_77 (by decide) ?_
      refine lv_icmp_ne (tgt := 97) hx hb dX10_keyAt_79 (by decide) (fun c_17 => absurd c_13 c_17) (fun _ => ?_)
      refine lv_aload_n hx hb dX10_keyAt_82 rfl (lv_at hl 3 rfl) ?_
      refine va_get (ci := 10) (v := .int pz0_6) (C := RX10) (T := TX10) (N := 40) hx hb hg inX10 hown hK hP 0 rfl rfl 6 (by decide) (hg _ q_5_230) (fun _ h9 => h9) rfl dX10_keyAt_83 ?_
      refine lv_iload_n hx hb dX10_keyAt_86 rfl (lv_at hl 0 rfl) ?_
      refine lv_iadd hx hb dX10_keyAt_87 ?_
      refine lv_topi (fun x_18 ex_18 => ?_)
      have bx_18 : iv 0 1015 x_18 := by rw [ex_18]; exact iv_add bpz0_6 bu_8 (by decide)
      refine lv_aload_n hx hb dX10_keyAt_88 rfl (lv_at hl 3 rfl) ?_
      refine va_get (ci := 10) (v := .int pz0_7) (C := RX10) (T := TX10) (N := 40) hx hb hg inX10 hown hK hP 0 rfl rfl 7 (by decide) (hg _ q_5_231) (fun _ h9 => h9) rfl dX10_keyAt_89 ?_
      refine lv_icmp_ne (tgt := 97) hx hb dX10_keyAt_92 (by decide) (fun c_19 => ?_) (fun c_19 => ?_)
      · refine loopF (X := fun (n_21 : Nat) (H : Heap) (locs : List Loc) (ls : Array Slot) => ∃ (u_20 : Int32), (iv 1 115 u_20) ∧ ((u_1 : Int32).toInt ≤ (u_20 : Int32).toInt) ∧ (KS fz3 pz0_6 pz0_7 u_1 u_20 u_2) ∧ n_21 = (2147483647 - (u_20 : Int32).toInt).toNat ∧ va_P V.1 vwCl [(z 0, .inr (10, mo z pz0_0 pz0_5 pz0_6 pz0_7 pz0_8 pz0_9 pz0_10 pz0_11 pz0_12 pz0_13 pz0_14 pz0_18 pz0_19 pz0_22 pz0_23 pz0_29)), (z 3, aI V 900 fz3)] H ∧ va_D A [(z 0, .inr (10, mo z pz0_0 pz0_5 pz0_6 pz0_7 pz0_8 pz0_9 pz0_10 pz0_11 pz0_12 pz0_13 pz0_14 pz0_18 pz0_19 pz0_22 pz0_23 pz0_29)), (z 3, aI V 900 fz3)] ∧ va_S A s.heap H locs ∧ lv_has ls 4 [(3, .int u_8), (2, .int u_20), (1, .int u_2), (0, .ref (z 0))]) (g := fun ls => F0 m 97 ls []) (fun n_21 H locs ls hX ihn_21 => ?_) _ ⟨u_1, b_7, (Int.le_refl _), (KS_0 (ka_miss inn_3_0 (Int.lt_of_lt_of_le (Int32.lt_iff_toInt_lt.mp (Int32.not_le.mp c_5)) (by decide +kernel)) inn_9_1 bu_8 (by decide) bpz0_6 bpz0_7 hf0 ex_10 er_12 ex_18 (Or.inr ⟨c_13, c_19⟩))), rfl, hP, hD, hS, lv_sub hl [0, 1, 2, 3] rfl⟩
        obtain ⟨u_20, bu_20, inn_21_0, inn_21_1, en_21, hP, hD, hS, hl⟩ := hX
        refine va_ldcS hx hb hown (hE.2.2.2.2.2.2 35 ("BeaconDelayModel", 103, " coast weather hill stack fear gap took village needs road carries takes adds if then else end west seen and or not ", [32, 99, 111, 97, 115, 116, 32, 119, 101, 97, 116, 104, 101, 114, 32, 104, 105, 108, 108, 32, 115, 116, 97, 99, 107, 32, 102, 101, 97, 114, 32, 103, 97, 112, 32, 116, 111, 111, 107, 32, 118, 105, 108, 108, 97, 103, 101, 32, 110, 101, 101, 100, 115, 32, 114, 111, 97, 100, 32, 99, 97, 114, 114, 105, 101, 115, 32, 116, 97, 107, 101, 115, 32, 97, 100, 100, 115, 32, 105, 102, 32, 116, 104, 101, 110, 32, 101, 108, 115, 101, 32, 101, 110, 100, 32, 119, 101, 115, 116, 32, 115, 101, 101, 110, 32, 97, 110, 100, 32, 111, 114, 32, 110, 111, 116, 32]) rfl).1 dX10_keyAt_97 ?_
        refine lv_iload_n hx hb dX10_keyAt_99 rfl (lv_at hl 1 rfl) ?_
        refine jnI (wr := [(z 0, .inr (10, mo z pz0_0 pz0_5 pz0_6 pz0_7 pz0_8 pz0_9 pz0_10 pz0_11 pz0_12 pz0_13 pz0_14 pz0_18 pz0_19 pz0_22 pz0_23 pz0_29)), (z 3, aI V 900 fz3)]) (rnVx (rest := []) ⟨hx, hb, hml, hown, hg⟩ (k_J0_charAt_5068e_0 l V 35 ("BeaconDelayModel", 103, " coast weather hill stack fear gap took village needs road carries takes adds if then else end west seen and or not ", [32, 99, 111, 97, 115, 116, 32, 119, 101, 97, 116, 104, 101, 114, 32, 104, 105, 108, 108, 32, 115, 116, 97, 99, 107, 32, 102, 101, 97, 114, 32, 103, 97, 112, 32, 116, 111, 111, 107, 32, 118, 105, 108, 108, 97, 103, 101, 32, 110, 101, 101, 100, 115, 32, 114, 111, 97, 100, 32, 99, 97, 114, 114, 105, 101, 115, 32, 116, 97, 107, 101, 115, 32, 97, 100, 100, 115, 32, 105, 102, 32, 116, 104, 101, 110, 32, 101, 108, 115, 101, 32, 101, 110, 100, 32, 119, 101, 115, 116, 32, 115, 101, 101, 110, 32, 97, 110, 100, 32, 111, 114, 32, 110, 111, 116, 32]) rfl u_20 (iv_w bu_20 (by decide)) (iv_lt bu_20 (iv_c (116 : Int32) (a := 116) (b := 116) (by decide)) (by decide))) mt_J0_charAt_5068e q_6_134 ⟨Nat.le_of_ble_eq_true rfl, Nat.le_of_ble_eq_true rfl⟩ hK hP hD hS hA hE [] rfl rfl (o_recv (hE.2.2.2.2.2.2 35 ("BeaconDelayModel", 103, " coast weather hill stack fear gap took village needs road carries takes adds if then else end west seen and or not ", [32, 99, 111, 97, 115, 116, 32, 119, 101, 97, 116, 104, 101, 114, 32, 104, 105, 108, 108, 32, 115, 116, 97, 99, 107, 32, 102, 101, 97, 114, 32, 103, 97, 112, 32, 116, 111, 111, 107, 32, 118, 105, 108, 108, 97, 103, 101, 32, 110, 101, 101, 100, 115, 32, 114, 111, 97, 100, 32, 99, 97, 114, 114, 105, 101, 115, 32, 116, 97, 107, 101, 115, 32, 97, 100, 100, 115, 32, 105, 102, 32, 116, 104, 101, 110, 32, 101, 108, 115, 101, 32, 101, 110, 100, 32, 119, 101, 115, 116, 32, 115, 101, 101, 110, 32, 97, 110, 100, 32, 111, 114, 32, 110, 111, 116, 32]) rfl).2.1 hS) rfl hl.1 rfl (Nat.le_of_ble_eq_true rfl) dX10_keyAt_100 ⟨Nat.le_of_ble_eq_true rfl, Nat.le_of_ble_eq_true rfl⟩) hP hD hS hA [] [0, 1] rfl rfl rfl (by decide) (fun r_22 w H locs hw hP hD hS => ?_)
        obtain ⟨er_22, rfl⟩ := hw
        have hP : va_P V.1 vwCl [(z 0, .inr (10, mo z pz0_0 pz0_5 pz0_6 pz0_7 pz0_8 pz0_9 pz0_10 pz0_11 pz0_12 pz0_13 pz0_14 pz0_18 pz0_19 pz0_22 pz0_23 pz0_29)), (z 3, aI V 900 fz3)] H := hP
        have hD := cpD hP hD
        refine lv_bipush (v := 32) hx hb dX10_keyAt_103 (by decide) ?_
        refine lv_icmp_eq (tgt := 114) hx hb dX10_keyAt_105 (by decide) (fun c_23 => ?_) (fun c_23 => ?_)
        · have b_24 : iv 32 32 r_22 := iv_q c_23 (iv_c (32 : Int32) (a := 32) (b := 32) (by decide))
          obtain ⟨x_25, ex_25⟩ : ∃ z9 : Int32, z9 = u_20 + 1 := ⟨_, rfl⟩
          have bx_25 : iv 2 116 x_25 := by rw [ex_25]; exact iv_add bu_20 (iv_c (1 : Int32) (a := 1) (b := 1) (by decide)) (by decide)
          refine lv_iinc (v := x_25) (lv' := [(2, .int x_25), (3, .int u_8), (1, .int u_2), (0, .ref (z 0))]) hx hb dX10_keyAt_114 hl (k := 1) rfl (by rw [ex_25]; rfl) (by decide) rfl (fun ls hl => ?_)
          obtain ⟨x_26, ex_26⟩ : ∃ z9 : Int32, z9 = u_2 + 1 := ⟨_, rfl⟩
          refine lv_iinc (v := x_26) (lv' := [(1, .int x_26), (2, .int x_25), (3, .int u_8), (0, .ref (z 0))]) hx hb dX10_keyAt_117 hl (k := 2) rfl (by rw [ex_26]; rfl) (by decide) rfl (fun ls hl => ?_)
          refine lv_goto (tgt := 4) hx hb dX10_keyAt_120 (by decide) ?_
          exact ihn_3 _ _ _ _ (by rw [en_3]; have q9 := inn_21_0; have q8 := inc_toInt ex_25 bu_20 (by decide); have q7 := bx_25; unfold iv at q7; omega) ⟨x_25, x_26, (iv_w bx_25 (by decide)), (KS_e inn_21_1 er_22 c_23 ex_25 ex_26), rfl, hP, hD, hS, lv_sub hl [1, 0, 3] rfl⟩
        · have b_27 : iv 1 114 u_20 := by have q9 := chK bu_20 (by decide) er_22 c_23; have q8 := bu_20; unfold iv at *; omega
          obtain ⟨x_28, ex_28⟩ : ∃ z9 : Int32, z9 = u_20 + 1 := ⟨_, rfl⟩
          have bx_28 : iv 2 115 x_28 := by rw [ex_28]; exact iv_add b_27 (iv_c (1 : Int32) (a := 1) (b := 1) (by decide)) (by decide)
          refine lv_iinc (v := x_28) (lv' := [(2, .int x_28), (3, .int u_8), (1, .int u_2), (0, .ref (z 0))]) hx hb dX10_keyAt_108 hl (k := 1) rfl (by rw [ex_28]; rfl) (by decide) rfl (fun ls hl => ?_)
          refine lv_goto (tgt := 97) hx hb dX10_keyAt_111 (by decide) ?_
          exact ihn_21 _ _ _ _ (by rw [en_21, ex_28]; exact mu_up b_27 (by decide)) ⟨x_28, (iv_w bx_28 (by decide)), (by have q9 := inn_21_0; have q8 := inc_toInt ex_28 b_27 (by decide); omega), (KS_s inn_21_1 er_22 c_23 ex_28), rfl, hP, hD, hS, lv_sub hl [1, 0, 2, 3] rfl⟩
      · have b_29 : iv 0 900 x_18 := iv_q c_19 bpz0_7
        refine lv_iload_n hx hb dX10_keyAt_95 rfl (lv_at hl 2 rfl) ?_
        exact fiI hx hb hr hlk hK hP hD hS dX10_keyAt_96 (Nat.le_of_ble_eq_true rfl) (Nat.le_of_ble_eq_true rfl) (⟨(ka_hit inn_3_0 (Int.lt_of_lt_of_le (Int32.lt_iff_toInt_lt.mp (Int32.not_le.mp c_5)) (by decide +kernel)) inn_9_1 bu_8 (by decide) bpz0_6 ex_10 er_12 c_13 ex_18 c_19), rfl⟩)
    · refine lv_aload_n hx hb dX10_keyAt_28 rfl (lv_at hl 3 rfl) ?_
      refine va_get (ci := 10) (v := .int pz0_6) (C := RX10) (T := TX10) (N := 40) hx hb hg inX10 hown hK hP 0 rfl rfl 6 (by decide) (hg _ q_5_230) (fun _ h9 => h9) rfl dX10_keyAt_29 ?_
      refine lv_iload_n hx hb dX10_keyAt_32 rfl (lv_at hl 0 rfl) ?_
      refine lv_iadd hx hb dX10_keyAt_33 ?_
      refine lv_topi (fun x_30 ex_30 => ?_)
      have bx_30 : iv 0 1015 x_30 := by rw [ex_30]; exact iv_add bpz0_6 bu_8 (by decide)
      refine lv_aload_n hx hb dX10_keyAt_34 rfl (lv_at hl 3 rfl) ?_
      refine va_get (ci := 10) (v := .int pz0_7) (C := RX10) (T := TX10) (N := 40) hx hb hg inX10 hown hK hP 0 rfl rfl 7 (by decide) (hg _ q_5_231) (fun _ h9 => h9) rfl dX10_keyAt_35 ?_
      refine lv_icmp_ge (tgt := 69) hx hb dX10_keyAt_38 (by decide) (fun c_31 => ?_) (fun c_31 => ?_)
      · refine va_ldcS hx hb hown (hE.2.2.2.2.2.2 35 ("BeaconDelayModel", 103, " coast weather hill stack fear gap took village needs road carries takes adds if then else end west seen and or not ", [32, 99, 111, 97, 115, 116, 32, 119, 101, 97, 116, 104, 101, 114, 32, 104, 105, 108, 108, 32, 115, 116, 97, 99, 107, 32, 102, 101, 97, 114, 32, 103, 97, 112, 32, 116, 111, 111, 107, 32, 118, 105, 108, 108, 97, 103, 101, 32, 110, 101, 101, 100, 115, 32, 114, 111, 97, 100, 32, 99, 97, 114, 114, 105, 101, 115, 32, 116, 97, 107, 101, 115, 32, 97, 100, 100, 115, 32, 105, 102, 32, 116, 104, 101, 110, 32, 101, 108, 115, 101, 32, 101, 110, 100, 32, 119, 101, 115, 116, 32, 115, 101, 101, 110, 32, 97, 110, 100, 32, 111, 114, 32, 110, 111, 116, 32]) rfl).1 dX10_keyAt_69 ?_
        refine lv_iload_n hx hb dX10_keyAt_71 rfl (lv_at hl 1 rfl) ?_
        refine lv_iload_n hx hb dX10_keyAt_72 rfl (lv_at hl 0 rfl) ?_
        refine lv_iadd hx hb dX10_keyAt_73 ?_
        refine tpi (y := x_10) ex_10.symm ?_
        refine jnI (wr := [(z 0, .inr (10, mo z pz0_0 pz0_5 pz0_6 pz0_7 pz0_8 pz0_9 pz0_10 pz0_11 pz0_12 pz0_13 pz0_14 pz0_18 pz0_19 pz0_22 pz0_23 pz0_29)), (z 3, aI V 900 fz3)]) (rnVx (rest := []) ⟨hx, hb, hml, hown, hg⟩ (k_J0_charAt_5068e_0 l V 35 ("BeaconDelayModel", 103, " coast weather hill stack fear gap took village needs road carries takes adds if then else end west seen and or not ", [32, 99, 111, 97, 115, 116, 32, 119, 101, 97, 116, 104, 101, 114, 32, 104, 105, 108, 108, 32, 115, 116, 97, 99, 107, 32, 102, 101, 97, 114, 32, 103, 97, 112, 32, 116, 111, 111, 107, 32, 118, 105, 108, 108, 97, 103, 101, 32, 110, 101, 101, 100, 115, 32, 114, 111, 97, 100, 32, 99, 97, 114, 114, 105, 101, 115, 32, 116, 97, 107, 101, 115, 32, 97, 100, 100, 115, 32, 105, 102, 32, 116, 104, 101, 110, 32, 101, 108, 115, 101, 32, 101, 110, 100, 32, 119, 101, 115, 116, 32, 115, 101, 101, 110, 32, 97, 110, 100, 32, 111, 114, 32, 110, 111, 116, 32]) rfl x_10 (iv_w b_11 (by decide)) (iv_lt b_11 (iv_c (116 : Int32) (a := 116) (b := 116) (by decide)) (by decide))) mt_J0_charAt_5068e q_6_134 ⟨Nat.le_of_ble_eq_true rfl, Nat.le_of_ble_eq_true rfl⟩ hK hP hD hS hA hE [] rfl rfl (o_recv (hE.2.2.2.2.2.2 35 ("BeaconDelayModel", 103, " coast weather hill stack fear gap took village needs road carries takes adds if then else end west seen and or not ", [32, 99, 111, 97, 115, 116, 32, 119, 101, 97, 116, 104, 101, 114, 32, 104, 105, 108, 108, 32, 115, 116, 97, 99, 107, 32, 102, 101, 97, 114, 32, 103, 97, 112, 32, 116, 111, 111, 107, 32, 118, 105, 108, 108, 97, 103, 101, 32, 110, 101, 101, 100, 115, 32, 114, 111, 97, 100, 32, 99, 97, 114, 114, 105, 101, 115, 32, 116, 97, 107, 101, 115, 32, 97, 100, 100, 115, 32, 105, 102, 32, 116, 104, 101, 110, 32, 101, 108, 115, 101, 32, 101, 110, 100, 32, 119, 101, 115, 116, 32, 115, 101, 101, 110, 32, 97, 110, 100, 32, 111, 114, 32, 110, 111, 116, 32]) rfl).2.1 hS) rfl hl.1 rfl (Nat.le_of_ble_eq_true rfl) dX10_keyAt_74 ⟨Nat.le_of_ble_eq_true rfl, Nat.le_of_ble_eq_true rfl⟩) hP hD hS hA [] [0, 1] rfl rfl rfl (by decide) (fun r_32 w H locs hw hP hD hS => ?_)
        obtain ⟨er_32, rfl⟩ := hw
        have e9_r_32 : r_32 = r_12 := er_32.trans er_12.symm
        rw [e9_r_32]
        have hP : va_P V.1 vwCl [(z 0, .inr (10, mo z pz0_0 pz0_5 pz0_6 pz0_7 pz0_8 pz0_9 pz0_10 pz0_11 pz0_12 pz0_13 pz0_14 pz0_18 pz0_19 pz0_22 pz0_23 pz0_29)), (z 3, aI V 900 fz3)] H := hP
        have hD := cpD hP hD
        refine lv_bipush (v := 32) hx hb dX10_keyAt_77 (by decide) ?_
        refine lv_icmp_ne (tgt := 97) hx hb dX10_keyAt_79 (by decide) (fun _ => ?_) (fun c_34 => absurd c_34 c_13)
        refine loopF (X := fun (n_36 : Nat) (H : Heap) (locs : List Loc) (ls : Array Slot) => ∃ (u_35 : Int32), (iv 1 115 u_35) ∧ ((u_1 : Int32).toInt ≤ (u_35 : Int32).toInt) ∧ (KS fz3 pz0_6 pz0_7 u_1 u_35 u_2) ∧ n_36 = (2147483647 - (u_35 : Int32).toInt).toNat ∧ va_P V.1 vwCl [(z 0, .inr (10, mo z pz0_0 pz0_5 pz0_6 pz0_7 pz0_8 pz0_9 pz0_10 pz0_11 pz0_12 pz0_13 pz0_14 pz0_18 pz0_19 pz0_22 pz0_23 pz0_29)), (z 3, aI V 900 fz3)] H ∧ va_D A [(z 0, .inr (10, mo z pz0_0 pz0_5 pz0_6 pz0_7 pz0_8 pz0_9 pz0_10 pz0_11 pz0_12 pz0_13 pz0_14 pz0_18 pz0_19 pz0_22 pz0_23 pz0_29)), (z 3, aI V 900 fz3)] ∧ va_S A s.heap H locs ∧ lv_has ls 4 [(3, .int u_8), (2, .int u_35), (1, .int u_2), (0, .ref (z 0))]) (g := fun ls => F0 m 97 ls []) (fun n_36 H locs ls hX ihn_36 => ?_) _ ⟨u_1, b_7, (Int.le_refl _), (KS_0 (ka_miss inn_3_0 (Int.lt_of_lt_of_le (Int32.lt_iff_toInt_lt.mp (Int32.not_le.mp c_5)) (by decide +kernel)) inn_9_1 bu_8 (by decide) bpz0_6 bpz0_7 hf0 ex_10 er_12 ex_30 (Or.inl ⟨c_13, Or.inl (Int32.not_lt.mpr c_31)⟩))), rfl, hP, hD, hS, lv_sub hl [0, 1, 2, 3] rfl⟩
        obtain ⟨u_35, bu_35, inn_36_0, inn_36_1, en_36, hP, hD, hS, hl⟩ := hX
        refine va_ldcS hx hb hown (hE.2.2.2.2.2.2 35 ("BeaconDelayModel", 103, " coast weather hill stack fear gap took village needs road carries takes adds if then else end west seen and or not ", [32, 99, 111, 97, 115, 116, 32, 119, 101, 97, 116, 104, 101, 114, 32, 104, 105, 108, 108, 32, 115, 116, 97, 99, 107, 32, 102, 101, 97, 114, 32, 103, 97, 112, 32, 116, 111, 111, 107, 32, 118, 105, 108, 108, 97, 103, 101, 32, 110, 101, 101, 100, 115, 32, 114, 111, 97, 100, 32, 99, 97, 114, 114, 105, 101, 115, 32, 116, 97, 107, 101, 115, 32, 97, 100, 100, 115, 32, 105, 102, 32, 116, 104, 101, 110, 32, 101, 108, 115, 101, 32, 101, 110, 100, 32, 119, 101, 115, 116, 32, 115, 101, 101, 110, 32, 97, 110, 100, 32, 111, 114, 32, 110, 111, 116, 32]) rfl).1 dX10_keyAt_97 ?_
        refine lv_iload_n hx hb dX10_keyAt_99 rfl (lv_at hl 1 rfl) ?_
        refine jnI (wr := [(z 0, .inr (10, mo z pz0_0 pz0_5 pz0_6 pz0_7 pz0_8 pz0_9 pz0_10 pz0_11 pz0_12 pz0_13 pz0_14 pz0_18 pz0_19 pz0_22 pz0_23 pz0_29)), (z 3, aI V 900 fz3)]) (rnVx (rest := []) ⟨hx, hb, hml, hown, hg⟩ (k_J0_charAt_5068e_0 l V 35 ("BeaconDelayModel", 103, " coast weather hill stack fear gap took village needs road carries takes adds if then else end west seen and or not ", [32, 99, 111, 97, 115, 116, 32, 119, 101, 97, 116, 104, 101, 114, 32, 104, 105, 108, 108, 32, 115, 116, 97, 99, 107, 32, 102, 101, 97, 114, 32, 103, 97, 112, 32, 116, 111, 111, 107, 32, 118, 105, 108, 108, 97, 103, 101, 32, 110, 101, 101, 100, 115, 32, 114, 111, 97, 100, 32, 99, 97, 114, 114, 105, 101, 115, 32, 116, 97, 107, 101, 115, 32, 97, 100, 100, 115, 32, 105, 102, 32, 116, 104, 101, 110, 32, 101, 108, 115, 101, 32, 101, 110, 100, 32, 119, 101, 115, 116, 32, 115, 101, 101, 110, 32, 97, 110, 100, 32, 111, 114, 32, 110, 111, 116, 32]) rfl u_35 (iv_w bu_35 (by decide)) (iv_lt bu_35 (iv_c (116 : Int32) (a := 116) (b := 116) (by decide)) (by decide))) mt_J0_charAt_5068e q_6_134 ⟨Nat.le_of_ble_eq_true rfl, Nat.le_of_ble_eq_true rfl⟩ hK hP hD hS hA hE [] rfl rfl (o_recv (hE.2.2.2.2.2.2 35 ("BeaconDelayModel", 103, " coast weather hill stack fear gap took village needs road carries takes adds if then else end west seen and or not ", [32, 99, 111, 97, 115, 116, 32, 119, 101, 97, 116, 104, 101, 114, 32, 104, 105, 108, 108, 32, 115, 116, 97, 99, 107, 32, 102, 101, 97, 114, 32, 103, 97, 112, 32, 116, 111, 111, 107, 32, 118, 105, 108, 108, 97, 103, 101, 32, 110, 101, 101, 100, 115, 32, 114, 111, 97, 100, 32, 99, 97, 114, 114, 105, 101, 115, 32, 116, 97, 107, 101, 115, 32, 97, 100, 100, 115, 32, 105, 102, 32, 116, 104, 101, 110, 32, 101, 108, 115, 101, 32, 101, 110, 100, 32, 119, 101, 115, 116, 32, 115, 101, 101, 110, 32, 97, 110, 100, 32, 111, 114, 32, 110, 111, 116, 32]) rfl).2.1 hS) rfl hl.1 rfl (Nat.le_of_ble_eq_true rfl) dX10_keyAt_100 ⟨Nat.le_of_ble_eq_true rfl, Nat.le_of_ble_eq_true rfl⟩) hP hD hS hA [] [0, 1] rfl rfl rfl (by decide) (fun r_37 w H locs hw hP hD hS => ?_)
        obtain ⟨er_37, rfl⟩ := hw
        have hP : va_P V.1 vwCl [(z 0, .inr (10, mo z pz0_0 pz0_5 pz0_6 pz0_7 pz0_8 pz0_9 pz0_10 pz0_11 pz0_12 pz0_13 pz0_14 pz0_18 pz0_19 pz0_22 pz0_23 pz0_29)), (z 3, aI V 900 fz3)] H := hP
        have hD := cpD hP hD
        refine lv_bipush (v := 32) hx hb dX10_keyAt_103 (by decide) ?_
        refine lv_icmp_eq (tgt := 114) hx hb dX10_keyAt_105 (by decide) (fun c_38 => ?_) (fun c_38 => ?_)
        · have b_39 : iv 32 32 r_37 := iv_q c_38 (iv_c (32 : Int32) (a := 32) (b := 32) (by decide))
          obtain ⟨x_40, ex_40⟩ : ∃ z9 : Int32, z9 = u_35 + 1 := ⟨_, rfl⟩
          have bx_40 : iv 2 116 x_40 := by rw [ex_40]; exact iv_add bu_35 (iv_c (1 : Int32) (a := 1) (b := 1) (by decide)) (by decide)
          refine lv_iinc (v := x_40) (lv' := [(2, .int x_40), (3, .int u_8), (1, .int u_2), (0, .ref (z 0))]) hx hb dX10_keyAt_114 hl (k := 1) rfl (by rw [ex_40]; rfl) (by decide) rfl (fun ls hl => ?_)
          obtain ⟨x_41, ex_41⟩ : ∃ z9 : Int32, z9 = u_2 + 1 := ⟨_, rfl⟩
          refine lv_iinc (v := x_41) (lv' := [(1, .int x_41), (2, .int x_40), (3, .int u_8), (0, .ref (z 0))]) hx hb dX10_keyAt_117 hl (k := 2) rfl (by rw [ex_41]; rfl) (by decide) rfl (fun ls hl => ?_)
          refine lv_goto (tgt := 4) hx hb dX10_keyAt_120 (by decide) ?_
          exact ihn_3 _ _ _ _ (by rw [en_3]; have q9 := inn_36_0; have q8 := inc_toInt ex_40 bu_35 (by decide); have q7 := bx_40; unfold iv at q7; omega) ⟨x_40, x_41, (iv_w bx_40 (by decide)), (KS_e inn_36_1 er_37 c_38 ex_40 ex_41), rfl, hP, hD, hS, lv_sub hl [1, 0, 3] rfl⟩
        · have b_42 : iv 1 114 u_35 := by have q9 := chK bu_35 (by decide) er_37 c_38; have q8 := bu_35; unfold iv at *; omega
          obtain ⟨x_43, ex_43⟩ : ∃ z9 : Int32, z9 = u_35 + 1 := ⟨_, rfl⟩
          have bx_43 : iv 2 115 x_43 := by rw [ex_43]; exact iv_add b_42 (iv_c (1 : Int32) (a := 1) (b := 1) (by decide)) (by decide)
          refine lv_iinc (v := x_43) (lv' := [(2, .int x_43), (3, .int u_8), (1, .int u_2), (0, .ref (z 0))]) hx hb dX10_keyAt_108 hl (k := 1) rfl (by rw [ex_43]; rfl) (by decide) rfl (fun ls hl => ?_)
          refine lv_goto (tgt := 97) hx hb dX10_keyAt_111 (by decide) ?_
          exact ihn_36 _ _ _ _ (by rw [en_36, ex_43]; exact mu_up b_42 (by decide)) ⟨x_43, (iv_w bx_43 (by decide)), (by have q9 := inn_36_0; have q8 := inc_toInt ex_43 b_42 (by decide); omega), (KS_s inn_36_1 er_37 c_38 ex_43), rfl, hP, hD, hS, lv_sub hl [1, 0, 2, 3] rfl⟩
      · have b_44 : iv 0 899 x_30 := iv_l1 (Int32.not_le.mp c_31) bx_30 bpz0_7 (by decide)
        have b_45 : iv 1 900 pz0_7 := iv_l2 (Int32.not_le.mp c_31) bx_30 bpz0_7 (by decide)
        refine lv_aload_n hx hb dX10_keyAt_41 rfl (lv_at hl 3 rfl) ?_
        refine va_get (ci := 10) (v := .ref (z 3)) (C := RX10) (T := TX10) (N := 40) hx hb hg inX10 hown hK hP 0 rfl rfl 3 (by decide) (hg _ q_5_227) (fun _ h9 => h9) rfl dX10_keyAt_42 ?_
        refine lv_aload_n hx hb dX10_keyAt_45 rfl (lv_at hl 3 rfl) ?_
        refine va_get (ci := 10) (v := .int pz0_6) (C := RX10) (T := TX10) (N := 40) hx hb hg inX10 hown hK hP 0 rfl rfl 6 (by decide) (hg _ q_5_230) (fun _ h9 => h9) rfl dX10_keyAt_46 ?_
        refine lv_iload_n hx hb dX10_keyAt_49 rfl (lv_at hl 0 rfl) ?_
        refine lv_iadd hx hb dX10_keyAt_50 ?_
        refine tpi (y := x_30) ex_30.symm ?_
        refine va_iald hx hb hK hP 1 0 rfl rfl (iv_in b_44 (by decide)) dX10_keyAt_51 ?_
        refine lv_topi (fun x_46 ex_46 => ?_)
        have bx_46 : iv 0 255 x_46 := by rw [ex_46]; exact tfz3 _
        refine va_ldcS hx hb hown (hE.2.2.2.2.2.2 35 ("BeaconDelayModel", 103, " coast weather hill stack fear gap took village needs road carries takes adds if then else end west seen and or not ", [32, 99, 111, 97, 115, 116, 32, 119, 101, 97, 116, 104, 101, 114, 32, 104, 105, 108, 108, 32, 115, 116, 97, 99, 107, 32, 102, 101, 97, 114, 32, 103, 97, 112, 32, 116, 111, 111, 107, 32, 118, 105, 108, 108, 97, 103, 101, 32, 110, 101, 101, 100, 115, 32, 114, 111, 97, 100, 32, 99, 97, 114, 114, 105, 101, 115, 32, 116, 97, 107, 101, 115, 32, 97, 100, 100, 115, 32, 105, 102, 32, 116, 104, 101, 110, 32, 101, 108, 115, 101, 32, 101, 110, 100, 32, 119, 101, 115, 116, 32, 115, 101, 101, 110, 32, 97, 110, 100, 32, 111, 114, 32, 110, 111, 116, 32]) rfl).1 dX10_keyAt_52 ?_
        refine lv_iload_n hx hb dX10_keyAt_54 rfl (lv_at hl 1 rfl) ?_
        refine lv_iload_n hx hb dX10_keyAt_55 rfl (lv_at hl 0 rfl) ?_
        refine lv_iadd hx hb dX10_keyAt_56 ?_
        refine tpi (y := x_10) ex_10.symm ?_
        refine jnI (wr := [(z 0, .inr (10, mo z pz0_0 pz0_5 pz0_6 pz0_7 pz0_8 pz0_9 pz0_10 pz0_11 pz0_12 pz0_13 pz0_14 pz0_18 pz0_19 pz0_22 pz0_23 pz0_29)), (z 3, aI V 900 fz3)]) (rnVx (rest := [.int x_46]) ⟨hx, hb, hml, hown, hg⟩ (k_J0_charAt_5068e_0 l V 35 ("BeaconDelayModel", 103, " coast weather hill stack fear gap took village needs road carries takes adds if then else end west seen and or not ", [32, 99, 111, 97, 115, 116, 32, 119, 101, 97, 116, 104, 101, 114, 32, 104, 105, 108, 108, 32, 115, 116, 97, 99, 107, 32, 102, 101, 97, 114, 32, 103, 97, 112, 32, 116, 111, 111, 107, 32, 118, 105, 108, 108, 97, 103, 101, 32, 110, 101, 101, 100, 115, 32, 114, 111, 97, 100, 32, 99, 97, 114, 114, 105, 101, 115, 32, 116, 97, 107, 101, 115, 32, 97, 100, 100, 115, 32, 105, 102, 32, 116, 104, 101, 110, 32, 101, 108, 115, 101, 32, 101, 110, 100, 32, 119, 101, 115, 116, 32, 115, 101, 101, 110, 32, 97, 110, 100, 32, 111, 114, 32, 110, 111, 116, 32]) rfl x_10 (iv_w b_11 (by decide)) (iv_lt b_11 (iv_c (116 : Int32) (a := 116) (b := 116) (by decide)) (by decide))) mt_J0_charAt_5068e q_6_134 ⟨Nat.le_of_ble_eq_true rfl, Nat.le_of_ble_eq_true rfl⟩ hK hP hD hS hA hE [] rfl rfl (o_recv (hE.2.2.2.2.2.2 35 ("BeaconDelayModel", 103, " coast weather hill stack fear gap took village needs road carries takes adds if then else end west seen and or not ", [32, 99, 111, 97, 115, 116, 32, 119, 101, 97, 116, 104, 101, 114, 32, 104, 105, 108, 108, 32, 115, 116, 97, 99, 107, 32, 102, 101, 97, 114, 32, 103, 97, 112, 32, 116, 111, 111, 107, 32, 118, 105, 108, 108, 97, 103, 101, 32, 110, 101, 101, 100, 115, 32, 114, 111, 97, 100, 32, 99, 97, 114, 114, 105, 101, 115, 32, 116, 97, 107, 101, 115, 32, 97, 100, 100, 115, 32, 105, 102, 32, 116, 104, 101, 110, 32, 101, 108, 115, 101, 32, 101, 110, 100, 32, 119, 101, 115, 116, 32, 115, 101, 101, 110, 32, 97, 110, 100, 32, 111, 114, 32, 110, 111, 116, 32]) rfl).2.1 hS) rfl hl.1 rfl (Nat.le_of_ble_eq_true rfl) dX10_keyAt_57 ⟨Nat.le_of_ble_eq_true rfl, Nat.le_of_ble_eq_true rfl⟩) hP hD hS hA [] [0, 1] rfl rfl rfl (by decide) (fun r_47 w H locs hw hP hD hS => ?_)
        obtain ⟨er_47, rfl⟩ := hw
        have e9_r_47 : r_47 = r_12 := er_47.trans er_12.symm
        rw [e9_r_47]
        have hP : va_P V.1 vwCl [(z 0, .inr (10, mo z pz0_0 pz0_5 pz0_6 pz0_7 pz0_8 pz0_9 pz0_10 pz0_11 pz0_12 pz0_13 pz0_14 pz0_18 pz0_19 pz0_22 pz0_23 pz0_29)), (z 3, aI V 900 fz3)] H := hP
        have hD := cpD hP hD
        refine lv_icmp_ne (tgt := 69) hx hb dX10_keyAt_60 (by decide) (fun c_48 => ?_) (fun c_48 => ?_)
        · refine va_ldcS hx hb hown (hE.2.2.2.2.2.2 35 ("BeaconDelayModel", 103, " coast weather hill stack fear gap took village needs road carries takes adds if then else end west seen and or not ", [32, 99, 111, 97, 115, 116, 32, 119, 101, 97, 116, 104, 101, 114, 32, 104, 105, 108, 108, 32, 115, 116, 97, 99, 107, 32, 102, 101, 97, 114, 32, 103, 97, 112, 32, 116, 111, 111, 107, 32, 118, 105, 108, 108, 97, 103, 101, 32, 110, 101, 101, 100, 115, 32, 114, 111, 97, 100, 32, 99, 97, 114, 114, 105, 101, 115, 32, 116, 97, 107, 101, 115, 32, 97, 100, 100, 115, 32, 105, 102, 32, 116, 104, 101, 110, 32, 101, 108, 115, 101, 32, 101, 110, 100, 32, 119, 101, 115, 116, 32, 115, 101, 101, 110, 32, 97, 110, 100, 32, 111, 114, 32, 110, 111, 116, 32]) rfl).1 dX10_keyAt_69 ?_
          refine lv_iload_n hx hb dX10_keyAt_71 rfl (lv_at hl 1 rfl) ?_
          refine lv_iload_n hx hb dX10_keyAt_72 rfl (lv_at hl 0 rfl) ?_
          refine lv_iadd hx hb dX10_keyAt_73 ?_
          refine tpi (y := x_10) ex_10.symm ?_
          refine jnI (wr := [(z 0, .inr (10, mo z pz0_0 pz0_5 pz0_6 pz0_7 pz0_8 pz0_9 pz0_10 pz0_11 pz0_12 pz0_13 pz0_14 pz0_18 pz0_19 pz0_22 pz0_23 pz0_29)), (z 3, aI V 900 fz3)]) (rnVx (rest := []) ⟨hx, hb, hml, hown, hg⟩ (k_J0_charAt_5068e_0 l V 35 ("BeaconDelayModel", 103, " coast weather hill stack fear gap took village needs road carries takes adds if then else end west seen and or not ", [32, 99, 111, 97, 115, 116, 32, 119, 101, 97, 116, 104, 101, 114, 32, 104, 105, 108, 108, 32, 115, 116, 97, 99, 107, 32, 102, 101, 97, 114, 32, 103, 97, 112, 32, 116, 111, 111, 107, 32, 118, 105, 108, 108, 97, 103, 101, 32, 110, 101, 101, 100, 115, 32, 114, 111, 97, 100, 32, 99, 97, 114, 114, 105, 101, 115, 32, 116, 97, 107, 101, 115, 32, 97, 100, 100, 115, 32, 105, 102, 32, 116, 104, 101, 110, 32, 101, 108, 115, 101, 32, 101, 110, 100, 32, 119, 101, 115, 116, 32, 115, 101, 101, 110, 32, 97, 110, 100, 32, 111, 114, 32, 110, 111, 116, 32]) rfl x_10 (iv_w b_11 (by decide)) (iv_lt b_11 (iv_c (116 : Int32) (a := 116) (b := 116) (by decide)) (by decide))) mt_J0_charAt_5068e q_6_134 ⟨Nat.le_of_ble_eq_true rfl, Nat.le_of_ble_eq_true rfl⟩ hK hP hD hS hA hE [] rfl rfl (o_recv (hE.2.2.2.2.2.2 35 ("BeaconDelayModel", 103, " coast weather hill stack fear gap took village needs road carries takes adds if then else end west seen and or not ", [32, 99, 111, 97, 115, 116, 32, 119, 101, 97, 116, 104, 101, 114, 32, 104, 105, 108, 108, 32, 115, 116, 97, 99, 107, 32, 102, 101, 97, 114, 32, 103, 97, 112, 32, 116, 111, 111, 107, 32, 118, 105, 108, 108, 97, 103, 101, 32, 110, 101, 101, 100, 115, 32, 114, 111, 97, 100, 32, 99, 97, 114, 114, 105, 101, 115, 32, 116, 97, 107, 101, 115, 32, 97, 100, 100, 115, 32, 105, 102, 32, 116, 104, 101, 110, 32, 101, 108, 115, 101, 32, 101, 110, 100, 32, 119, 101, 115, 116, 32, 115, 101, 101, 110, 32, 97, 110, 100, 32, 111, 114, 32, 110, 111, 116, 32]) rfl).2.1 hS) rfl hl.1 rfl (Nat.le_of_ble_eq_true rfl) dX10_keyAt_74 ⟨Nat.le_of_ble_eq_true rfl, Nat.le_of_ble_eq_true rfl⟩) hP hD hS hA [] [0, 1] rfl rfl rfl (by decide) (fun r_49 w H locs hw hP hD hS => ?_)
          obtain ⟨er_49, rfl⟩ := hw
          have e9_r_49 : r_49 = r_12 := er_49.trans er_12.symm
          rw [e9_r_49]
          have hP : va_P V.1 vwCl [(z 0, .inr (10, mo z pz0_0 pz0_5 pz0_6 pz0_7 pz0_8 pz0_9 pz0_10 pz0_11 pz0_12 pz0_13 pz0_14 pz0_18 pz0_19 pz0_22 pz0_23 pz0_29)), (z 3, aI V 900 fz3)] H := hP
          have hD := cpD hP hD
          refine lv_bipush (v := 32) hx hb dX10_keyAt_77 (by decide) ?_
          refine lv_icmp_ne (tgt := 97) hx hb dX10_keyAt_79 (by decide) (fun _ => ?_) (fun c_51 => absurd c_51 c_13)
          refine loopF (X := fun (n_53 : Nat) (H : Heap) (locs : List Loc) (ls : Array Slot) => ∃ (u_52 : Int32), (iv 1 115 u_52) ∧ ((u_1 : Int32).toInt ≤ (u_52 : Int32).toInt) ∧ (KS fz3 pz0_6 pz0_7 u_1 u_52 u_2) ∧ n_53 = (2147483647 - (u_52 : Int32).toInt).toNat ∧ va_P V.1 vwCl [(z 0, .inr (10, mo z pz0_0 pz0_5 pz0_6 pz0_7 pz0_8 pz0_9 pz0_10 pz0_11 pz0_12 pz0_13 pz0_14 pz0_18 pz0_19 pz0_22 pz0_23 pz0_29)), (z 3, aI V 900 fz3)] H ∧ va_D A [(z 0, .inr (10, mo z pz0_0 pz0_5 pz0_6 pz0_7 pz0_8 pz0_9 pz0_10 pz0_11 pz0_12 pz0_13 pz0_14 pz0_18 pz0_19 pz0_22 pz0_23 pz0_29)), (z 3, aI V 900 fz3)] ∧ va_S A s.heap H locs ∧ lv_has ls 4 [(3, .int u_8), (2, .int u_52), (1, .int u_2), (0, .ref (z 0))]) (g := fun ls => F0 m 97 ls []) (fun n_53 H locs ls hX ihn_53 => ?_) _ ⟨u_1, b_7, (Int.le_refl _), (KS_0 (ka_miss inn_3_0 (Int.lt_of_lt_of_le (Int32.lt_iff_toInt_lt.mp (Int32.not_le.mp c_5)) (by decide +kernel)) inn_9_1 bu_8 (by decide) bpz0_6 (iv_w b_45 (by decide)) hf0 ex_10 er_12 ex_30 (Or.inl ⟨c_13, Or.inr (by rw [← ex_46]; exact c_48)⟩))), rfl, hP, hD, hS, lv_sub hl [0, 1, 2, 3] rfl⟩
          obtain ⟨u_52, bu_52, inn_53_0, inn_53_1, en_53, hP, hD, hS, hl⟩ := hX
          refine va_ldcS hx hb hown (hE.2.2.2.2.2.2 35 ("BeaconDelayModel", 103, " coast weather hill stack fear gap took village needs road carries takes adds if then else end west seen and or not ", [32, 99, 111, 97, 115, 116, 32, 119, 101, 97, 116, 104, 101, 114, 32, 104, 105, 108, 108, 32, 115, 116, 97, 99, 107, 32, 102, 101, 97, 114, 32, 103, 97, 112, 32, 116, 111, 111, 107, 32, 118, 105, 108, 108, 97, 103, 101, 32, 110, 101, 101, 100, 115, 32, 114, 111, 97, 100, 32, 99, 97, 114, 114, 105, 101, 115, 32, 116, 97, 107, 101, 115, 32, 97, 100, 100, 115, 32, 105, 102, 32, 116, 104, 101, 110, 32, 101, 108, 115, 101, 32, 101, 110, 100, 32, 119, 101, 115, 116, 32, 115, 101, 101, 110, 32, 97, 110, 100, 32, 111, 114, 32, 110, 111, 116, 32]) rfl).1 dX10_keyAt_97 ?_
          refine lv_iload_n hx hb dX10_keyAt_99 rfl (lv_at hl 1 rfl) ?_
          refine jnI (wr := [(z 0, .inr (10, mo z pz0_0 pz0_5 pz0_6 pz0_7 pz0_8 pz0_9 pz0_10 pz0_11 pz0_12 pz0_13 pz0_14 pz0_18 pz0_19 pz0_22 pz0_23 pz0_29)), (z 3, aI V 900 fz3)]) (rnVx (rest := []) ⟨hx, hb, hml, hown, hg⟩ (k_J0_charAt_5068e_0 l V 35 ("BeaconDelayModel", 103, " coast weather hill stack fear gap took village needs road carries takes adds if then else end west seen and or not ", [32, 99, 111, 97, 115, 116, 32, 119, 101, 97, 116, 104, 101, 114, 32, 104, 105, 108, 108, 32, 115, 116, 97, 99, 107, 32, 102, 101, 97, 114, 32, 103, 97, 112, 32, 116, 111, 111, 107, 32, 118, 105, 108, 108, 97, 103, 101, 32, 110, 101, 101, 100, 115, 32, 114, 111, 97, 100, 32, 99, 97, 114, 114, 105, 101, 115, 32, 116, 97, 107, 101, 115, 32, 97, 100, 100, 115, 32, 105, 102, 32, 116, 104, 101, 110, 32, 101, 108, 115, 101, 32, 101, 110, 100, 32, 119, 101, 115, 116, 32, 115, 101, 101, 110, 32, 97, 110, 100, 32, 111, 114, 32, 110, 111, 116, 32]) rfl u_52 (iv_w bu_52 (by decide)) (iv_lt bu_52 (iv_c (116 : Int32) (a := 116) (b := 116) (by decide)) (by decide))) mt_J0_charAt_5068e q_6_134 ⟨Nat.le_of_ble_eq_true rfl, Nat.le_of_ble_eq_true rfl⟩ hK hP hD hS hA hE [] rfl rfl (o_recv (hE.2.2.2.2.2.2 35 ("BeaconDelayModel", 103, " coast weather hill stack fear gap took village needs road carries takes adds if then else end west seen and or not ", [32, 99, 111, 97, 115, 116, 32, 119, 101, 97, 116, 104, 101, 114, 32, 104, 105, 108, 108, 32, 115, 116, 97, 99, 107, 32, 102, 101, 97, 114, 32, 103, 97, 112, 32, 116, 111, 111, 107, 32, 118, 105, 108, 108, 97, 103, 101, 32, 110, 101, 101, 100, 115, 32, 114, 111, 97, 100, 32, 99, 97, 114, 114, 105, 101, 115, 32, 116, 97, 107, 101, 115, 32, 97, 100, 100, 115, 32, 105, 102, 32, 116, 104, 101, 110, 32, 101, 108, 115, 101, 32, 101, 110, 100, 32, 119, 101, 115, 116, 32, 115, 101, 101, 110, 32, 97, 110, 100, 32, 111, 114, 32, 110, 111, 116, 32]) rfl).2.1 hS) rfl hl.1 rfl (Nat.le_of_ble_eq_true rfl) dX10_keyAt_100 ⟨Nat.le_of_ble_eq_true rfl, Nat.le_of_ble_eq_true rfl⟩) hP hD hS hA [] [0, 1] rfl rfl rfl (by decide) (fun r_54 w H locs hw hP hD hS => ?_)
          obtain ⟨er_54, rfl⟩ := hw
          have hP : va_P V.1 vwCl [(z 0, .inr (10, mo z pz0_0 pz0_5 pz0_6 pz0_7 pz0_8 pz0_9 pz0_10 pz0_11 pz0_12 pz0_13 pz0_14 pz0_18 pz0_19 pz0_22 pz0_23 pz0_29)), (z 3, aI V 900 fz3)] H := hP
          have hD := cpD hP hD
          refine lv_bipush (v := 32) hx hb dX10_keyAt_103 (by decide) ?_
          refine lv_icmp_eq (tgt := 114) hx hb dX10_keyAt_105 (by decide) (fun c_55 => ?_) (fun c_55 => ?_)
          · have b_56 : iv 32 32 r_54 := iv_q c_55 (iv_c (32 : Int32) (a := 32) (b := 32) (by decide))
            obtain ⟨x_57, ex_57⟩ : ∃ z9 : Int32, z9 = u_52 + 1 := ⟨_, rfl⟩
            have bx_57 : iv 2 116 x_57 := by rw [ex_57]; exact iv_add bu_52 (iv_c (1 : Int32) (a := 1) (b := 1) (by decide)) (by decide)
            refine lv_iinc (v := x_57) (lv' := [(2, .int x_57), (3, .int u_8), (1, .int u_2), (0, .ref (z 0))]) hx hb dX10_keyAt_114 hl (k := 1) rfl (by rw [ex_57]; rfl) (by decide) rfl (fun ls hl => ?_)
            obtain ⟨x_58, ex_58⟩ : ∃ z9 : Int32, z9 = u_2 + 1 := ⟨_, rfl⟩
            refine lv_iinc (v := x_58) (lv' := [(1, .int x_58), (2, .int x_57), (3, .int u_8), (0, .ref (z 0))]) hx hb dX10_keyAt_117 hl (k := 2) rfl (by rw [ex_58]; rfl) (by decide) rfl (fun ls hl => ?_)
            refine lv_goto (tgt := 4) hx hb dX10_keyAt_120 (by decide) ?_
            exact ihn_3 _ _ _ _ (by rw [en_3]; have q9 := inn_53_0; have q8 := inc_toInt ex_57 bu_52 (by decide); have q7 := bx_57; unfold iv at q7; omega) ⟨x_57, x_58, (iv_w bx_57 (by decide)), (KS_e inn_53_1 er_54 c_55 ex_57 ex_58), rfl, hP, hD, hS, lv_sub hl [1, 0, 3] rfl⟩
          · have b_59 : iv 1 114 u_52 := by have q9 := chK bu_52 (by decide) er_54 c_55; have q8 := bu_52; unfold iv at *; omega
            obtain ⟨x_60, ex_60⟩ : ∃ z9 : Int32, z9 = u_52 + 1 := ⟨_, rfl⟩
            have bx_60 : iv 2 115 x_60 := by rw [ex_60]; exact iv_add b_59 (iv_c (1 : Int32) (a := 1) (b := 1) (by decide)) (by decide)
            refine lv_iinc (v := x_60) (lv' := [(2, .int x_60), (3, .int u_8), (1, .int u_2), (0, .ref (z 0))]) hx hb dX10_keyAt_108 hl (k := 1) rfl (by rw [ex_60]; rfl) (by decide) rfl (fun ls hl => ?_)
            refine lv_goto (tgt := 97) hx hb dX10_keyAt_111 (by decide) ?_
            exact ihn_53 _ _ _ _ (by rw [en_53, ex_60]; exact mu_up b_59 (by decide)) ⟨x_60, (iv_w bx_60 (by decide)), (by have q9 := inn_53_0; have q8 := inc_toInt ex_60 b_59 (by decide); omega), (KS_s inn_53_1 er_54 c_55 ex_60), rfl, hP, hD, hS, lv_sub hl [1, 0, 2, 3] rfl⟩
        · have b_61 : iv 0 255 r_12 := iv_q c_48.symm bx_46
          have b_62 : iv 0 114 u_8 := by have q9 := inn_9_0; have q8 := bu_8; have q7 := b_7; unfold iv at *; omega
          obtain ⟨x_63, ex_63⟩ : ∃ z9 : Int32, z9 = u_8 + 1 := ⟨_, rfl⟩
          have bx_63 : iv 1 115 x_63 := by rw [ex_63]; exact iv_add b_62 (iv_c (1 : Int32) (a := 1) (b := 1) (by decide)) (by decide)
          refine lv_iinc (v := x_63) (lv' := [(3, .int x_63), (2, .int u_1), (1, .int u_2), (0, .ref (z 0))]) hx hb dX10_keyAt_63 hl (k := 0) rfl (by rw [ex_63]; rfl) (by decide) rfl (fun ls hl => ?_)
          refine lv_goto (tgt := 15) hx hb dX10_keyAt_66 (by decide) ?_
          exact ihn_9 _ _ _ _ (by rw [en_9, ex_63]; exact mu_up b_62 (by decide)) ⟨x_63, (iv_w bx_63 (by decide)), (by have q9 := chK b_11 (by decide) er_12 c_13; have q8 := toInt_add ex_10 b_7 b_62 (by decide); have q7 := inc_toInt ex_63 b_62 (by decide); omega), (KJ_s (d := 0) inn_9_1 b_62 (by decide) bpz0_6 ex_10 er_12 c_13 ex_30 (Int32.not_le.mp c_31) ex_46 c_48 ex_63), rfl, hP, hD, hS, lv_sub hl [0, 1, 2, 3] rfl⟩
theorem dX10_next_0 : decode cX10_next 0 = .ok (.aload_n 0, 1) := by decide +kernel
theorem dX10_next_1 : decode cX10_next 1 = .ok (.aload_n 0, 1) := by decide +kernel
theorem dX10_next_2 : decode cX10_next 2 = .ok (.getfield 118, 3) := by decide +kernel
theorem dX10_next_5 : decode cX10_next 5 = .ok (.putfield 115, 3) := by decide +kernel
theorem dX10_next_8 : decode cX10_next 8 = .ok (.aload_n 0, 1) := by decide +kernel
theorem dX10_next_9 : decode cX10_next 9 = .ok (.aload_n 0, 1) := by decide +kernel
theorem dX10_next_10 : decode cX10_next 10 = .ok (.getfield 115, 3) := by decide +kernel
theorem q_6_124 : Cond.code yX10_see prog_12_method_6_code 2 (some FieldType.int) ∈ gw := gw_6 (i := 124) (rfl) rfl
theorem q_1_9 : Cond.initialized "BeaconDelayModel" ∈ gw := gw_1 (i := 9) (by decide +kernel) rfl
theorem q_6_123 : Cond.instanceMethod yX10_see ∈ gw := gw_6 (i := 123) (by decide +kernel) rfl
theorem q_s_55 : Cond.selects "BeaconDelayModel" yX10_see yX10_see ∈ gw := gw_s (i := 55) (by decide +kernel) rfl
theorem mt_X10_see : MtV yX10_see cX10_see 2 (some .int) 1 := ⟨⟨q_6_124, q_1_9, by decide +kernel, by decide +kernel, by decide +kernel⟩, q_6_123, q_s_55⟩
theorem q_6_121 : Cond.methodLink "BeaconDelayModel" 121 yX10_see ∈ gw := gw_6 (i := 121) (by decide +kernel) rfl
theorem dX10_next_13 : decode cX10_next 13 = .ok (.invokevirtual 121, 3) := by decide +kernel
theorem dX10_next_16 : decode cX10_next 16 = .ok (.bipush 10, 2) := by decide +kernel
theorem dX10_next_18 : decode cX10_next 18 = .ok (.if_icmp .eq 16, 3) := by decide +kernel
theorem dX10_next_34 : decode cX10_next 34 = .ok (.aload_n 0, 1) := by decide +kernel
theorem dX10_next_35 : decode cX10_next 35 = .ok (.dup, 1) := by decide +kernel
theorem dX10_next_36 : decode cX10_next 36 = .ok (.getfield 115, 3) := by decide +kernel
theorem dX10_next_39 : decode cX10_next 39 = .ok (.iconst 1, 1) := by decide +kernel
theorem dX10_next_40 : decode cX10_next 40 = .ok (.iadd, 1) := by decide +kernel
theorem dX10_next_41 : decode cX10_next 41 = .ok (.putfield 115, 3) := by decide +kernel
theorem dX10_next_44 : decode cX10_next 44 = .ok (.goto (-36), 3) := by decide +kernel
theorem dX10_next_21 : decode cX10_next 21 = .ok (.aload_n 0, 1) := by decide +kernel
theorem dX10_next_22 : decode cX10_next 22 = .ok (.aload_n 0, 1) := by decide +kernel
theorem dX10_next_23 : decode cX10_next 23 = .ok (.getfield 115, 3) := by decide +kernel
theorem dX10_next_26 : decode cX10_next 26 = .ok (.invokevirtual 121, 3) := by decide +kernel
theorem dX10_next_29 : decode cX10_next 29 = .ok (.bipush 32, 2) := by decide +kernel
theorem dX10_next_31 : decode cX10_next 31 = .ok (.if_icmp .ne 16, 3) := by decide +kernel
theorem dX10_next_47 : decode cX10_next 47 = .ok (.aload_n 0, 1) := by decide +kernel
theorem dX10_next_48 : decode cX10_next 48 = .ok (.aload_n 0, 1) := by decide +kernel
theorem dX10_next_49 : decode cX10_next 49 = .ok (.getfield 115, 3) := by decide +kernel
theorem dX10_next_52 : decode cX10_next 52 = .ok (.putfield 118, 3) := by decide +kernel
theorem dX10_next_55 : decode cX10_next 55 = .ok (.aload_n 0, 1) := by decide +kernel
theorem dX10_next_56 : decode cX10_next 56 = .ok (.getfield 115, 3) := by decide +kernel
theorem dX10_next_59 : decode cX10_next 59 = .ok (.aload_n 0, 1) := by decide +kernel
theorem dX10_next_60 : decode cX10_next 60 = .ok (.getfield 100, 3) := by decide +kernel
theorem dX10_next_63 : decode cX10_next 63 = .ok (.if_icmp .lt 12, 3) := by decide +kernel
theorem dX10_next_75 : decode cX10_next 75 = .ok (.aload_n 0, 1) := by decide +kernel
theorem dX10_next_76 : decode cX10_next 76 = .ok (.aload_n 0, 1) := by decide +kernel
theorem dX10_next_77 : decode cX10_next 77 = .ok (.getfield 115, 3) := by decide +kernel
theorem dX10_next_80 : decode cX10_next 80 = .ok (.invokevirtual 121, 3) := by decide +kernel
theorem q_6_127 : Cond.code yX10_isSmall prog_12_method_7_code 1 (some FieldType.boolean) ∈ gw := gw_6 (i := 127) (rfl) rfl
theorem q_6_126 : Cond.static yX10_isSmall ∈ gw := gw_6 (i := 126) (by decide +kernel) rfl
theorem mt_X10_isSmall : MtS yX10_isSmall cX10_isSmall 1 (some .boolean) 1 := ⟨⟨q_6_127, q_1_9, by decide +kernel, by decide +kernel, by decide +kernel⟩, q_6_126⟩
theorem q_6_125 : Cond.methodLink "BeaconDelayModel" 128 yX10_isSmall ∈ gw := gw_6 (i := 125) (by decide +kernel) rfl
theorem dX10_next_83 : decode cX10_next 83 = .ok (.invokestatic 128, 3) := by decide +kernel
theorem dX10_next_86 : decode cX10_next 86 = .ok (.ifCond .eq 41, 3) := by decide +kernel
theorem dX10_next_127 : decode cX10_next 127 = .ok (.aload_n 0, 1) := by decide +kernel
theorem dX10_next_128 : decode cX10_next 128 = .ok (.aload_n 0, 1) := by decide +kernel
theorem dX10_next_129 : decode cX10_next 129 = .ok (.getfield 115, 3) := by decide +kernel
theorem dX10_next_132 : decode cX10_next 132 = .ok (.invokevirtual 121, 3) := by decide +kernel
theorem q_6_137 : Cond.code yX10_isDigit prog_12_method_8_code 1 (some FieldType.boolean) ∈ gw := gw_6 (i := 137) (rfl) rfl
theorem q_6_136 : Cond.static yX10_isDigit ∈ gw := gw_6 (i := 136) (by decide +kernel) rfl
theorem mt_X10_isDigit : MtS yX10_isDigit cX10_isDigit 1 (some .boolean) 1 := ⟨⟨q_6_137, q_1_9, by decide +kernel, by decide +kernel, by decide +kernel⟩, q_6_136⟩
theorem q_6_135 : Cond.methodLink "BeaconDelayModel" 135 yX10_isDigit ∈ gw := gw_6 (i := 135) (by decide +kernel) rfl
theorem dX10_next_135 : decode cX10_next 135 = .ok (.invokestatic 135, 3) := by decide +kernel
theorem dX10_next_138 : decode cX10_next 138 = .ok (.ifCond .eq 98, 3) := by decide +kernel
theorem dX10_next_236 : decode cX10_next 236 = .ok (.aload_n 0, 1) := by decide +kernel
theorem dX10_next_237 : decode cX10_next 237 = .ok (.dup, 1) := by decide +kernel
theorem dX10_next_238 : decode cX10_next 238 = .ok (.getfield 118, 3) := by decide +kernel
theorem dX10_next_241 : decode cX10_next 241 = .ok (.iconst 1, 1) := by decide +kernel
theorem dX10_next_242 : decode cX10_next 242 = .ok (.iadd, 1) := by decide +kernel
theorem dX10_next_243 : decode cX10_next 243 = .ok (.putfield 118, 3) := by decide +kernel
theorem dX10_next_246 : decode cX10_next 246 = .ok (.aload_n 0, 1) := by decide +kernel
theorem dX10_next_247 : decode cX10_next 247 = .ok (.bipush 25, 2) := by decide +kernel
theorem q_5_233 : Cond.fieldLink "BeaconDelayModel" 125 "BeaconDelayModel" "kind" "I" ∈ gw := gw_5 (i := 233) (by decide +kernel) rfl
theorem dX10_next_249 : decode cX10_next 249 = .ok (.putfield 125, 3) := by decide +kernel
theorem dX10_next_252 : decode cX10_next 252 = .ok (.iconst 0, 1) := by decide +kernel
theorem dX10_next_253 : decode cX10_next 253 = .ok (.istore_n 1, 1) := by decide +kernel
theorem dX10_next_254 : decode cX10_next 254 = .ok (.iload_n 1, 1) := by decide +kernel
theorem dX10_next_255 : decode cX10_next 255 = .ok (.ldc 141, 2) := by decide +kernel
theorem dX10_next_257 : decode cX10_next 257 = .ok (.invokevirtual 105, 3) := by decide +kernel
theorem dX10_next_260 : decode cX10_next 260 = .ok (.if_icmp .ge 34, 3) := by decide +kernel
theorem dX10_next_294 : decode cX10_next 294 = .ok (.return_, 1) := by decide +kernel
theorem dX10_next_263 : decode cX10_next 263 = .ok (.aload_n 0, 1) := by decide +kernel
theorem dX10_next_264 : decode cX10_next 264 = .ok (.aload_n 0, 1) := by decide +kernel
theorem dX10_next_265 : decode cX10_next 265 = .ok (.getfield 115, 3) := by decide +kernel
theorem dX10_next_268 : decode cX10_next 268 = .ok (.invokevirtual 121, 3) := by decide +kernel
theorem dX10_next_271 : decode cX10_next 271 = .ok (.ldc 141, 2) := by decide +kernel
theorem dX10_next_273 : decode cX10_next 273 = .ok (.iload_n 1, 1) := by decide +kernel
theorem dX10_next_274 : decode cX10_next 274 = .ok (.invokevirtual 111, 3) := by decide +kernel
theorem dX10_next_277 : decode cX10_next 277 = .ok (.if_icmp .ne 11, 3) := by decide +kernel
theorem dX10_next_288 : decode cX10_next 288 = .ok (.iinc 1 1, 3) := by decide +kernel
theorem dX10_next_291 : decode cX10_next 291 = .ok (.goto (-37), 3) := by decide +kernel
theorem dX10_next_280 : decode cX10_next 280 = .ok (.aload_n 0, 1) := by decide +kernel
theorem dX10_next_281 : decode cX10_next 281 = .ok (.bipush 30, 2) := by decide +kernel
theorem dX10_next_283 : decode cX10_next 283 = .ok (.iload_n 1, 1) := by decide +kernel
theorem dX10_next_284 : decode cX10_next 284 = .ok (.iadd, 1) := by decide +kernel
theorem dX10_next_285 : decode cX10_next 285 = .ok (.putfield 125, 3) := by decide +kernel
theorem dX10_next_141 : decode cX10_next 141 = .ok (.aload_n 0, 1) := by decide +kernel
theorem dX10_next_142 : decode cX10_next 142 = .ok (.iconst 0, 1) := by decide +kernel
theorem q_5_234 : Cond.fieldLink "BeaconDelayModel" 138 "BeaconDelayModel" "number" "I" ∈ gw := gw_5 (i := 234) (by decide +kernel) rfl
theorem dX10_next_143 : decode cX10_next 143 = .ok (.putfield 138, 3) := by decide +kernel
theorem dX10_next_146 : decode cX10_next 146 = .ok (.aload_n 0, 1) := by decide +kernel
theorem dX10_next_147 : decode cX10_next 147 = .ok (.aload_n 0, 1) := by decide +kernel
theorem dX10_next_148 : decode cX10_next 148 = .ok (.getfield 118, 3) := by decide +kernel
theorem dX10_next_151 : decode cX10_next 151 = .ok (.invokevirtual 121, 3) := by decide +kernel
theorem dX10_next_154 : decode cX10_next 154 = .ok (.invokestatic 135, 3) := by decide +kernel
theorem dX10_next_157 : decode cX10_next 157 = .ok (.ifCond .eq 52, 3) := by decide +kernel
theorem dX10_next_209 : decode cX10_next 209 = .ok (.aload_n 0, 1) := by decide +kernel
theorem dX10_next_210 : decode cX10_next 210 = .ok (.aload_n 0, 1) := by decide +kernel
theorem dX10_next_211 : decode cX10_next 211 = .ok (.getfield 118, 3) := by decide +kernel
theorem dX10_next_214 : decode cX10_next 214 = .ok (.aload_n 0, 1) := by decide +kernel
theorem dX10_next_215 : decode cX10_next 215 = .ok (.getfield 115, 3) := by decide +kernel
theorem dX10_next_218 : decode cX10_next 218 = .ok (.isub, 1) := by decide +kernel
theorem dX10_next_219 : decode cX10_next 219 = .ok (.iconst 3, 1) := by decide +kernel
theorem dX10_next_220 : decode cX10_next 220 = .ok (.if_icmp .le 8, 3) := by decide +kernel
theorem dX10_next_228 : decode cX10_next 228 = .ok (.bipush 23, 2) := by decide +kernel
theorem dX10_next_230 : decode cX10_next 230 = .ok (.putfield 125, 3) := by decide +kernel
theorem dX10_next_233 : decode cX10_next 233 = .ok (.goto 61, 3) := by decide +kernel
theorem dX10_next_223 : decode cX10_next 223 = .ok (.bipush 25, 2) := by decide +kernel
theorem dX10_next_225 : decode cX10_next 225 = .ok (.goto 5, 3) := by decide +kernel
theorem dX10_next_160 : decode cX10_next 160 = .ok (.aload_n 0, 1) := by decide +kernel
theorem dX10_next_161 : decode cX10_next 161 = .ok (.getfield 118, 3) := by decide +kernel
theorem dX10_next_164 : decode cX10_next 164 = .ok (.aload_n 0, 1) := by decide +kernel
theorem dX10_next_165 : decode cX10_next 165 = .ok (.getfield 115, 3) := by decide +kernel
theorem dX10_next_168 : decode cX10_next 168 = .ok (.isub, 1) := by decide +kernel
theorem dX10_next_169 : decode cX10_next 169 = .ok (.iconst 3, 1) := by decide +kernel
theorem dX10_next_170 : decode cX10_next 170 = .ok (.if_icmp .ge 26, 3) := by decide +kernel
theorem dX10_next_196 : decode cX10_next 196 = .ok (.aload_n 0, 1) := by decide +kernel
theorem dX10_next_197 : decode cX10_next 197 = .ok (.dup, 1) := by decide +kernel
theorem dX10_next_198 : decode cX10_next 198 = .ok (.getfield 118, 3) := by decide +kernel
theorem dX10_next_201 : decode cX10_next 201 = .ok (.iconst 1, 1) := by decide +kernel
theorem dX10_next_202 : decode cX10_next 202 = .ok (.iadd, 1) := by decide +kernel
theorem dX10_next_203 : decode cX10_next 203 = .ok (.putfield 118, 3) := by decide +kernel
theorem dX10_next_206 : decode cX10_next 206 = .ok (.goto (-60), 3) := by decide +kernel
theorem dX10_next_173 : decode cX10_next 173 = .ok (.aload_n 0, 1) := by decide +kernel
theorem dX10_next_174 : decode cX10_next 174 = .ok (.bipush 10, 2) := by decide +kernel
theorem dX10_next_176 : decode cX10_next 176 = .ok (.aload_n 0, 1) := by decide +kernel
theorem dX10_next_177 : decode cX10_next 177 = .ok (.getfield 138, 3) := by decide +kernel
theorem dX10_next_180 : decode cX10_next 180 = .ok (.imul, 1) := by decide +kernel
theorem dX10_next_181 : decode cX10_next 181 = .ok (.aload_n 0, 1) := by decide +kernel
theorem dX10_next_182 : decode cX10_next 182 = .ok (.aload_n 0, 1) := by decide +kernel
theorem dX10_next_183 : decode cX10_next 183 = .ok (.getfield 118, 3) := by decide +kernel
theorem dX10_next_186 : decode cX10_next 186 = .ok (.invokevirtual 121, 3) := by decide +kernel
theorem dX10_next_189 : decode cX10_next 189 = .ok (.iadd, 1) := by decide +kernel
theorem dX10_next_190 : decode cX10_next 190 = .ok (.bipush 48, 2) := by decide +kernel
theorem dX10_next_192 : decode cX10_next 192 = .ok (.isub, 1) := by decide +kernel
theorem dX10_next_193 : decode cX10_next 193 = .ok (.putfield 138, 3) := by decide +kernel
theorem dX10_next_89 : decode cX10_next 89 = .ok (.aload_n 0, 1) := by decide +kernel
theorem dX10_next_90 : decode cX10_next 90 = .ok (.aload_n 0, 1) := by decide +kernel
theorem dX10_next_91 : decode cX10_next 91 = .ok (.getfield 118, 3) := by decide +kernel
theorem dX10_next_94 : decode cX10_next 94 = .ok (.invokevirtual 121, 3) := by decide +kernel
theorem dX10_next_97 : decode cX10_next 97 = .ok (.invokestatic 128, 3) := by decide +kernel
theorem dX10_next_100 : decode cX10_next 100 = .ok (.ifCond .eq 16, 3) := by decide +kernel
theorem dX10_next_116 : decode cX10_next 116 = .ok (.aload_n 0, 1) := by decide +kernel
theorem dX10_next_117 : decode cX10_next 117 = .ok (.aload_n 0, 1) := by decide +kernel
theorem q_6_131 : Cond.code yX10_keyAt prog_12_method_9_code 4 (some FieldType.int) ∈ gw := gw_6 (i := 131) (rfl) rfl
theorem q_6_130 : Cond.instanceMethod yX10_keyAt ∈ gw := gw_6 (i := 130) (by decide +kernel) rfl
theorem q_s_56 : Cond.selects "BeaconDelayModel" yX10_keyAt yX10_keyAt ∈ gw := gw_s (i := 56) (by decide +kernel) rfl
theorem mt_X10_keyAt : MtV yX10_keyAt cX10_keyAt 4 (some .int) 0 := ⟨⟨q_6_131, q_1_9, by decide +kernel, by decide +kernel, by decide +kernel⟩, q_6_130, q_s_56⟩
theorem q_6_128 : Cond.methodLink "BeaconDelayModel" 132 yX10_keyAt ∈ gw := gw_6 (i := 128) (by decide +kernel) rfl
theorem dX10_next_118 : decode cX10_next 118 = .ok (.invokevirtual 132, 3) := by decide +kernel
theorem dX10_next_121 : decode cX10_next 121 = .ok (.putfield 125, 3) := by decide +kernel
theorem dX10_next_124 : decode cX10_next 124 = .ok (.goto 170, 3) := by decide +kernel
theorem dX10_next_103 : decode cX10_next 103 = .ok (.aload_n 0, 1) := by decide +kernel
theorem dX10_next_104 : decode cX10_next 104 = .ok (.dup, 1) := by decide +kernel
theorem dX10_next_105 : decode cX10_next 105 = .ok (.getfield 118, 3) := by decide +kernel
theorem dX10_next_108 : decode cX10_next 108 = .ok (.iconst 1, 1) := by decide +kernel
theorem dX10_next_109 : decode cX10_next 109 = .ok (.iadd, 1) := by decide +kernel
theorem dX10_next_110 : decode cX10_next 110 = .ok (.putfield 118, 3) := by decide +kernel
theorem dX10_next_113 : decode cX10_next 113 = .ok (.goto (-24), 3) := by decide +kernel
theorem dX10_next_66 : decode cX10_next 66 = .ok (.aload_n 0, 1) := by decide +kernel
theorem dX10_next_67 : decode cX10_next 67 = .ok (.bipush 24, 2) := by decide +kernel
theorem dX10_next_69 : decode cX10_next 69 = .ok (.putfield 125, 3) := by decide +kernel
theorem dX10_next_72 : decode cX10_next 72 = .ok (.goto 222, 3) := by decide +kernel
set_option maxHeartbeats 4000000 in
set_option maxRecDepth 100000 in
theorem k_X10_next_0 (l : Launch) (V : GV) (z : Nat → Nat) (pz0_0 : Int32) (pz0_5 : Int32) (pz0_6 : Int32) (pz0_7 : Int32) (pz0_8 : Int32) (pz0_9 : Int32) (pz0_10 : Int32) (pz0_11 : Int32) (pz0_12 : Int32) (pz0_13 : Int32) (pz0_14 : Int32) (pz0_18 : Int32) (pz0_19 : Int32) (pz0_22 : Int32) (pz0_23 : Int32) (pz0_29 : Int32) (fz3 : Nat → Int32) (bpz0_5 : iv 0 900 pz0_5) (bpz0_6 : iv 0 900 pz0_6) (bpz0_7 : iv 0 900 pz0_7) (bpz0_8 : iv 0 900 pz0_8) (bpz0_10 : iv 0 999 pz0_10) (bpz0_11 : iv 0 4 pz0_11) (bpz0_12 : iv 0 900 pz0_12) (bpz0_13 : iv 0 4 pz0_13) (bpz0_14 : iv (-1) 900 pz0_14) (bpz0_18 : iv 0 2 pz0_18) (bpz0_22 : iv 0 9999 pz0_22) (bpz0_29 : iv 0 10000 pz0_29) (tfz3 : ∀ j, iv 0 255 (fz3 j)) (hf0 : (pz0_7 : Int32).toInt ≤ (pz0_8 : Int32).toInt) : Ct l V yX10_next (.code yX10_next cX10_next 2 none) 6 [.ref (z 0)] [(z 0, .inr (10, mo z pz0_0 pz0_5 pz0_6 pz0_7 pz0_8 pz0_9 pz0_10 pz0_11 pz0_12 pz0_13 pz0_14 pz0_18 pz0_19 pz0_22 pz0_23 pz0_29)), (z 3, aI V 900 fz3)] 0 0 (QV V (fun (w : va_W) => ∃ (v0 : Int32) (v1 : Int32) (v2 : Int32) (v3 : Int32), iv 0 900 v0 ∧ iv 0 900 v1 ∧ iv 0 999 v3 ∧ (PT v0 v1 pz0_8 v2) ∧ ((pz0_7 : Int32).toInt ≤ (v0 : Int32).toInt) ∧ (NZ fz3 pz0_8 pz0_7 v0 v1 v2 v3) ∧ w = [(z 0, .inr (10, mo z pz0_0 pz0_5 v0 v1 pz0_8 v2 v3 pz0_11 pz0_12 pz0_13 pz0_14 pz0_18 pz0_19 pz0_22 pz0_23 pz0_29)), (z 3, aI V 900 fz3)])) := by
  refine Ct.of (by decide) (Nat.le_of_ble_eq_true rfl) (fun p e s m below meth c A ls hx hb hr hml hown hlk hnm hg hP hK hD hE hA hS hl => ?_)
  have hl : lv_has ls 2 [(0, .ref (z 0))] := hl
  refine lv_aload_n hx hb dX10_next_0 rfl (lv_at hl 0 rfl) ?_
  refine lv_aload_n hx hb dX10_next_1 rfl (lv_at hl 0 rfl) ?_
  refine va_get (ci := 10) (v := .int pz0_7) (C := RX10) (T := TX10) (N := 40) hx hb hg inX10 hown hK hP 0 rfl rfl 7 (by decide) (hg _ q_5_231) (fun _ h9 => h9) rfl dX10_next_2 ?_
  refine va_put (ci := 10) (v := .int pz0_7) (ty := .int) (C := RX10) (T := TX10) (N := 40) hx hb hg inX10 tyX10 tyX10_ok nmX10 hown hK hP hD hS 0 rfl rfl 6 (by decide) (hg _ q_5_230) (fun _ h9 => h9) rfl (by decide +kernel) rfl rfl (Nat.le_of_ble_eq_true rfl) dX10_next_5 (fun H locs hP hD hS => ?_)
  have hP : va_P V.1 vwCl [(z 0, .inr (10, mo z pz0_0 pz0_5 pz0_7 pz0_7 pz0_8 pz0_9 pz0_10 pz0_11 pz0_12 pz0_13 pz0_14 pz0_18 pz0_19 pz0_22 pz0_23 pz0_29)), (z 3, aI V 900 fz3)] H := hP
  have hD := cpD hP hD
  refine loopF (X := fun (n_2 : Nat) (H : Heap) (locs : List Loc) (ls : Array Slot) => ∃ (u_1 : Int32), (iv 0 900 u_1) ∧ ((pz0_7 : Int32).toInt ≤ (u_1 : Int32).toInt) ∧ ((u_1 : Int32).toInt ≤ (pz0_8 : Int32).toInt) ∧ (∀ j : Int32, (pz0_7 : Int32).toInt ≤ j.toInt → j.toInt < (u_1 : Int32).toInt → blB fz3 pz0_8 j = true) ∧ n_2 = (900 - (u_1 : Int32).toInt).toNat ∧ va_P V.1 vwCl [(z 0, .inr (10, mo z pz0_0 pz0_5 u_1 pz0_7 pz0_8 pz0_9 pz0_10 pz0_11 pz0_12 pz0_13 pz0_14 pz0_18 pz0_19 pz0_22 pz0_23 pz0_29)), (z 3, aI V 900 fz3)] H ∧ va_D A [(z 0, .inr (10, mo z pz0_0 pz0_5 u_1 pz0_7 pz0_8 pz0_9 pz0_10 pz0_11 pz0_12 pz0_13 pz0_14 pz0_18 pz0_19 pz0_22 pz0_23 pz0_29)), (z 3, aI V 900 fz3)] ∧ va_S A s.heap H locs ∧ lv_has ls 2 [(0, .ref (z 0))]) (g := fun ls => F0 m 8 ls []) (fun n_2 H locs ls hX ihn_2 => ?_) _ ⟨pz0_7, bpz0_7, (Int.le_refl _), hf0, (fun j h1 h2 => absurd h1 (Int.not_le.mpr h2)), rfl, hP, hD, hS, lv_sub hl [0] rfl⟩
  obtain ⟨u_1, bu_1, inn_2_0, inn_2_1, inn_2_2, en_2, hP, hD, hS, hl⟩ := hX
  refine lv_aload_n hx hb dX10_next_8 rfl (lv_at hl 0 rfl) ?_
  refine lv_aload_n hx hb dX10_next_9 rfl (lv_at hl 0 rfl) ?_
  refine va_get (ci := 10) (v := .int u_1) (C := RX10) (T := TX10) (N := 40) hx hb hg inX10 hown hK hP 0 rfl rfl 6 (by decide) (hg _ q_5_230) (fun _ h9 => h9) rfl dX10_next_10 ?_
  refine jnI (wr := []) (rnV (rest := []) ⟨hx, hb, hml, hown, hg⟩ (k_X10_see_0 l V z u_1 pz0_0 pz0_5 u_1 pz0_7 pz0_8 pz0_9 pz0_10 pz0_11 pz0_12 pz0_13 pz0_14 pz0_18 pz0_19 pz0_22 pz0_23 pz0_29 fz3 bu_1 bpz0_5 bu_1 bpz0_7 bpz0_8 bpz0_10 bpz0_11 bpz0_12 bpz0_13 bpz0_14 bpz0_18 bpz0_22 bpz0_29 tfz3) mt_X10_see q_6_121 ⟨Nat.le_of_ble_eq_true rfl, Nat.le_of_ble_eq_true rfl⟩ hK hP hD hS hA hE [0, 1] rfl rfl 0 rfl rfl rfl rfl hl.1 rfl (Nat.le_of_ble_eq_true rfl) dX10_next_13 ⟨Nat.le_of_ble_eq_true rfl, Nat.le_of_ble_eq_true rfl⟩) hP hD hS hA [0, 1] [] rfl rfl rfl (by decide) (fun r_3 w H locs hw hP hD hS => ?_)
  obtain ⟨br_3, er_3, g_4, rfl⟩ := hw
  have hP : va_P V.1 vwCl [(z 0, .inr (10, mo z pz0_0 pz0_5 u_1 pz0_7 pz0_8 pz0_9 pz0_10 pz0_11 pz0_12 pz0_13 pz0_14 pz0_18 pz0_19 pz0_22 pz0_23 pz0_29)), (z 3, aI V 900 fz3)] H := hP
  have hD := cpD hP hD
  refine lv_bipush (v := 10) hx hb dX10_next_16 (by decide) ?_
  refine lv_icmp_eq (tgt := 34) hx hb dX10_next_18 (by decide) (fun c_5 => ?_) (fun c_5 => ?_)
  · have b_6 : iv 10 10 r_3 := iv_q c_5 (iv_c (10 : Int32) (a := 10) (b := 10) (by decide))
    have c_7 : u_1 < pz0_8 := (g_4 (Int.le_trans (by decide) b_6.1))
    have b_8 : iv 0 899 u_1 := iv_l1 c_7 bu_1 bpz0_8 (by decide)
    have b_9 : iv 1 900 pz0_8 := iv_l2 c_7 bu_1 bpz0_8 (by decide)
    refine lv_aload_n hx hb dX10_next_34 rfl (lv_at hl 0 rfl) ?_
    refine lv_dup hx hb dX10_next_35 rfl ?_
    refine va_get (ci := 10) (v := .int u_1) (C := RX10) (T := TX10) (N := 40) hx hb hg inX10 hown hK hP 0 rfl rfl 6 (by decide) (hg _ q_5_230) (fun _ h9 => h9) rfl dX10_next_36 ?_
    refine lv_iconst (v := 1) hx hb dX10_next_39 (by decide) ?_
    refine lv_iadd hx hb dX10_next_40 ?_
    refine lv_topi (fun x_10 ex_10 => ?_)
    have bx_10 : iv 1 900 x_10 := by rw [ex_10]; exact iv_add b_8 (iv_c (1 : Int32) (a := 1) (b := 1) (by decide)) (by decide)
    refine va_put (ci := 10) (v := .int x_10) (ty := .int) (C := RX10) (T := TX10) (N := 40) hx hb hg inX10 tyX10 tyX10_ok nmX10 hown hK hP hD hS 0 rfl rfl 6 (by decide) (hg _ q_5_230) (fun _ h9 => h9) rfl (by decide +kernel) rfl rfl (Nat.le_of_ble_eq_true rfl) dX10_next_41 (fun H locs hP hD hS => ?_)
    have hP : va_P V.1 vwCl [(z 0, .inr (10, mo z pz0_0 pz0_5 x_10 pz0_7 pz0_8 pz0_9 pz0_10 pz0_11 pz0_12 pz0_13 pz0_14 pz0_18 pz0_19 pz0_22 pz0_23 pz0_29)), (z 3, aI V 900 fz3)] H := hP
    have hD := cpD hP hD
    refine lv_goto (tgt := 8) hx hb dX10_next_44 (by decide) ?_
    exact ihn_2 _ _ _ _ (by rw [en_2, ex_10]; exact mu_up b_8 (by decide)) ⟨x_10, (iv_w bx_10 (by decide)), (by have q9 := inc_toInt ex_10 b_8 (by decide); have q8 := inn_2_0; omega), (by have q9 := inc_toInt ex_10 b_8 (by decide); have q8 := Int32.lt_iff_toInt_lt.mp c_7; omega), (sc_s inn_2_2 (blB_z1 er_3 (Or.inl c_5)) ex_10 b_8 (by decide)), rfl, hP, hD, hS, lv_sub hl [0] rfl⟩
  · refine lv_aload_n hx hb dX10_next_21 rfl (lv_at hl 0 rfl) ?_
    refine lv_aload_n hx hb dX10_next_22 rfl (lv_at hl 0 rfl) ?_
    refine va_get (ci := 10) (v := .int u_1) (C := RX10) (T := TX10) (N := 40) hx hb hg inX10 hown hK hP 0 rfl rfl 6 (by decide) (hg _ q_5_230) (fun _ h9 => h9) rfl dX10_next_23 ?_
    refine jnI (wr := []) (rnV (rest := []) ⟨hx, hb, hml, hown, hg⟩ (k_X10_see_0 l V z u_1 pz0_0 pz0_5 u_1 pz0_7 pz0_8 pz0_9 pz0_10 pz0_11 pz0_12 pz0_13 pz0_14 pz0_18 pz0_19 pz0_22 pz0_23 pz0_29 fz3 bu_1 bpz0_5 bu_1 bpz0_7 bpz0_8 bpz0_10 bpz0_11 bpz0_12 bpz0_13 bpz0_14 bpz0_18 bpz0_22 bpz0_29 tfz3) mt_X10_see q_6_121 ⟨Nat.le_of_ble_eq_true rfl, Nat.le_of_ble_eq_true rfl⟩ hK hP hD hS hA hE [0, 1] rfl rfl 0 rfl rfl rfl rfl hl.1 rfl (Nat.le_of_ble_eq_true rfl) dX10_next_26 ⟨Nat.le_of_ble_eq_true rfl, Nat.le_of_ble_eq_true rfl⟩) hP hD hS hA [0, 1] [] rfl rfl rfl (by decide) (fun r_11 w H locs hw hP hD hS => ?_)
    obtain ⟨br_11, er_11, g_12, rfl⟩ := hw
    have e9_r_11 : r_11 = r_3 := er_11.trans er_3.symm
    rw [e9_r_11]
    have hP : va_P V.1 vwCl [(z 0, .inr (10, mo z pz0_0 pz0_5 u_1 pz0_7 pz0_8 pz0_9 pz0_10 pz0_11 pz0_12 pz0_13 pz0_14 pz0_18 pz0_19 pz0_22 pz0_23 pz0_29)), (z 3, aI V 900 fz3)] H := hP
    have hD := cpD hP hD
    refine lv_bipush (v := 32) hx hb dX10_next_29 (by decide) ?_
    refine lv_icmp_ne (tgt := 47) hx hb dX10_next_31 (by decide) (fun c_13 => ?_) (fun c_13 => ?_)
    · refine lv_aload_n hx hb dX10_next_47 rfl (lv_at hl 0 rfl) ?_
      refine lv_aload_n hx hb dX10_next_48 rfl (lv_at hl 0 rfl) ?_
      refine va_get (ci := 10) (v := .int u_1) (C := RX10) (T := TX10) (N := 40) hx hb hg inX10 hown hK hP 0 rfl rfl 6 (by decide) (hg _ q_5_230) (fun _ h9 => h9) rfl dX10_next_49 ?_
      refine va_put (ci := 10) (v := .int u_1) (ty := .int) (C := RX10) (T := TX10) (N := 40) hx hb hg inX10 tyX10 tyX10_ok nmX10 hown hK hP hD hS 0 rfl rfl 7 (by decide) (hg _ q_5_231) (fun _ h9 => h9) rfl (by decide +kernel) rfl rfl (Nat.le_of_ble_eq_true rfl) dX10_next_52 (fun H locs hP hD hS => ?_)
      have hP : va_P V.1 vwCl [(z 0, .inr (10, mo z pz0_0 pz0_5 u_1 u_1 pz0_8 pz0_9 pz0_10 pz0_11 pz0_12 pz0_13 pz0_14 pz0_18 pz0_19 pz0_22 pz0_23 pz0_29)), (z 3, aI V 900 fz3)] H := hP
      have hD := cpD hP hD
      refine lv_aload_n hx hb dX10_next_55 rfl (lv_at hl 0 rfl) ?_
      refine va_get (ci := 10) (v := .int u_1) (C := RX10) (T := TX10) (N := 40) hx hb hg inX10 hown hK hP 0 rfl rfl 6 (by decide) (hg _ q_5_230) (fun _ h9 => h9) rfl dX10_next_56 ?_
      refine lv_aload_n hx hb dX10_next_59 rfl (lv_at hl 0 rfl) ?_
      refine va_get (ci := 10) (v := .int pz0_8) (C := RX10) (T := TX10) (N := 40) hx hb hg inX10 hown hK hP 0 rfl rfl 8 (by decide) (hg _ q_5_232) (fun _ h9 => h9) rfl dX10_next_60 ?_
      refine lv_icmp_lt (tgt := 75) hx hb dX10_next_63 (by decide) (fun c_14 => ?_) (fun c_14 => ?_)
      · have b_15 : iv 0 899 u_1 := iv_l1 c_14 bu_1 bpz0_8 (by decide)
        have b_16 : iv 1 900 pz0_8 := iv_l2 c_14 bu_1 bpz0_8 (by decide)
        refine lv_aload_n hx hb dX10_next_75 rfl (lv_at hl 0 rfl) ?_
        refine lv_aload_n hx hb dX10_next_76 rfl (lv_at hl 0 rfl) ?_
        refine va_get (ci := 10) (v := .int u_1) (C := RX10) (T := TX10) (N := 40) hx hb hg inX10 hown hK hP 0 rfl rfl 6 (by decide) (hg _ q_5_230) (fun _ h9 => h9) rfl dX10_next_77 ?_
        refine jnI (wr := []) (rnV (rest := []) ⟨hx, hb, hml, hown, hg⟩ (k_X10_see_0 l V z u_1 pz0_0 pz0_5 u_1 u_1 pz0_8 pz0_9 pz0_10 pz0_11 pz0_12 pz0_13 pz0_14 pz0_18 pz0_19 pz0_22 pz0_23 pz0_29 fz3 (iv_w b_15 (by decide)) bpz0_5 (iv_w b_15 (by decide)) (iv_w b_15 (by decide)) (iv_w b_16 (by decide)) bpz0_10 bpz0_11 bpz0_12 bpz0_13 bpz0_14 bpz0_18 bpz0_22 bpz0_29 tfz3) mt_X10_see q_6_121 ⟨Nat.le_of_ble_eq_true rfl, Nat.le_of_ble_eq_true rfl⟩ hK hP hD hS hA hE [0, 1] rfl rfl 0 rfl rfl rfl rfl hl.1 rfl (Nat.le_of_ble_eq_true rfl) dX10_next_80 ⟨Nat.le_of_ble_eq_true rfl, Nat.le_of_ble_eq_true rfl⟩) hP hD hS hA [0, 1] [] rfl rfl rfl (by decide) (fun r_17 w H locs hw hP hD hS => ?_)
        obtain ⟨br_17, er_17, g_18, rfl⟩ := hw
        have e9_r_17 : r_17 = r_3 := er_17.trans er_3.symm
        rw [e9_r_17]
        have hP : va_P V.1 vwCl [(z 0, .inr (10, mo z pz0_0 pz0_5 u_1 u_1 pz0_8 pz0_9 pz0_10 pz0_11 pz0_12 pz0_13 pz0_14 pz0_18 pz0_19 pz0_22 pz0_23 pz0_29)), (z 3, aI V 900 fz3)] H := hP
        have hD := cpD hP hD
        refine jnI (wr := [(z 0, .inr (10, mo z pz0_0 pz0_5 u_1 u_1 pz0_8 pz0_9 pz0_10 pz0_11 pz0_12 pz0_13 pz0_14 pz0_18 pz0_19 pz0_22 pz0_23 pz0_29)), (z 3, aI V 900 fz3)]) (rnS (rest := []) ⟨hx, hb, hml, hown, hg⟩ (k_X10_isSmall_0 l V r_3) mt_X10_isSmall q_6_125 ⟨Nat.le_of_ble_eq_true rfl, Nat.le_of_ble_eq_true rfl⟩ hK hP hD hS hA hE [] rfl rfl rfl hl.1 rfl (Nat.le_of_ble_eq_true rfl) dX10_next_83 ⟨Nat.le_of_ble_eq_true rfl, Nat.le_of_ble_eq_true rfl⟩) hP hD hS hA [] [0, 1] rfl rfl rfl (by decide) (fun r_19 w H locs hw hP hD hS => ?_)
        rcases hw with ⟨c_20, rfl, rfl⟩ | ⟨c_21, c_22, rfl, rfl⟩ | ⟨c_23, c_24, rfl, rfl⟩
        · have hP : va_P V.1 vwCl [(z 0, .inr (10, mo z pz0_0 pz0_5 u_1 u_1 pz0_8 pz0_9 pz0_10 pz0_11 pz0_12 pz0_13 pz0_14 pz0_18 pz0_19 pz0_22 pz0_23 pz0_29)), (z 3, aI V 900 fz3)] H := hP
          have hD := cpD hP hD
          have b_25 : iv (-1) 96 r_3 := iv_l1 c_20 br_3 (iv_c (97 : Int32) (a := 97) (b := 97) (by decide)) (by decide)
          refine lv_if_eq (tgt := 127) hx hb dX10_next_86 (by decide) (fun _ => ?_) (fun c_27 => absurd c_27 (by decide))
          refine lv_aload_n hx hb dX10_next_127 rfl (lv_at hl 0 rfl) ?_
          refine lv_aload_n hx hb dX10_next_128 rfl (lv_at hl 0 rfl) ?_
          refine va_get (ci := 10) (v := .int u_1) (C := RX10) (T := TX10) (N := 40) hx hb hg inX10 hown hK hP 0 rfl rfl 6 (by decide) (hg _ q_5_230) (fun _ h9 => h9) rfl dX10_next_129 ?_
          refine jnI (wr := []) (rnV (rest := []) ⟨hx, hb, hml, hown, hg⟩ (k_X10_see_0 l V z u_1 pz0_0 pz0_5 u_1 u_1 pz0_8 pz0_9 pz0_10 pz0_11 pz0_12 pz0_13 pz0_14 pz0_18 pz0_19 pz0_22 pz0_23 pz0_29 fz3 (iv_w b_15 (by decide)) bpz0_5 (iv_w b_15 (by decide)) (iv_w b_15 (by decide)) (iv_w b_16 (by decide)) bpz0_10 bpz0_11 bpz0_12 bpz0_13 bpz0_14 bpz0_18 bpz0_22 bpz0_29 tfz3) mt_X10_see q_6_121 ⟨Nat.le_of_ble_eq_true rfl, Nat.le_of_ble_eq_true rfl⟩ hK hP hD hS hA hE [0, 1] rfl rfl 0 rfl rfl rfl rfl hl.1 rfl (Nat.le_of_ble_eq_true rfl) dX10_next_132 ⟨Nat.le_of_ble_eq_true rfl, Nat.le_of_ble_eq_true rfl⟩) hP hD hS hA [0, 1] [] rfl rfl rfl (by decide) (fun r_28 w H locs hw hP hD hS => ?_)
          obtain ⟨br_28, er_28, g_29, rfl⟩ := hw
          have e9_r_28 : r_28 = r_3 := er_28.trans er_3.symm
          rw [e9_r_28]
          have hP : va_P V.1 vwCl [(z 0, .inr (10, mo z pz0_0 pz0_5 u_1 u_1 pz0_8 pz0_9 pz0_10 pz0_11 pz0_12 pz0_13 pz0_14 pz0_18 pz0_19 pz0_22 pz0_23 pz0_29)), (z 3, aI V 900 fz3)] H := hP
          have hD := cpD hP hD
          refine jnI (wr := [(z 0, .inr (10, mo z pz0_0 pz0_5 u_1 u_1 pz0_8 pz0_9 pz0_10 pz0_11 pz0_12 pz0_13 pz0_14 pz0_18 pz0_19 pz0_22 pz0_23 pz0_29)), (z 3, aI V 900 fz3)]) (rnS (rest := []) ⟨hx, hb, hml, hown, hg⟩ (k_X10_isDigit_0 l V r_3) mt_X10_isDigit q_6_135 ⟨Nat.le_of_ble_eq_true rfl, Nat.le_of_ble_eq_true rfl⟩ hK hP hD hS hA hE [] rfl rfl rfl hl.1 rfl (Nat.le_of_ble_eq_true rfl) dX10_next_135 ⟨Nat.le_of_ble_eq_true rfl, Nat.le_of_ble_eq_true rfl⟩) hP hD hS hA [] [0, 1] rfl rfl rfl (by decide) (fun r_30 w H locs hw hP hD hS => ?_)
          rcases hw with ⟨c_31, rfl, rfl⟩ | ⟨c_32, c_33, rfl, rfl⟩ | ⟨c_34, c_35, rfl, rfl⟩
          · have hP : va_P V.1 vwCl [(z 0, .inr (10, mo z pz0_0 pz0_5 u_1 u_1 pz0_8 pz0_9 pz0_10 pz0_11 pz0_12 pz0_13 pz0_14 pz0_18 pz0_19 pz0_22 pz0_23 pz0_29)), (z 3, aI V 900 fz3)] H := hP
            have hD := cpD hP hD
            have b_36 : iv (-1) 47 r_3 := iv_l1 c_31 b_25 (iv_c (48 : Int32) (a := 48) (b := 48) (by decide)) (by decide)
            refine lv_if_eq (tgt := 236) hx hb dX10_next_138 (by decide) (fun _ => ?_) (fun c_38 => absurd c_38 (by decide))
            refine lv_aload_n hx hb dX10_next_236 rfl (lv_at hl 0 rfl) ?_
            refine lv_dup hx hb dX10_next_237 rfl ?_
            refine va_get (ci := 10) (v := .int u_1) (C := RX10) (T := TX10) (N := 40) hx hb hg inX10 hown hK hP 0 rfl rfl 7 (by decide) (hg _ q_5_231) (fun _ h9 => h9) rfl dX10_next_238 ?_
            refine lv_iconst (v := 1) hx hb dX10_next_241 (by decide) ?_
            refine lv_iadd hx hb dX10_next_242 ?_
            refine lv_topi (fun x_39 ex_39 => ?_)
            have bx_39 : iv 1 900 x_39 := by rw [ex_39]; exact iv_add b_15 (iv_c (1 : Int32) (a := 1) (b := 1) (by decide)) (by decide)
            refine va_put (ci := 10) (v := .int x_39) (ty := .int) (C := RX10) (T := TX10) (N := 40) hx hb hg inX10 tyX10 tyX10_ok nmX10 hown hK hP hD hS 0 rfl rfl 7 (by decide) (hg _ q_5_231) (fun _ h9 => h9) rfl (by decide +kernel) rfl rfl (Nat.le_of_ble_eq_true rfl) dX10_next_243 (fun H locs hP hD hS => ?_)
            have hP : va_P V.1 vwCl [(z 0, .inr (10, mo z pz0_0 pz0_5 u_1 x_39 pz0_8 pz0_9 pz0_10 pz0_11 pz0_12 pz0_13 pz0_14 pz0_18 pz0_19 pz0_22 pz0_23 pz0_29)), (z 3, aI V 900 fz3)] H := hP
            have hD := cpD hP hD
            refine lv_aload_n hx hb dX10_next_246 rfl (lv_at hl 0 rfl) ?_
            refine lv_bipush (v := 25) hx hb dX10_next_247 (by decide) ?_
            refine va_put (ci := 10) (v := .int 25) (ty := .int) (C := RX10) (T := TX10) (N := 40) hx hb hg inX10 tyX10 tyX10_ok nmX10 hown hK hP hD hS 0 rfl rfl 9 (by decide) (hg _ q_5_233) (fun _ h9 => h9) rfl (by decide +kernel) rfl rfl (Nat.le_of_ble_eq_true rfl) dX10_next_249 (fun H locs hP hD hS => ?_)
            have hP : va_P V.1 vwCl [(z 0, .inr (10, mo z pz0_0 pz0_5 u_1 x_39 pz0_8 25 pz0_10 pz0_11 pz0_12 pz0_13 pz0_14 pz0_18 pz0_19 pz0_22 pz0_23 pz0_29)), (z 3, aI V 900 fz3)] H := hP
            have hD := cpD hP hD
            refine lv_iconst (v := 0) hx hb dX10_next_252 (by decide) ?_
            refine lv_istore_n (lv' := [(1, .int 0), (0, .ref (z 0))]) hx hb dX10_next_253 rfl hl (by decide) rfl (fun ls hl => ?_)
            refine loopF (X := fun (n_42 : Nat) (H : Heap) (locs : List Loc) (ls : Array Slot) => ∃ (u_40 : Int32) (u_41 : Int32), (iv 0 12 u_40) ∧ (u_41 = sgA r_3 (u_40 : Int32).toNatClampNeg) ∧ n_42 = (2147483647 - (u_40 : Int32).toInt).toNat ∧ va_P V.1 vwCl [(z 0, .inr (10, mo z pz0_0 pz0_5 u_1 x_39 pz0_8 u_41 pz0_10 pz0_11 pz0_12 pz0_13 pz0_14 pz0_18 pz0_19 pz0_22 pz0_23 pz0_29)), (z 3, aI V 900 fz3)] H ∧ va_D A [(z 0, .inr (10, mo z pz0_0 pz0_5 u_1 x_39 pz0_8 u_41 pz0_10 pz0_11 pz0_12 pz0_13 pz0_14 pz0_18 pz0_19 pz0_22 pz0_23 pz0_29)), (z 3, aI V 900 fz3)] ∧ va_S A s.heap H locs ∧ lv_has ls 2 [(1, .int u_40), (0, .ref (z 0))]) (g := fun ls => F0 m 254 ls []) (fun n_42 H locs ls hX ihn_42 => ?_) _ ⟨0, 25, (iv_c (0 : Int32) (by decide)), rfl, rfl, hP, hD, hS, lv_sub hl [0, 1] rfl⟩
            obtain ⟨u_40, u_41, bu_40, inn_42_0, en_42, hP, hD, hS, hl⟩ := hX
            refine lv_iload_n hx hb dX10_next_254 rfl (lv_at hl 0 rfl) ?_
            refine va_ldcS hx hb hown (hE.2.2.2.2.2.2 36 ("BeaconDelayModel", 141, ";:+-*()[]=<>", [59, 58, 43, 45, 42, 40, 41, 91, 93, 61, 60, 62]) rfl).1 dX10_next_255 ?_
            refine jnI (wr := [(z 0, .inr (10, mo z pz0_0 pz0_5 u_1 x_39 pz0_8 u_41 pz0_10 pz0_11 pz0_12 pz0_13 pz0_14 pz0_18 pz0_19 pz0_22 pz0_23 pz0_29)), (z 3, aI V 900 fz3)]) (rnVx (rest := [.int u_40]) ⟨hx, hb, hml, hown, hg⟩ (k_J0_length_8abf5_0 l V 36 ("BeaconDelayModel", 141, ";:+-*()[]=<>", [59, 58, 43, 45, 42, 40, 41, 91, 93, 61, 60, 62]) rfl) mt_J0_length_8abf5 q_6_133 ⟨Nat.le_of_ble_eq_true rfl, Nat.le_of_ble_eq_true rfl⟩ hK hP hD hS hA hE [] rfl rfl (o_recv (hE.2.2.2.2.2.2 36 ("BeaconDelayModel", 141, ";:+-*()[]=<>", [59, 58, 43, 45, 42, 40, 41, 91, 93, 61, 60, 62]) rfl).2.1 hS) rfl hl.1 rfl (Nat.le_of_ble_eq_true rfl) dX10_next_257 ⟨Nat.le_of_ble_eq_true rfl, Nat.le_of_ble_eq_true rfl⟩) hP hD hS hA [] [0, 1] rfl rfl rfl (by decide) (fun r_43 w H locs hw hP hD hS => ?_)
            obtain ⟨rfl, rfl⟩ := hw
            have hP : va_P V.1 vwCl [(z 0, .inr (10, mo z pz0_0 pz0_5 u_1 x_39 pz0_8 u_41 pz0_10 pz0_11 pz0_12 pz0_13 pz0_14 pz0_18 pz0_19 pz0_22 pz0_23 pz0_29)), (z 3, aI V 900 fz3)] H := hP
            have hD := cpD hP hD
            refine lv_icmp_ge (tgt := 294) hx hb dX10_next_260 (by decide) (fun c_44 => ?_) (fun c_44 => ?_)
            · have b_45 : iv 12 12 u_40 := iv_e2 c_44 (iv_c (12 : Int32) (a := 12) (b := 12) (by decide)) bu_40 (by decide)
              exact fiV hx hb hr hlk hK hP hD hS dX10_next_294 (Nat.le_of_ble_eq_true rfl) (Nat.le_of_ble_eq_true rfl) (⟨u_1, x_39, u_41, pz0_10, (iv_w b_15 (by decide)), (iv_w bx_39 (by decide)), bpz0_10, ⟨(by have q9 := inc_toInt ex_39 b_15 (by decide); omega), (by have q9 := inc_toInt ex_39 b_15 (by decide); have q8 := Int32.lt_iff_toInt_lt.mp c_14; omega), fun _ => by have q9 := inc_toInt ex_39 b_15 (by decide); omega⟩, inn_2_0, (NZ_sign ⟨bpz0_7.1, hf0⟩ tfz3 (zP bpz0_7 (iv_w b_15 (by decide)) inn_2_0 inn_2_2 (blB_z0 er_3 c_5 c_13)) c_14 er_3 (fun z => absurd z.1 (Int32.not_le.mpr c_20)) (fun z => absurd z.1 (Int32.not_le.mpr c_31)) ex_39 (Int32.not_lt.mpr c_44) (iv_w b_45 (by decide)) inn_42_0), rfl⟩)
            · have b_46 : iv 0 11 u_40 := iv_l1 (Int32.not_le.mp c_44) bu_40 (iv_c (12 : Int32) (a := 12) (b := 12) (by decide)) (by decide)
              refine lv_aload_n hx hb dX10_next_263 rfl (lv_at hl 1 rfl) ?_
              refine lv_aload_n hx hb dX10_next_264 rfl (lv_at hl 1 rfl) ?_
              refine va_get (ci := 10) (v := .int u_1) (C := RX10) (T := TX10) (N := 40) hx hb hg inX10 hown hK hP 0 rfl rfl 6 (by decide) (hg _ q_5_230) (fun _ h9 => h9) rfl dX10_next_265 ?_
              refine jnI (wr := []) (rnV (rest := []) ⟨hx, hb, hml, hown, hg⟩ (k_X10_see_0 l V z u_1 pz0_0 pz0_5 u_1 x_39 pz0_8 u_41 pz0_10 pz0_11 pz0_12 pz0_13 pz0_14 pz0_18 pz0_19 pz0_22 pz0_23 pz0_29 fz3 (iv_w b_15 (by decide)) bpz0_5 (iv_w b_15 (by decide)) (iv_w bx_39 (by decide)) (iv_w b_16 (by decide)) bpz0_10 bpz0_11 bpz0_12 bpz0_13 bpz0_14 bpz0_18 bpz0_22 bpz0_29 tfz3) mt_X10_see q_6_121 ⟨Nat.le_of_ble_eq_true rfl, Nat.le_of_ble_eq_true rfl⟩ hK hP hD hS hA hE [0, 1] rfl rfl 0 rfl rfl rfl rfl hl.1 rfl (Nat.le_of_ble_eq_true rfl) dX10_next_268 ⟨Nat.le_of_ble_eq_true rfl, Nat.le_of_ble_eq_true rfl⟩) hP hD hS hA [0, 1] [] rfl rfl rfl (by decide) (fun r_47 w H locs hw hP hD hS => ?_)
              obtain ⟨br_47, er_47, g_48, rfl⟩ := hw
              have e9_r_47 : r_47 = r_3 := er_47.trans er_3.symm
              rw [e9_r_47]
              have hP : va_P V.1 vwCl [(z 0, .inr (10, mo z pz0_0 pz0_5 u_1 x_39 pz0_8 u_41 pz0_10 pz0_11 pz0_12 pz0_13 pz0_14 pz0_18 pz0_19 pz0_22 pz0_23 pz0_29)), (z 3, aI V 900 fz3)] H := hP
              have hD := cpD hP hD
              refine va_ldcS hx hb hown (hE.2.2.2.2.2.2 36 ("BeaconDelayModel", 141, ";:+-*()[]=<>", [59, 58, 43, 45, 42, 40, 41, 91, 93, 61, 60, 62]) rfl).1 dX10_next_271 ?_
              refine lv_iload_n hx hb dX10_next_273 rfl (lv_at hl 0 rfl) ?_
              refine jnI (wr := [(z 0, .inr (10, mo z pz0_0 pz0_5 u_1 x_39 pz0_8 u_41 pz0_10 pz0_11 pz0_12 pz0_13 pz0_14 pz0_18 pz0_19 pz0_22 pz0_23 pz0_29)), (z 3, aI V 900 fz3)]) (rnVx (rest := [.int r_3]) ⟨hx, hb, hml, hown, hg⟩ (k_J0_charAt_5068e_0 l V 36 ("BeaconDelayModel", 141, ";:+-*()[]=<>", [59, 58, 43, 45, 42, 40, 41, 91, 93, 61, 60, 62]) rfl u_40 (iv_w b_46 (by decide)) (Int32.not_le.mp c_44)) mt_J0_charAt_5068e q_6_134 ⟨Nat.le_of_ble_eq_true rfl, Nat.le_of_ble_eq_true rfl⟩ hK hP hD hS hA hE [] rfl rfl (o_recv (hE.2.2.2.2.2.2 36 ("BeaconDelayModel", 141, ";:+-*()[]=<>", [59, 58, 43, 45, 42, 40, 41, 91, 93, 61, 60, 62]) rfl).2.1 hS) rfl hl.1 rfl (Nat.le_of_ble_eq_true rfl) dX10_next_274 ⟨Nat.le_of_ble_eq_true rfl, Nat.le_of_ble_eq_true rfl⟩) hP hD hS hA [] [0, 1] rfl rfl rfl (by decide) (fun r_49 w H locs hw hP hD hS => ?_)
              obtain ⟨er_49, rfl⟩ := hw
              have hP : va_P V.1 vwCl [(z 0, .inr (10, mo z pz0_0 pz0_5 u_1 x_39 pz0_8 u_41 pz0_10 pz0_11 pz0_12 pz0_13 pz0_14 pz0_18 pz0_19 pz0_22 pz0_23 pz0_29)), (z 3, aI V 900 fz3)] H := hP
              have hD := cpD hP hD
              refine lv_icmp_ne (tgt := 288) hx hb dX10_next_277 (by decide) (fun c_50 => ?_) (fun c_50 => ?_)
              · obtain ⟨x_51, ex_51⟩ : ∃ z9 : Int32, z9 = u_40 + 1 := ⟨_, rfl⟩
                have bx_51 : iv 1 12 x_51 := by rw [ex_51]; exact iv_add b_46 (iv_c (1 : Int32) (a := 1) (b := 1) (by decide)) (by decide)
                refine lv_iinc (v := x_51) (lv' := [(1, .int x_51), (0, .ref (z 0))]) hx hb dX10_next_288 hl (k := 0) rfl (by rw [ex_51]; rfl) (by decide) rfl (fun ls hl => ?_)
                refine lv_goto (tgt := 254) hx hb dX10_next_291 (by decide) ?_
                exact ihn_42 _ _ _ _ (by rw [en_42, ex_51]; exact mu_up b_46 (by decide)) ⟨x_51, u_41, (iv_w bx_51 (by decide)), (sgA_0 b_46 er_49 c_50 inn_42_0 ex_51), rfl, hP, hD, hS, lv_sub hl [0, 1] rfl⟩
              · have b_52 : iv (-1) 47 r_49 := iv_q c_50.symm b_36
                refine lv_aload_n hx hb dX10_next_280 rfl (lv_at hl 1 rfl) ?_
                refine lv_bipush (v := 30) hx hb dX10_next_281 (by decide) ?_
                refine lv_iload_n hx hb dX10_next_283 rfl (lv_at hl 0 rfl) ?_
                refine lv_iadd hx hb dX10_next_284 ?_
                refine lv_topi (fun x_53 ex_53 => ?_)
                have bx_53 : iv 30 41 x_53 := by rw [ex_53]; exact iv_add (iv_c (30 : Int32) (a := 30) (b := 30) (by decide)) b_46 (by decide)
                refine va_put (ci := 10) (v := .int x_53) (ty := .int) (C := RX10) (T := TX10) (N := 40) hx hb hg inX10 tyX10 tyX10_ok nmX10 hown hK hP hD hS 0 rfl rfl 9 (by decide) (hg _ q_5_233) (fun _ h9 => h9) rfl (by decide +kernel) rfl rfl (Nat.le_of_ble_eq_true rfl) dX10_next_285 (fun H locs hP hD hS => ?_)
                have hP : va_P V.1 vwCl [(z 0, .inr (10, mo z pz0_0 pz0_5 u_1 x_39 pz0_8 x_53 pz0_10 pz0_11 pz0_12 pz0_13 pz0_14 pz0_18 pz0_19 pz0_22 pz0_23 pz0_29)), (z 3, aI V 900 fz3)] H := hP
                have hD := cpD hP hD
                obtain ⟨x_54, ex_54⟩ : ∃ z9 : Int32, z9 = u_40 + 1 := ⟨_, rfl⟩
                have bx_54 : iv 1 12 x_54 := by rw [ex_54]; exact iv_add b_46 (iv_c (1 : Int32) (a := 1) (b := 1) (by decide)) (by decide)
                refine lv_iinc (v := x_54) (lv' := [(1, .int x_54), (0, .ref (z 0))]) hx hb dX10_next_288 hl (k := 0) rfl (by rw [ex_54]; rfl) (by decide) rfl (fun ls hl => ?_)
                refine lv_goto (tgt := 254) hx hb dX10_next_291 (by decide) ?_
                exact ihn_42 _ _ _ _ (by rw [en_42, ex_54]; exact mu_up b_46 (by decide)) ⟨x_54, x_53, (iv_w bx_54 (by decide)), (sgA_1 b_46 er_49 c_50 ex_53 ex_54), rfl, hP, hD, hS, lv_sub hl [0, 1] rfl⟩
          · have hP : va_P V.1 vwCl [(z 0, .inr (10, mo z pz0_0 pz0_5 u_1 u_1 pz0_8 pz0_9 pz0_10 pz0_11 pz0_12 pz0_13 pz0_14 pz0_18 pz0_19 pz0_22 pz0_23 pz0_29)), (z 3, aI V 900 fz3)] H := hP
            have hD := cpD hP hD
            have b_55 : iv 48 96 r_3 := iv_e2 (Int32.not_lt.mp c_32) (iv_c (48 : Int32) (a := 48) (b := 48) (by decide)) b_25 (by decide)
            have c_56 : u_1 < pz0_8 := (g_4 (Int.le_trans (by decide) b_55.1))
            have b_57 : iv 58 96 r_3 := iv_l2 c_33 (iv_c (57 : Int32) (a := 57) (b := 57) (by decide)) b_55 (by decide)
            refine lv_if_eq (tgt := 236) hx hb dX10_next_138 (by decide) (fun _ => ?_) (fun c_59 => absurd c_59 (by decide))
            refine lv_aload_n hx hb dX10_next_236 rfl (lv_at hl 0 rfl) ?_
            refine lv_dup hx hb dX10_next_237 rfl ?_
            refine va_get (ci := 10) (v := .int u_1) (C := RX10) (T := TX10) (N := 40) hx hb hg inX10 hown hK hP 0 rfl rfl 7 (by decide) (hg _ q_5_231) (fun _ h9 => h9) rfl dX10_next_238 ?_
            refine lv_iconst (v := 1) hx hb dX10_next_241 (by decide) ?_
            refine lv_iadd hx hb dX10_next_242 ?_
            refine lv_topi (fun x_60 ex_60 => ?_)
            have bx_60 : iv 1 900 x_60 := by rw [ex_60]; exact iv_add b_15 (iv_c (1 : Int32) (a := 1) (b := 1) (by decide)) (by decide)
            refine va_put (ci := 10) (v := .int x_60) (ty := .int) (C := RX10) (T := TX10) (N := 40) hx hb hg inX10 tyX10 tyX10_ok nmX10 hown hK hP hD hS 0 rfl rfl 7 (by decide) (hg _ q_5_231) (fun _ h9 => h9) rfl (by decide +kernel) rfl rfl (Nat.le_of_ble_eq_true rfl) dX10_next_243 (fun H locs hP hD hS => ?_)
            have hP : va_P V.1 vwCl [(z 0, .inr (10, mo z pz0_0 pz0_5 u_1 x_60 pz0_8 pz0_9 pz0_10 pz0_11 pz0_12 pz0_13 pz0_14 pz0_18 pz0_19 pz0_22 pz0_23 pz0_29)), (z 3, aI V 900 fz3)] H := hP
            have hD := cpD hP hD
            refine lv_aload_n hx hb dX10_next_246 rfl (lv_at hl 0 rfl) ?_
            refine lv_bipush (v := 25) hx hb dX10_next_247 (by decide) ?_
            refine va_put (ci := 10) (v := .int 25) (ty := .int) (C := RX10) (T := TX10) (N := 40) hx hb hg inX10 tyX10 tyX10_ok nmX10 hown hK hP hD hS 0 rfl rfl 9 (by decide) (hg _ q_5_233) (fun _ h9 => h9) rfl (by decide +kernel) rfl rfl (Nat.le_of_ble_eq_true rfl) dX10_next_249 (fun H locs hP hD hS => ?_)
            have hP : va_P V.1 vwCl [(z 0, .inr (10, mo z pz0_0 pz0_5 u_1 x_60 pz0_8 25 pz0_10 pz0_11 pz0_12 pz0_13 pz0_14 pz0_18 pz0_19 pz0_22 pz0_23 pz0_29)), (z 3, aI V 900 fz3)] H := hP
            have hD := cpD hP hD
            refine lv_iconst (v := 0) hx hb dX10_next_252 (by decide) ?_
            refine lv_istore_n (lv' := [(1, .int 0), (0, .ref (z 0))]) hx hb dX10_next_253 rfl hl (by decide) rfl (fun ls hl => ?_)
            refine loopF (X := fun (n_63 : Nat) (H : Heap) (locs : List Loc) (ls : Array Slot) => ∃ (u_61 : Int32) (u_62 : Int32), (iv 0 12 u_61) ∧ (u_62 = sgA r_3 (u_61 : Int32).toNatClampNeg) ∧ n_63 = (2147483647 - (u_61 : Int32).toInt).toNat ∧ va_P V.1 vwCl [(z 0, .inr (10, mo z pz0_0 pz0_5 u_1 x_60 pz0_8 u_62 pz0_10 pz0_11 pz0_12 pz0_13 pz0_14 pz0_18 pz0_19 pz0_22 pz0_23 pz0_29)), (z 3, aI V 900 fz3)] H ∧ va_D A [(z 0, .inr (10, mo z pz0_0 pz0_5 u_1 x_60 pz0_8 u_62 pz0_10 pz0_11 pz0_12 pz0_13 pz0_14 pz0_18 pz0_19 pz0_22 pz0_23 pz0_29)), (z 3, aI V 900 fz3)] ∧ va_S A s.heap H locs ∧ lv_has ls 2 [(1, .int u_61), (0, .ref (z 0))]) (g := fun ls => F0 m 254 ls []) (fun n_63 H locs ls hX ihn_63 => ?_) _ ⟨0, 25, (iv_c (0 : Int32) (by decide)), rfl, rfl, hP, hD, hS, lv_sub hl [0, 1] rfl⟩
            obtain ⟨u_61, u_62, bu_61, inn_63_0, en_63, hP, hD, hS, hl⟩ := hX
            refine lv_iload_n hx hb dX10_next_254 rfl (lv_at hl 0 rfl) ?_
            refine va_ldcS hx hb hown (hE.2.2.2.2.2.2 36 ("BeaconDelayModel", 141, ";:+-*()[]=<>", [59, 58, 43, 45, 42, 40, 41, 91, 93, 61, 60, 62]) rfl).1 dX10_next_255 ?_
            refine jnI (wr := [(z 0, .inr (10, mo z pz0_0 pz0_5 u_1 x_60 pz0_8 u_62 pz0_10 pz0_11 pz0_12 pz0_13 pz0_14 pz0_18 pz0_19 pz0_22 pz0_23 pz0_29)), (z 3, aI V 900 fz3)]) (rnVx (rest := [.int u_61]) ⟨hx, hb, hml, hown, hg⟩ (k_J0_length_8abf5_0 l V 36 ("BeaconDelayModel", 141, ";:+-*()[]=<>", [59, 58, 43, 45, 42, 40, 41, 91, 93, 61, 60, 62]) rfl) mt_J0_length_8abf5 q_6_133 ⟨Nat.le_of_ble_eq_true rfl, Nat.le_of_ble_eq_true rfl⟩ hK hP hD hS hA hE [] rfl rfl (o_recv (hE.2.2.2.2.2.2 36 ("BeaconDelayModel", 141, ";:+-*()[]=<>", [59, 58, 43, 45, 42, 40, 41, 91, 93, 61, 60, 62]) rfl).2.1 hS) rfl hl.1 rfl (Nat.le_of_ble_eq_true rfl) dX10_next_257 ⟨Nat.le_of_ble_eq_true rfl, Nat.le_of_ble_eq_true rfl⟩) hP hD hS hA [] [0, 1] rfl rfl rfl (by decide) (fun r_64 w H locs hw hP hD hS => ?_)
            obtain ⟨rfl, rfl⟩ := hw
            have hP : va_P V.1 vwCl [(z 0, .inr (10, mo z pz0_0 pz0_5 u_1 x_60 pz0_8 u_62 pz0_10 pz0_11 pz0_12 pz0_13 pz0_14 pz0_18 pz0_19 pz0_22 pz0_23 pz0_29)), (z 3, aI V 900 fz3)] H := hP
            have hD := cpD hP hD
            refine lv_icmp_ge (tgt := 294) hx hb dX10_next_260 (by decide) (fun c_65 => ?_) (fun c_65 => ?_)
            · have b_66 : iv 12 12 u_61 := iv_e2 c_65 (iv_c (12 : Int32) (a := 12) (b := 12) (by decide)) bu_61 (by decide)
              exact fiV hx hb hr hlk hK hP hD hS dX10_next_294 (Nat.le_of_ble_eq_true rfl) (Nat.le_of_ble_eq_true rfl) (⟨u_1, x_60, u_62, pz0_10, (iv_w b_15 (by decide)), (iv_w bx_60 (by decide)), bpz0_10, ⟨(by have q9 := inc_toInt ex_60 b_15 (by decide); omega), (by have q9 := inc_toInt ex_60 b_15 (by decide); have q8 := Int32.lt_iff_toInt_lt.mp c_56; omega), fun _ => by have q9 := inc_toInt ex_60 b_15 (by decide); omega⟩, inn_2_0, (NZ_sign ⟨bpz0_7.1, hf0⟩ tfz3 (zP bpz0_7 (iv_w b_15 (by decide)) inn_2_0 inn_2_2 (blB_z0 er_3 c_5 c_13)) c_56 er_3 (fun z => absurd z.1 (Int32.not_le.mpr c_20)) (fun z => absurd z.2 (Int32.not_le.mpr c_33)) ex_60 (Int32.not_lt.mpr c_65) (iv_w b_66 (by decide)) inn_63_0), rfl⟩)
            · have b_67 : iv 0 11 u_61 := iv_l1 (Int32.not_le.mp c_65) bu_61 (iv_c (12 : Int32) (a := 12) (b := 12) (by decide)) (by decide)
              refine lv_aload_n hx hb dX10_next_263 rfl (lv_at hl 1 rfl) ?_
              refine lv_aload_n hx hb dX10_next_264 rfl (lv_at hl 1 rfl) ?_
              refine va_get (ci := 10) (v := .int u_1) (C := RX10) (T := TX10) (N := 40) hx hb hg inX10 hown hK hP 0 rfl rfl 6 (by decide) (hg _ q_5_230) (fun _ h9 => h9) rfl dX10_next_265 ?_
              refine jnI (wr := []) (rnV (rest := []) ⟨hx, hb, hml, hown, hg⟩ (k_X10_see_0 l V z u_1 pz0_0 pz0_5 u_1 x_60 pz0_8 u_62 pz0_10 pz0_11 pz0_12 pz0_13 pz0_14 pz0_18 pz0_19 pz0_22 pz0_23 pz0_29 fz3 (iv_w b_15 (by decide)) bpz0_5 (iv_w b_15 (by decide)) (iv_w bx_60 (by decide)) (iv_w b_16 (by decide)) bpz0_10 bpz0_11 bpz0_12 bpz0_13 bpz0_14 bpz0_18 bpz0_22 bpz0_29 tfz3) mt_X10_see q_6_121 ⟨Nat.le_of_ble_eq_true rfl, Nat.le_of_ble_eq_true rfl⟩ hK hP hD hS hA hE [0, 1] rfl rfl 0 rfl rfl rfl rfl hl.1 rfl (Nat.le_of_ble_eq_true rfl) dX10_next_268 ⟨Nat.le_of_ble_eq_true rfl, Nat.le_of_ble_eq_true rfl⟩) hP hD hS hA [0, 1] [] rfl rfl rfl (by decide) (fun r_68 w H locs hw hP hD hS => ?_)
              obtain ⟨br_68, er_68, g_69, rfl⟩ := hw
              have e9_r_68 : r_68 = r_3 := er_68.trans er_3.symm
              rw [e9_r_68]
              have hP : va_P V.1 vwCl [(z 0, .inr (10, mo z pz0_0 pz0_5 u_1 x_60 pz0_8 u_62 pz0_10 pz0_11 pz0_12 pz0_13 pz0_14 pz0_18 pz0_19 pz0_22 pz0_23 pz0_29)), (z 3, aI V 900 fz3)] H := hP
              have hD := cpD hP hD
              refine va_ldcS hx hb hown (hE.2.2.2.2.2.2 36 ("BeaconDelayModel", 141, ";:+-*()[]=<>", [59, 58, 43, 45, 42, 40, 41, 91, 93, 61, 60, 62]) rfl).1 dX10_next_271 ?_
              refine lv_iload_n hx hb dX10_next_273 rfl (lv_at hl 0 rfl) ?_
              refine jnI (wr := [(z 0, .inr (10, mo z pz0_0 pz0_5 u_1 x_60 pz0_8 u_62 pz0_10 pz0_11 pz0_12 pz0_13 pz0_14 pz0_18 pz0_19 pz0_22 pz0_23 pz0_29)), (z 3, aI V 900 fz3)]) (rnVx (rest := [.int r_3]) ⟨hx, hb, hml, hown, hg⟩ (k_J0_charAt_5068e_0 l V 36 ("BeaconDelayModel", 141, ";:+-*()[]=<>", [59, 58, 43, 45, 42, 40, 41, 91, 93, 61, 60, 62]) rfl u_61 (iv_w b_67 (by decide)) (Int32.not_le.mp c_65)) mt_J0_charAt_5068e q_6_134 ⟨Nat.le_of_ble_eq_true rfl, Nat.le_of_ble_eq_true rfl⟩ hK hP hD hS hA hE [] rfl rfl (o_recv (hE.2.2.2.2.2.2 36 ("BeaconDelayModel", 141, ";:+-*()[]=<>", [59, 58, 43, 45, 42, 40, 41, 91, 93, 61, 60, 62]) rfl).2.1 hS) rfl hl.1 rfl (Nat.le_of_ble_eq_true rfl) dX10_next_274 ⟨Nat.le_of_ble_eq_true rfl, Nat.le_of_ble_eq_true rfl⟩) hP hD hS hA [] [0, 1] rfl rfl rfl (by decide) (fun r_70 w H locs hw hP hD hS => ?_)
              obtain ⟨er_70, rfl⟩ := hw
              have hP : va_P V.1 vwCl [(z 0, .inr (10, mo z pz0_0 pz0_5 u_1 x_60 pz0_8 u_62 pz0_10 pz0_11 pz0_12 pz0_13 pz0_14 pz0_18 pz0_19 pz0_22 pz0_23 pz0_29)), (z 3, aI V 900 fz3)] H := hP
              have hD := cpD hP hD
              refine lv_icmp_ne (tgt := 288) hx hb dX10_next_277 (by decide) (fun c_71 => ?_) (fun c_71 => ?_)
              · obtain ⟨x_72, ex_72⟩ : ∃ z9 : Int32, z9 = u_61 + 1 := ⟨_, rfl⟩
                have bx_72 : iv 1 12 x_72 := by rw [ex_72]; exact iv_add b_67 (iv_c (1 : Int32) (a := 1) (b := 1) (by decide)) (by decide)
                refine lv_iinc (v := x_72) (lv' := [(1, .int x_72), (0, .ref (z 0))]) hx hb dX10_next_288 hl (k := 0) rfl (by rw [ex_72]; rfl) (by decide) rfl (fun ls hl => ?_)
                refine lv_goto (tgt := 254) hx hb dX10_next_291 (by decide) ?_
                exact ihn_63 _ _ _ _ (by rw [en_63, ex_72]; exact mu_up b_67 (by decide)) ⟨x_72, u_62, (iv_w bx_72 (by decide)), (sgA_0 b_67 er_70 c_71 inn_63_0 ex_72), rfl, hP, hD, hS, lv_sub hl [0, 1] rfl⟩
              · have b_73 : iv 58 96 r_70 := iv_q c_71.symm b_57
                refine lv_aload_n hx hb dX10_next_280 rfl (lv_at hl 1 rfl) ?_
                refine lv_bipush (v := 30) hx hb dX10_next_281 (by decide) ?_
                refine lv_iload_n hx hb dX10_next_283 rfl (lv_at hl 0 rfl) ?_
                refine lv_iadd hx hb dX10_next_284 ?_
                refine lv_topi (fun x_74 ex_74 => ?_)
                have bx_74 : iv 30 41 x_74 := by rw [ex_74]; exact iv_add (iv_c (30 : Int32) (a := 30) (b := 30) (by decide)) b_67 (by decide)
                refine va_put (ci := 10) (v := .int x_74) (ty := .int) (C := RX10) (T := TX10) (N := 40) hx hb hg inX10 tyX10 tyX10_ok nmX10 hown hK hP hD hS 0 rfl rfl 9 (by decide) (hg _ q_5_233) (fun _ h9 => h9) rfl (by decide +kernel) rfl rfl (Nat.le_of_ble_eq_true rfl) dX10_next_285 (fun H locs hP hD hS => ?_)
                have hP : va_P V.1 vwCl [(z 0, .inr (10, mo z pz0_0 pz0_5 u_1 x_60 pz0_8 x_74 pz0_10 pz0_11 pz0_12 pz0_13 pz0_14 pz0_18 pz0_19 pz0_22 pz0_23 pz0_29)), (z 3, aI V 900 fz3)] H := hP
                have hD := cpD hP hD
                obtain ⟨x_75, ex_75⟩ : ∃ z9 : Int32, z9 = u_61 + 1 := ⟨_, rfl⟩
                have bx_75 : iv 1 12 x_75 := by rw [ex_75]; exact iv_add b_67 (iv_c (1 : Int32) (a := 1) (b := 1) (by decide)) (by decide)
                refine lv_iinc (v := x_75) (lv' := [(1, .int x_75), (0, .ref (z 0))]) hx hb dX10_next_288 hl (k := 0) rfl (by rw [ex_75]; rfl) (by decide) rfl (fun ls hl => ?_)
                refine lv_goto (tgt := 254) hx hb dX10_next_291 (by decide) ?_
                exact ihn_63 _ _ _ _ (by rw [en_63, ex_75]; exact mu_up b_67 (by decide)) ⟨x_75, x_74, (iv_w bx_75 (by decide)), (sgA_1 b_67 er_70 c_71 ex_74 ex_75), rfl, hP, hD, hS, lv_sub hl [0, 1] rfl⟩
          · have hP : va_P V.1 vwCl [(z 0, .inr (10, mo z pz0_0 pz0_5 u_1 u_1 pz0_8 pz0_9 pz0_10 pz0_11 pz0_12 pz0_13 pz0_14 pz0_18 pz0_19 pz0_22 pz0_23 pz0_29)), (z 3, aI V 900 fz3)] H := hP
            have hD := cpD hP hD
            have b_76 : iv 48 96 r_3 := iv_e2 (Int32.not_lt.mp c_34) (iv_c (48 : Int32) (a := 48) (b := 48) (by decide)) b_25 (by decide)
            have c_77 : u_1 < pz0_8 := (g_4 (Int.le_trans (by decide) b_76.1))
            have b_78 : iv 48 57 r_3 := iv_e1 (Int32.not_lt.mp c_35) b_76 (iv_c (57 : Int32) (a := 57) (b := 57) (by decide)) (by decide)
            refine lv_if_eq (tgt := 236) hx hb dX10_next_138 (by decide) (fun c_80 => absurd c_80 (by decide)) (fun _ => ?_)
            refine lv_aload_n hx hb dX10_next_141 rfl (lv_at hl 0 rfl) ?_
            refine lv_iconst (v := 0) hx hb dX10_next_142 (by decide) ?_
            refine va_put (ci := 10) (v := .int 0) (ty := .int) (C := RX10) (T := TX10) (N := 40) hx hb hg inX10 tyX10 tyX10_ok nmX10 hown hK hP hD hS 0 rfl rfl 10 (by decide) (hg _ q_5_234) (fun _ h9 => h9) rfl (by decide +kernel) rfl rfl (Nat.le_of_ble_eq_true rfl) dX10_next_143 (fun H locs hP hD hS => ?_)
            have hP : va_P V.1 vwCl [(z 0, .inr (10, mo z pz0_0 pz0_5 u_1 u_1 pz0_8 pz0_9 0 pz0_11 pz0_12 pz0_13 pz0_14 pz0_18 pz0_19 pz0_22 pz0_23 pz0_29)), (z 3, aI V 900 fz3)] H := hP
            have hD := cpD hP hD
            refine loopF (X := fun (n_83 : Nat) (H : Heap) (locs : List Loc) (ls : Array Slot) => ∃ (u_81 : Int32) (u_82 : Int32), (iv 0 900 u_81) ∧ (iv 0 999 u_82) ∧ ((u_1 : Int32).toInt ≤ (u_81 : Int32).toInt) ∧ ((u_81 : Int32).toInt ≤ (pz0_8 : Int32).toInt) ∧ ((u_1 : Int32).toInt < (u_81 : Int32).toInt ∨ 48 ≤ (seF fz3 u_81 pz0_8).toInt ∧ (seF fz3 u_81 pz0_8).toInt ≤ 57) ∧ ((u_82 : Int32).toInt < nd ((u_81 : Int32).toInt - (u_1 : Int32).toInt)) ∧ (∀ j : Int32, (u_1 : Int32).toInt ≤ j.toInt → j.toInt < (u_81 : Int32).toInt → ltB fz3 pz0_8 48 57 j = true) ∧ (u_82 = dv fz3 u_1 (min (u_81 - u_1).toNatClampNeg 3)) ∧ n_83 = (900 - (u_81 : Int32).toInt).toNat ∧ va_P V.1 vwCl [(z 0, .inr (10, mo z pz0_0 pz0_5 u_1 u_81 pz0_8 pz0_9 u_82 pz0_11 pz0_12 pz0_13 pz0_14 pz0_18 pz0_19 pz0_22 pz0_23 pz0_29)), (z 3, aI V 900 fz3)] H ∧ va_D A [(z 0, .inr (10, mo z pz0_0 pz0_5 u_1 u_81 pz0_8 pz0_9 u_82 pz0_11 pz0_12 pz0_13 pz0_14 pz0_18 pz0_19 pz0_22 pz0_23 pz0_29)), (z 3, aI V 900 fz3)] ∧ va_S A s.heap H locs ∧ lv_has ls 2 [(0, .ref (z 0))]) (g := fun ls => F0 m 146 ls []) (fun n_83 H locs ls hX ihn_83 => ?_) _ ⟨u_1, 0, (iv_w b_15 (by decide)), (iv_c (0 : Int32) (by decide)), (Int.le_refl _), inn_2_1, (Or.inr (by rw [← er_3]; have q9 := b_78; unfold iv at q9; omega)), (by rw [Int.sub_self]; decide), (fun j h1 h2 => absurd h1 (Int.not_le.mpr h2)), dvz_0, rfl, hP, hD, hS, lv_sub hl [0] rfl⟩
            obtain ⟨u_81, u_82, bu_81, bu_82, inn_83_0, inn_83_1, inn_83_2, inn_83_3, inn_83_4, inn_83_5, en_83, hP, hD, hS, hl⟩ := hX
            refine lv_aload_n hx hb dX10_next_146 rfl (lv_at hl 0 rfl) ?_
            refine lv_aload_n hx hb dX10_next_147 rfl (lv_at hl 0 rfl) ?_
            refine va_get (ci := 10) (v := .int u_81) (C := RX10) (T := TX10) (N := 40) hx hb hg inX10 hown hK hP 0 rfl rfl 7 (by decide) (hg _ q_5_231) (fun _ h9 => h9) rfl dX10_next_148 ?_
            refine jnI (wr := []) (rnV (rest := []) ⟨hx, hb, hml, hown, hg⟩ (k_X10_see_0 l V z u_81 pz0_0 pz0_5 u_1 u_81 pz0_8 pz0_9 u_82 pz0_11 pz0_12 pz0_13 pz0_14 pz0_18 pz0_19 pz0_22 pz0_23 pz0_29 fz3 bu_81 bpz0_5 (iv_w b_15 (by decide)) bu_81 (iv_w b_16 (by decide)) bu_82 bpz0_11 bpz0_12 bpz0_13 bpz0_14 bpz0_18 bpz0_22 bpz0_29 tfz3) mt_X10_see q_6_121 ⟨Nat.le_of_ble_eq_true rfl, Nat.le_of_ble_eq_true rfl⟩ hK hP hD hS hA hE [0, 1] rfl rfl 0 rfl rfl rfl rfl hl.1 rfl (Nat.le_of_ble_eq_true rfl) dX10_next_151 ⟨Nat.le_of_ble_eq_true rfl, Nat.le_of_ble_eq_true rfl⟩) hP hD hS hA [0, 1] [] rfl rfl rfl (by decide) (fun r_84 w H locs hw hP hD hS => ?_)
            obtain ⟨br_84, er_84, g_85, rfl⟩ := hw
            have hP : va_P V.1 vwCl [(z 0, .inr (10, mo z pz0_0 pz0_5 u_1 u_81 pz0_8 pz0_9 u_82 pz0_11 pz0_12 pz0_13 pz0_14 pz0_18 pz0_19 pz0_22 pz0_23 pz0_29)), (z 3, aI V 900 fz3)] H := hP
            have hD := cpD hP hD
            refine jnI (wr := [(z 0, .inr (10, mo z pz0_0 pz0_5 u_1 u_81 pz0_8 pz0_9 u_82 pz0_11 pz0_12 pz0_13 pz0_14 pz0_18 pz0_19 pz0_22 pz0_23 pz0_29)), (z 3, aI V 900 fz3)]) (rnS (rest := []) ⟨hx, hb, hml, hown, hg⟩ (k_X10_isDigit_0 l V r_84) mt_X10_isDigit q_6_135 ⟨Nat.le_of_ble_eq_true rfl, Nat.le_of_ble_eq_true rfl⟩ hK hP hD hS hA hE [] rfl rfl rfl hl.1 rfl (Nat.le_of_ble_eq_true rfl) dX10_next_154 ⟨Nat.le_of_ble_eq_true rfl, Nat.le_of_ble_eq_true rfl⟩) hP hD hS hA [] [0, 1] rfl rfl rfl (by decide) (fun r_86 w H locs hw hP hD hS => ?_)
            rcases hw with ⟨c_87, rfl, rfl⟩ | ⟨c_88, c_89, rfl, rfl⟩ | ⟨c_90, c_91, rfl, rfl⟩
            · have hP : va_P V.1 vwCl [(z 0, .inr (10, mo z pz0_0 pz0_5 u_1 u_81 pz0_8 pz0_9 u_82 pz0_11 pz0_12 pz0_13 pz0_14 pz0_18 pz0_19 pz0_22 pz0_23 pz0_29)), (z 3, aI V 900 fz3)] H := hP
              have hD := cpD hP hD
              have b_92 : iv (-1) 47 r_84 := iv_l1 c_87 br_84 (iv_c (48 : Int32) (a := 48) (b := 48) (by decide)) (by decide)
              refine lv_if_eq (tgt := 209) hx hb dX10_next_157 (by decide) (fun _ => ?_) (fun c_94 => absurd c_94 (by decide))
              refine lv_aload_n hx hb dX10_next_209 rfl (lv_at hl 0 rfl) ?_
              refine lv_aload_n hx hb dX10_next_210 rfl (lv_at hl 0 rfl) ?_
              refine va_get (ci := 10) (v := .int u_81) (C := RX10) (T := TX10) (N := 40) hx hb hg inX10 hown hK hP 0 rfl rfl 7 (by decide) (hg _ q_5_231) (fun _ h9 => h9) rfl dX10_next_211 ?_
              refine lv_aload_n hx hb dX10_next_214 rfl (lv_at hl 0 rfl) ?_
              refine va_get (ci := 10) (v := .int u_1) (C := RX10) (T := TX10) (N := 40) hx hb hg inX10 hown hK hP 0 rfl rfl 6 (by decide) (hg _ q_5_230) (fun _ h9 => h9) rfl dX10_next_215 ?_
              refine lv_isub hx hb dX10_next_218 ?_
              refine lv_topi (fun x_95 ex_95 => ?_)
              have bx_95 : iv (-899) 900 x_95 := by rw [ex_95]; exact iv_sub bu_81 b_15 (by decide)
              refine lv_iconst (v := 3) hx hb dX10_next_219 (by decide) ?_
              refine lv_icmp_le (tgt := 228) hx hb dX10_next_220 (by decide) (fun c_96 => ?_) (fun c_96 => ?_)
              · have b_97 : iv (-899) 3 x_95 := iv_e1 c_96 bx_95 (iv_c (3 : Int32) (a := 3) (b := 3) (by decide)) (by decide)
                refine lv_bipush (v := 23) hx hb dX10_next_228 (by decide) ?_
                refine va_put (ci := 10) (v := .int 23) (ty := .int) (C := RX10) (T := TX10) (N := 40) hx hb hg inX10 tyX10 tyX10_ok nmX10 hown hK hP hD hS 0 rfl rfl 9 (by decide) (hg _ q_5_233) (fun _ h9 => h9) rfl (by decide +kernel) rfl rfl (Nat.le_of_ble_eq_true rfl) dX10_next_230 (fun H locs hP hD hS => ?_)
                have hP : va_P V.1 vwCl [(z 0, .inr (10, mo z pz0_0 pz0_5 u_1 u_81 pz0_8 23 u_82 pz0_11 pz0_12 pz0_13 pz0_14 pz0_18 pz0_19 pz0_22 pz0_23 pz0_29)), (z 3, aI V 900 fz3)] H := hP
                have hD := cpD hP hD
                refine lv_goto (tgt := 294) hx hb dX10_next_233 (by decide) ?_
                exact fiV hx hb hr hlk hK hP hD hS dX10_next_294 (Nat.le_of_ble_eq_true rfl) (Nat.le_of_ble_eq_true rfl) (⟨u_1, u_81, 23, u_82, (iv_w b_15 (by decide)), bu_81, bu_82, ⟨inn_83_0, inn_83_1, fun _ => by rcases inn_83_2 with q | q; exact q; exfalso; rw [← er_84] at q; have z0 := Int32.lt_iff_toInt_lt.mp c_87; have y0 : (48 : Int32).toInt = 48 := (by decide); have y1 : (57 : Int32).toInt = 57 := (by decide); have y2 : (97 : Int32).toInt = 97 := (by decide); have y3 : (122 : Int32).toInt = 122 := (by decide); omega⟩, inn_2_0, (NZ_num ⟨bpz0_7.1, hf0⟩ (zP bpz0_7 (iv_w b_15 (by decide)) inn_2_0 inn_2_2 (blB_z0 er_3 c_5 c_13)) er_3 (fun z => absurd z.1 (Int32.not_le.mpr c_20)) (Int32.not_lt.mp c_34) (Int32.not_lt.mp c_35) (er_of (iv_w b_15 (by decide)) bu_81 inn_83_0 inn_83_4 (ltB_z0 er_84 (Or.inl (Int32.not_le.mpr c_87)))) ex_95 c_96 (iv_w b_15 (by decide)) bu_81 inn_83_0 inn_83_5), rfl⟩)
              · have b_98 : iv 4 900 x_95 := iv_l2 (Int32.not_le.mp c_96) (iv_c (3 : Int32) (a := 3) (b := 3) (by decide)) bx_95 (by decide)
                refine lv_bipush (v := 25) hx hb dX10_next_223 (by decide) ?_
                refine lv_goto (tgt := 230) hx hb dX10_next_225 (by decide) ?_
                refine va_put (ci := 10) (v := .int 25) (ty := .int) (C := RX10) (T := TX10) (N := 40) hx hb hg inX10 tyX10 tyX10_ok nmX10 hown hK hP hD hS 0 rfl rfl 9 (by decide) (hg _ q_5_233) (fun _ h9 => h9) rfl (by decide +kernel) rfl rfl (Nat.le_of_ble_eq_true rfl) dX10_next_230 (fun H locs hP hD hS => ?_)
                have hP : va_P V.1 vwCl [(z 0, .inr (10, mo z pz0_0 pz0_5 u_1 u_81 pz0_8 25 u_82 pz0_11 pz0_12 pz0_13 pz0_14 pz0_18 pz0_19 pz0_22 pz0_23 pz0_29)), (z 3, aI V 900 fz3)] H := hP
                have hD := cpD hP hD
                refine lv_goto (tgt := 294) hx hb dX10_next_233 (by decide) ?_
                exact fiV hx hb hr hlk hK hP hD hS dX10_next_294 (Nat.le_of_ble_eq_true rfl) (Nat.le_of_ble_eq_true rfl) (⟨u_1, u_81, 25, u_82, (iv_w b_15 (by decide)), bu_81, bu_82, ⟨inn_83_0, inn_83_1, fun _ => by rcases inn_83_2 with q | q; exact q; exfalso; rw [← er_84] at q; have z0 := Int32.lt_iff_toInt_lt.mp c_87; have y0 : (48 : Int32).toInt = 48 := (by decide); have y1 : (57 : Int32).toInt = 57 := (by decide); have y2 : (97 : Int32).toInt = 97 := (by decide); have y3 : (122 : Int32).toInt = 122 := (by decide); omega⟩, inn_2_0, (NZ_bad3 ⟨bpz0_7.1, hf0⟩ (zP bpz0_7 (iv_w b_15 (by decide)) inn_2_0 inn_2_2 (blB_z0 er_3 c_5 c_13)) er_3 (fun z => absurd z.1 (Int32.not_le.mpr c_20)) (Int32.not_lt.mp c_34) (Int32.not_lt.mp c_35) (er_of (iv_w b_15 (by decide)) bu_81 inn_83_0 inn_83_4 (ltB_z0 er_84 (Or.inl (Int32.not_le.mpr c_87)))) ex_95 c_96), rfl⟩)
            · have hP : va_P V.1 vwCl [(z 0, .inr (10, mo z pz0_0 pz0_5 u_1 u_81 pz0_8 pz0_9 u_82 pz0_11 pz0_12 pz0_13 pz0_14 pz0_18 pz0_19 pz0_22 pz0_23 pz0_29)), (z 3, aI V 900 fz3)] H := hP
              have hD := cpD hP hD
              have b_99 : iv 48 255 r_84 := iv_e2 (Int32.not_lt.mp c_88) (iv_c (48 : Int32) (a := 48) (b := 48) (by decide)) br_84 (by decide)
              have c_100 : u_81 < pz0_8 := (g_85 (Int.le_trans (by decide) b_99.1))
              have b_101 : iv 0 899 u_81 := iv_l1 c_100 bu_81 b_16 (by decide)
              have b_102 : iv 58 255 r_84 := iv_l2 c_89 (iv_c (57 : Int32) (a := 57) (b := 57) (by decide)) b_99 (by decide)
              refine lv_if_eq (tgt := 209) hx hb dX10_next_157 (by decide) (fun _ => ?_) (fun c_104 => absurd c_104 (by decide))
              refine lv_aload_n hx hb dX10_next_209 rfl (lv_at hl 0 rfl) ?_
              refine lv_aload_n hx hb dX10_next_210 rfl (lv_at hl 0 rfl) ?_
              refine va_get (ci := 10) (v := .int u_81) (C := RX10) (T := TX10) (N := 40) hx hb hg inX10 hown hK hP 0 rfl rfl 7 (by decide) (hg _ q_5_231) (fun _ h9 => h9) rfl dX10_next_211 ?_
              refine lv_aload_n hx hb dX10_next_214 rfl (lv_at hl 0 rfl) ?_
              refine va_get (ci := 10) (v := .int u_1) (C := RX10) (T := TX10) (N := 40) hx hb hg inX10 hown hK hP 0 rfl rfl 6 (by decide) (hg _ q_5_230) (fun _ h9 => h9) rfl dX10_next_215 ?_
              refine lv_isub hx hb dX10_next_218 ?_
              refine lv_topi (fun x_105 ex_105 => ?_)
              have bx_105 : iv (-899) 899 x_105 := by rw [ex_105]; exact iv_sub b_101 b_15 (by decide)
              refine lv_iconst (v := 3) hx hb dX10_next_219 (by decide) ?_
              refine lv_icmp_le (tgt := 228) hx hb dX10_next_220 (by decide) (fun c_106 => ?_) (fun c_106 => ?_)
              · have b_107 : iv (-899) 3 x_105 := iv_e1 c_106 bx_105 (iv_c (3 : Int32) (a := 3) (b := 3) (by decide)) (by decide)
                refine lv_bipush (v := 23) hx hb dX10_next_228 (by decide) ?_
                refine va_put (ci := 10) (v := .int 23) (ty := .int) (C := RX10) (T := TX10) (N := 40) hx hb hg inX10 tyX10 tyX10_ok nmX10 hown hK hP hD hS 0 rfl rfl 9 (by decide) (hg _ q_5_233) (fun _ h9 => h9) rfl (by decide +kernel) rfl rfl (Nat.le_of_ble_eq_true rfl) dX10_next_230 (fun H locs hP hD hS => ?_)
                have hP : va_P V.1 vwCl [(z 0, .inr (10, mo z pz0_0 pz0_5 u_1 u_81 pz0_8 23 u_82 pz0_11 pz0_12 pz0_13 pz0_14 pz0_18 pz0_19 pz0_22 pz0_23 pz0_29)), (z 3, aI V 900 fz3)] H := hP
                have hD := cpD hP hD
                refine lv_goto (tgt := 294) hx hb dX10_next_233 (by decide) ?_
                exact fiV hx hb hr hlk hK hP hD hS dX10_next_294 (Nat.le_of_ble_eq_true rfl) (Nat.le_of_ble_eq_true rfl) (⟨u_1, u_81, 23, u_82, (iv_w b_15 (by decide)), (iv_w b_101 (by decide)), bu_82, ⟨inn_83_0, inn_83_1, fun _ => by rcases inn_83_2 with q | q; exact q; exfalso; rw [← er_84] at q; have z0 := Int32.not_lt.mp c_88 |> Int32.le_iff_toInt_le.mp; have z1 := Int32.lt_iff_toInt_lt.mp c_89; have y0 : (48 : Int32).toInt = 48 := (by decide); have y1 : (57 : Int32).toInt = 57 := (by decide); have y2 : (97 : Int32).toInt = 97 := (by decide); have y3 : (122 : Int32).toInt = 122 := (by decide); omega⟩, inn_2_0, (NZ_num ⟨bpz0_7.1, hf0⟩ (zP bpz0_7 (iv_w b_15 (by decide)) inn_2_0 inn_2_2 (blB_z0 er_3 c_5 c_13)) er_3 (fun z => absurd z.1 (Int32.not_le.mpr c_20)) (Int32.not_lt.mp c_34) (Int32.not_lt.mp c_35) (er_of (iv_w b_15 (by decide)) (iv_w b_101 (by decide)) inn_83_0 inn_83_4 (ltB_z0 er_84 (Or.inr (Int32.not_le.mpr c_89)))) ex_105 c_106 (iv_w b_15 (by decide)) (iv_w b_101 (by decide)) inn_83_0 inn_83_5), rfl⟩)
              · have b_108 : iv 4 899 x_105 := iv_l2 (Int32.not_le.mp c_106) (iv_c (3 : Int32) (a := 3) (b := 3) (by decide)) bx_105 (by decide)
                refine lv_bipush (v := 25) hx hb dX10_next_223 (by decide) ?_
                refine lv_goto (tgt := 230) hx hb dX10_next_225 (by decide) ?_
                refine va_put (ci := 10) (v := .int 25) (ty := .int) (C := RX10) (T := TX10) (N := 40) hx hb hg inX10 tyX10 tyX10_ok nmX10 hown hK hP hD hS 0 rfl rfl 9 (by decide) (hg _ q_5_233) (fun _ h9 => h9) rfl (by decide +kernel) rfl rfl (Nat.le_of_ble_eq_true rfl) dX10_next_230 (fun H locs hP hD hS => ?_)
                have hP : va_P V.1 vwCl [(z 0, .inr (10, mo z pz0_0 pz0_5 u_1 u_81 pz0_8 25 u_82 pz0_11 pz0_12 pz0_13 pz0_14 pz0_18 pz0_19 pz0_22 pz0_23 pz0_29)), (z 3, aI V 900 fz3)] H := hP
                have hD := cpD hP hD
                refine lv_goto (tgt := 294) hx hb dX10_next_233 (by decide) ?_
                exact fiV hx hb hr hlk hK hP hD hS dX10_next_294 (Nat.le_of_ble_eq_true rfl) (Nat.le_of_ble_eq_true rfl) (⟨u_1, u_81, 25, u_82, (iv_w b_15 (by decide)), (iv_w b_101 (by decide)), bu_82, ⟨inn_83_0, inn_83_1, fun _ => by rcases inn_83_2 with q | q; exact q; exfalso; rw [← er_84] at q; have z0 := Int32.not_lt.mp c_88 |> Int32.le_iff_toInt_le.mp; have z1 := Int32.lt_iff_toInt_lt.mp c_89; have y0 : (48 : Int32).toInt = 48 := (by decide); have y1 : (57 : Int32).toInt = 57 := (by decide); have y2 : (97 : Int32).toInt = 97 := (by decide); have y3 : (122 : Int32).toInt = 122 := (by decide); omega⟩, inn_2_0, (NZ_bad3 ⟨bpz0_7.1, hf0⟩ (zP bpz0_7 (iv_w b_15 (by decide)) inn_2_0 inn_2_2 (blB_z0 er_3 c_5 c_13)) er_3 (fun z => absurd z.1 (Int32.not_le.mpr c_20)) (Int32.not_lt.mp c_34) (Int32.not_lt.mp c_35) (er_of (iv_w b_15 (by decide)) (iv_w b_101 (by decide)) inn_83_0 inn_83_4 (ltB_z0 er_84 (Or.inr (Int32.not_le.mpr c_89)))) ex_105 c_106), rfl⟩)
            · have hP : va_P V.1 vwCl [(z 0, .inr (10, mo z pz0_0 pz0_5 u_1 u_81 pz0_8 pz0_9 u_82 pz0_11 pz0_12 pz0_13 pz0_14 pz0_18 pz0_19 pz0_22 pz0_23 pz0_29)), (z 3, aI V 900 fz3)] H := hP
              have hD := cpD hP hD
              have b_109 : iv 48 255 r_84 := iv_e2 (Int32.not_lt.mp c_90) (iv_c (48 : Int32) (a := 48) (b := 48) (by decide)) br_84 (by decide)
              have c_110 : u_81 < pz0_8 := (g_85 (Int.le_trans (by decide) b_109.1))
              have b_111 : iv 0 899 u_81 := iv_l1 c_110 bu_81 b_16 (by decide)
              have b_112 : iv 48 57 r_84 := iv_e1 (Int32.not_lt.mp c_91) b_109 (iv_c (57 : Int32) (a := 57) (b := 57) (by decide)) (by decide)
              refine lv_if_eq (tgt := 209) hx hb dX10_next_157 (by decide) (fun c_114 => absurd c_114 (by decide)) (fun _ => ?_)
              refine lv_aload_n hx hb dX10_next_160 rfl (lv_at hl 0 rfl) ?_
              refine va_get (ci := 10) (v := .int u_81) (C := RX10) (T := TX10) (N := 40) hx hb hg inX10 hown hK hP 0 rfl rfl 7 (by decide) (hg _ q_5_231) (fun _ h9 => h9) rfl dX10_next_161 ?_
              refine lv_aload_n hx hb dX10_next_164 rfl (lv_at hl 0 rfl) ?_
              refine va_get (ci := 10) (v := .int u_1) (C := RX10) (T := TX10) (N := 40) hx hb hg inX10 hown hK hP 0 rfl rfl 6 (by decide) (hg _ q_5_230) (fun _ h9 => h9) rfl dX10_next_165 ?_
              refine lv_isub hx hb dX10_next_168 ?_
              refine lv_topi (fun x_115 ex_115 => ?_)
              have bx_115 : iv (-899) 899 x_115 := by rw [ex_115]; exact iv_sub b_111 b_15 (by decide)
              refine lv_iconst (v := 3) hx hb dX10_next_169 (by decide) ?_
              refine lv_icmp_ge (tgt := 196) hx hb dX10_next_170 (by decide) (fun c_116 => ?_) (fun c_116 => ?_)
              · have b_117 : iv 3 899 x_115 := iv_e2 c_116 (iv_c (3 : Int32) (a := 3) (b := 3) (by decide)) bx_115 (by decide)
                refine lv_aload_n hx hb dX10_next_196 rfl (lv_at hl 0 rfl) ?_
                refine lv_dup hx hb dX10_next_197 rfl ?_
                refine va_get (ci := 10) (v := .int u_81) (C := RX10) (T := TX10) (N := 40) hx hb hg inX10 hown hK hP 0 rfl rfl 7 (by decide) (hg _ q_5_231) (fun _ h9 => h9) rfl dX10_next_198 ?_
                refine lv_iconst (v := 1) hx hb dX10_next_201 (by decide) ?_
                refine lv_iadd hx hb dX10_next_202 ?_
                refine lv_topi (fun x_118 ex_118 => ?_)
                have bx_118 : iv 1 900 x_118 := by rw [ex_118]; exact iv_add b_111 (iv_c (1 : Int32) (a := 1) (b := 1) (by decide)) (by decide)
                refine va_put (ci := 10) (v := .int x_118) (ty := .int) (C := RX10) (T := TX10) (N := 40) hx hb hg inX10 tyX10 tyX10_ok nmX10 hown hK hP hD hS 0 rfl rfl 7 (by decide) (hg _ q_5_231) (fun _ h9 => h9) rfl (by decide +kernel) rfl rfl (Nat.le_of_ble_eq_true rfl) dX10_next_203 (fun H locs hP hD hS => ?_)
                have hP : va_P V.1 vwCl [(z 0, .inr (10, mo z pz0_0 pz0_5 u_1 x_118 pz0_8 pz0_9 u_82 pz0_11 pz0_12 pz0_13 pz0_14 pz0_18 pz0_19 pz0_22 pz0_23 pz0_29)), (z 3, aI V 900 fz3)] H := hP
                have hD := cpD hP hD
                refine lv_goto (tgt := 146) hx hb dX10_next_206 (by decide) ?_
                exact ihn_83 _ _ _ _ (by rw [en_83, ex_118]; exact mu_up b_111 (by decide)) ⟨x_118, u_82, (iv_w bx_118 (by decide)), bu_82, (by have q9 := inc_toInt ex_118 b_111 (by decide); have q8 := inn_83_0; omega), (by have q9 := inc_toInt ex_118 b_111 (by decide); have q8 := Int32.lt_iff_toInt_lt.mp c_110; omega), (Or.inl (by have q9 := inc_toInt ex_118 b_111 (by decide); have q8 := inn_83_0; omega)), (by have q7 := toInt_sub ex_115 b_111 b_15 (by decide); have q6 := (Int32.not_lt.mpr c_116); rw [Int32.lt_iff_toInt_lt, (by decide : (3 : Int32).toInt = 3)] at q6; rw [(show (x_118 : Int32).toInt - (u_1 : Int32).toInt = ((u_81 : Int32).toInt - (u_1 : Int32).toInt) + 1 by have q9 := inc_toInt ex_118 b_111 (by decide); omega)]; exact nd_k inn_83_3 (by omega)), (sc_s inn_83_4 (ltB_z1 er_84 (by decide) (Int32.not_lt.mp c_90) (Int32.not_lt.mp c_91)) ex_118 b_111 (by decide)), (dvz_k (iv_w b_15 (by decide)) (iv_w b_111 (by decide)) inn_83_0 inn_83_5 ex_115 (Int32.not_lt.mpr c_116) ex_118), rfl, hP, hD, hS, lv_sub hl [0] rfl⟩
              · have b_119 : iv (-899) 2 x_115 := iv_l1 (Int32.not_le.mp c_116) bx_115 (iv_c (3 : Int32) (a := 3) (b := 3) (by decide)) (by decide)
                have b_120 : iv 0 99 u_82 := by have q7 := toInt_sub ex_115 b_111 b_15 (by decide); have q6 := Int32.lt_iff_toInt_lt.mp (Int32.not_le.mp c_116); rw [(by decide : (3 : Int32).toInt = 3)] at q6; have q5 := nd_le (x := (u_81 : Int32).toInt - (u_1 : Int32).toInt) (by omega); have q4 := inn_83_3; have q3 := bu_82; unfold iv at *; omega
                refine lv_aload_n hx hb dX10_next_173 rfl (lv_at hl 0 rfl) ?_
                refine lv_bipush (v := 10) hx hb dX10_next_174 (by decide) ?_
                refine lv_aload_n hx hb dX10_next_176 rfl (lv_at hl 0 rfl) ?_
                refine va_get (ci := 10) (v := .int u_82) (C := RX10) (T := TX10) (N := 40) hx hb hg inX10 hown hK hP 0 rfl rfl 10 (by decide) (hg _ q_5_234) (fun _ h9 => h9) rfl dX10_next_177 ?_
                refine lv_imul hx hb dX10_next_180 ?_
                refine lv_topi (fun x_121 ex_121 => ?_)
                have bx_121 : iv 0 990 x_121 := by rw [ex_121]; exact iv_cmul (iv_c (10 : Int32) (a := 10) (b := 10) (by decide)) b_120 (by decide)
                refine lv_aload_n hx hb dX10_next_181 rfl (lv_at hl 0 rfl) ?_
                refine lv_aload_n hx hb dX10_next_182 rfl (lv_at hl 0 rfl) ?_
                refine va_get (ci := 10) (v := .int u_81) (C := RX10) (T := TX10) (N := 40) hx hb hg inX10 hown hK hP 0 rfl rfl 7 (by decide) (hg _ q_5_231) (fun _ h9 => h9) rfl dX10_next_183 ?_
                refine jnI (wr := []) (rnV (rest := [.int x_121, .ref (z 0)]) ⟨hx, hb, hml, hown, hg⟩ (k_X10_see_0 l V z u_81 pz0_0 pz0_5 u_1 u_81 pz0_8 pz0_9 u_82 pz0_11 pz0_12 pz0_13 pz0_14 pz0_18 pz0_19 pz0_22 pz0_23 pz0_29 fz3 (iv_w b_111 (by decide)) bpz0_5 (iv_w b_15 (by decide)) (iv_w b_111 (by decide)) (iv_w b_16 (by decide)) (iv_w b_120 (by decide)) bpz0_11 bpz0_12 bpz0_13 bpz0_14 bpz0_18 bpz0_22 bpz0_29 tfz3) mt_X10_see q_6_121 ⟨Nat.le_of_ble_eq_true rfl, Nat.le_of_ble_eq_true rfl⟩ hK hP hD hS hA hE [0, 1] rfl rfl 0 rfl rfl rfl rfl hl.1 rfl (Nat.le_of_ble_eq_true rfl) dX10_next_186 ⟨Nat.le_of_ble_eq_true rfl, Nat.le_of_ble_eq_true rfl⟩) hP hD hS hA [0, 1] [] rfl rfl rfl (by decide) (fun r_122 w H locs hw hP hD hS => ?_)
                obtain ⟨br_122, er_122, g_123, rfl⟩ := hw
                have e9_r_122 : r_122 = r_84 := er_122.trans er_84.symm
                rw [e9_r_122]
                have hP : va_P V.1 vwCl [(z 0, .inr (10, mo z pz0_0 pz0_5 u_1 u_81 pz0_8 pz0_9 u_82 pz0_11 pz0_12 pz0_13 pz0_14 pz0_18 pz0_19 pz0_22 pz0_23 pz0_29)), (z 3, aI V 900 fz3)] H := hP
                have hD := cpD hP hD
                refine lv_iadd hx hb dX10_next_189 ?_
                refine lv_topi (fun x_124 ex_124 => ?_)
                have bx_124 : iv 48 1047 x_124 := by rw [ex_124]; exact iv_add bx_121 b_112 (by decide)
                refine lv_bipush (v := 48) hx hb dX10_next_190 (by decide) ?_
                refine lv_isub hx hb dX10_next_192 ?_
                refine lv_topi (fun x_125 ex_125 => ?_)
                have bx_125 : iv 0 999 x_125 := by rw [ex_125]; exact iv_sub bx_124 (iv_c (48 : Int32) (a := 48) (b := 48) (by decide)) (by decide)
                refine va_put (ci := 10) (v := .int x_125) (ty := .int) (C := RX10) (T := TX10) (N := 40) hx hb hg inX10 tyX10 tyX10_ok nmX10 hown hK hP hD hS 0 rfl rfl 10 (by decide) (hg _ q_5_234) (fun _ h9 => h9) rfl (by decide +kernel) rfl rfl (Nat.le_of_ble_eq_true rfl) dX10_next_193 (fun H locs hP hD hS => ?_)
                have hP : va_P V.1 vwCl [(z 0, .inr (10, mo z pz0_0 pz0_5 u_1 u_81 pz0_8 pz0_9 x_125 pz0_11 pz0_12 pz0_13 pz0_14 pz0_18 pz0_19 pz0_22 pz0_23 pz0_29)), (z 3, aI V 900 fz3)] H := hP
                have hD := cpD hP hD
                refine lv_aload_n hx hb dX10_next_196 rfl (lv_at hl 0 rfl) ?_
                refine lv_dup hx hb dX10_next_197 rfl ?_
                refine va_get (ci := 10) (v := .int u_81) (C := RX10) (T := TX10) (N := 40) hx hb hg inX10 hown hK hP 0 rfl rfl 7 (by decide) (hg _ q_5_231) (fun _ h9 => h9) rfl dX10_next_198 ?_
                refine lv_iconst (v := 1) hx hb dX10_next_201 (by decide) ?_
                refine lv_iadd hx hb dX10_next_202 ?_
                refine lv_topi (fun x_126 ex_126 => ?_)
                have bx_126 : iv 1 900 x_126 := by rw [ex_126]; exact iv_add b_111 (iv_c (1 : Int32) (a := 1) (b := 1) (by decide)) (by decide)
                refine va_put (ci := 10) (v := .int x_126) (ty := .int) (C := RX10) (T := TX10) (N := 40) hx hb hg inX10 tyX10 tyX10_ok nmX10 hown hK hP hD hS 0 rfl rfl 7 (by decide) (hg _ q_5_231) (fun _ h9 => h9) rfl (by decide +kernel) rfl rfl (Nat.le_of_ble_eq_true rfl) dX10_next_203 (fun H locs hP hD hS => ?_)
                have hP : va_P V.1 vwCl [(z 0, .inr (10, mo z pz0_0 pz0_5 u_1 x_126 pz0_8 pz0_9 x_125 pz0_11 pz0_12 pz0_13 pz0_14 pz0_18 pz0_19 pz0_22 pz0_23 pz0_29)), (z 3, aI V 900 fz3)] H := hP
                have hD := cpD hP hD
                refine lv_goto (tgt := 146) hx hb dX10_next_206 (by decide) ?_
                exact ihn_83 _ _ _ _ (by rw [en_83, ex_126]; exact mu_up b_111 (by decide)) ⟨x_126, x_125, (iv_w bx_126 (by decide)), bx_125, (by have q9 := inc_toInt ex_126 b_111 (by decide); have q8 := inn_83_0; omega), (by have q9 := inc_toInt ex_126 b_111 (by decide); have q8 := Int32.lt_iff_toInt_lt.mp c_110; omega), (Or.inl (by have q9 := inc_toInt ex_126 b_111 (by decide); have q8 := inn_83_0; omega)), (by have q7 := toInt_sub ex_115 b_111 b_15 (by decide); have q6 := Int32.lt_iff_toInt_lt.mp (Int32.not_le.mp c_116); rw [(by decide : (3 : Int32).toInt = 3)] at q6; have p1 := toInt_mulC (k := 10) ex_121 b_120 (by decide) (by decide); have p2 := toInt_add ex_124 bx_121 b_112 (by decide); have p3 := toInt_sub ex_125 bx_124 (iv_c (48 : Int32) (a := 48) (b := 48) (by decide)) (by decide); have p4 : (48 : Int32).toInt = 48 := (by decide); have p5 := b_112; rw [(show (x_126 : Int32).toInt - (u_1 : Int32).toInt = ((u_81 : Int32).toInt - (u_1 : Int32).toInt) + 1 by have q9 := inc_toInt ex_126 b_111 (by decide); omega)]; refine nd_s (m := (u_82 : Int32).toInt) (r := (r_84 : Int32).toInt - 48) (by have q5 := inn_83_0; omega) inn_83_3 (by omega) (by unfold iv at p5; omega) (by omega)), (sc_s inn_83_4 (ltB_z1 er_84 (by decide) (Int32.not_lt.mp c_90) (Int32.not_lt.mp c_91)) ex_126 b_111 (by decide)), (dvz_s (iv_w b_15 (by decide)) (iv_w b_111 (by decide)) inn_83_0 inn_83_5 ex_115 (Int32.not_le.mp c_116) er_84 (Int.le_trans (by decide) b_112.1) ex_121 ex_124 ex_125 ex_126), rfl, hP, hD, hS, lv_sub hl [0] rfl⟩
        · have hP : va_P V.1 vwCl [(z 0, .inr (10, mo z pz0_0 pz0_5 u_1 u_1 pz0_8 pz0_9 pz0_10 pz0_11 pz0_12 pz0_13 pz0_14 pz0_18 pz0_19 pz0_22 pz0_23 pz0_29)), (z 3, aI V 900 fz3)] H := hP
          have hD := cpD hP hD
          have b_127 : iv 97 255 r_3 := iv_e2 (Int32.not_lt.mp c_21) (iv_c (97 : Int32) (a := 97) (b := 97) (by decide)) br_3 (by decide)
          have c_128 : u_1 < pz0_8 := (g_4 (Int.le_trans (by decide) b_127.1))
          have b_129 : iv 123 255 r_3 := iv_l2 c_22 (iv_c (122 : Int32) (a := 122) (b := 122) (by decide)) b_127 (by decide)
          refine lv_if_eq (tgt := 127) hx hb dX10_next_86 (by decide) (fun _ => ?_) (fun c_131 => absurd c_131 (by decide))
          refine lv_aload_n hx hb dX10_next_127 rfl (lv_at hl 0 rfl) ?_
          refine lv_aload_n hx hb dX10_next_128 rfl (lv_at hl 0 rfl) ?_
          refine va_get (ci := 10) (v := .int u_1) (C := RX10) (T := TX10) (N := 40) hx hb hg inX10 hown hK hP 0 rfl rfl 6 (by decide) (hg _ q_5_230) (fun _ h9 => h9) rfl dX10_next_129 ?_
          refine jnI (wr := []) (rnV (rest := []) ⟨hx, hb, hml, hown, hg⟩ (k_X10_see_0 l V z u_1 pz0_0 pz0_5 u_1 u_1 pz0_8 pz0_9 pz0_10 pz0_11 pz0_12 pz0_13 pz0_14 pz0_18 pz0_19 pz0_22 pz0_23 pz0_29 fz3 (iv_w b_15 (by decide)) bpz0_5 (iv_w b_15 (by decide)) (iv_w b_15 (by decide)) (iv_w b_16 (by decide)) bpz0_10 bpz0_11 bpz0_12 bpz0_13 bpz0_14 bpz0_18 bpz0_22 bpz0_29 tfz3) mt_X10_see q_6_121 ⟨Nat.le_of_ble_eq_true rfl, Nat.le_of_ble_eq_true rfl⟩ hK hP hD hS hA hE [0, 1] rfl rfl 0 rfl rfl rfl rfl hl.1 rfl (Nat.le_of_ble_eq_true rfl) dX10_next_132 ⟨Nat.le_of_ble_eq_true rfl, Nat.le_of_ble_eq_true rfl⟩) hP hD hS hA [0, 1] [] rfl rfl rfl (by decide) (fun r_132 w H locs hw hP hD hS => ?_)
          obtain ⟨br_132, er_132, g_133, rfl⟩ := hw
          have e9_r_132 : r_132 = r_3 := er_132.trans er_3.symm
          rw [e9_r_132]
          have hP : va_P V.1 vwCl [(z 0, .inr (10, mo z pz0_0 pz0_5 u_1 u_1 pz0_8 pz0_9 pz0_10 pz0_11 pz0_12 pz0_13 pz0_14 pz0_18 pz0_19 pz0_22 pz0_23 pz0_29)), (z 3, aI V 900 fz3)] H := hP
          have hD := cpD hP hD
          refine jnI (wr := [(z 0, .inr (10, mo z pz0_0 pz0_5 u_1 u_1 pz0_8 pz0_9 pz0_10 pz0_11 pz0_12 pz0_13 pz0_14 pz0_18 pz0_19 pz0_22 pz0_23 pz0_29)), (z 3, aI V 900 fz3)]) (rnS (rest := []) ⟨hx, hb, hml, hown, hg⟩ (k_X10_isDigit_0 l V r_3) mt_X10_isDigit q_6_135 ⟨Nat.le_of_ble_eq_true rfl, Nat.le_of_ble_eq_true rfl⟩ hK hP hD hS hA hE [] rfl rfl rfl hl.1 rfl (Nat.le_of_ble_eq_true rfl) dX10_next_135 ⟨Nat.le_of_ble_eq_true rfl, Nat.le_of_ble_eq_true rfl⟩) hP hD hS hA [] [0, 1] rfl rfl rfl (by decide) (fun r_134 w H locs hw hP hD hS => ?_)
          rcases hw with ⟨c_135, rfl, rfl⟩ | ⟨c_136, c_137, rfl, rfl⟩ | ⟨c_138, c_139, rfl, rfl⟩
          · have hP : va_P V.1 vwCl [(z 0, .inr (10, mo z pz0_0 pz0_5 u_1 u_1 pz0_8 pz0_9 pz0_10 pz0_11 pz0_12 pz0_13 pz0_14 pz0_18 pz0_19 pz0_22 pz0_23 pz0_29)), (z 3, aI V 900 fz3)] H := hP
            have hD := cpD hP hD
            exact absurd c_135 (iv_nlt b_129 (iv_c (48 : Int32) (a := 48) (b := 48) (by decide)) (by decide))
          · have hP : va_P V.1 vwCl [(z 0, .inr (10, mo z pz0_0 pz0_5 u_1 u_1 pz0_8 pz0_9 pz0_10 pz0_11 pz0_12 pz0_13 pz0_14 pz0_18 pz0_19 pz0_22 pz0_23 pz0_29)), (z 3, aI V 900 fz3)] H := hP
            have hD := cpD hP hD
            refine lv_if_eq (tgt := 236) hx hb dX10_next_138 (by decide) (fun _ => ?_) (fun c_141 => absurd c_141 (by decide))
            refine lv_aload_n hx hb dX10_next_236 rfl (lv_at hl 0 rfl) ?_
            refine lv_dup hx hb dX10_next_237 rfl ?_
            refine va_get (ci := 10) (v := .int u_1) (C := RX10) (T := TX10) (N := 40) hx hb hg inX10 hown hK hP 0 rfl rfl 7 (by decide) (hg _ q_5_231) (fun _ h9 => h9) rfl dX10_next_238 ?_
            refine lv_iconst (v := 1) hx hb dX10_next_241 (by decide) ?_
            refine lv_iadd hx hb dX10_next_242 ?_
            refine lv_topi (fun x_142 ex_142 => ?_)
            have bx_142 : iv 1 900 x_142 := by rw [ex_142]; exact iv_add b_15 (iv_c (1 : Int32) (a := 1) (b := 1) (by decide)) (by decide)
            refine va_put (ci := 10) (v := .int x_142) (ty := .int) (C := RX10) (T := TX10) (N := 40) hx hb hg inX10 tyX10 tyX10_ok nmX10 hown hK hP hD hS 0 rfl rfl 7 (by decide) (hg _ q_5_231) (fun _ h9 => h9) rfl (by decide +kernel) rfl rfl (Nat.le_of_ble_eq_true rfl) dX10_next_243 (fun H locs hP hD hS => ?_)
            have hP : va_P V.1 vwCl [(z 0, .inr (10, mo z pz0_0 pz0_5 u_1 x_142 pz0_8 pz0_9 pz0_10 pz0_11 pz0_12 pz0_13 pz0_14 pz0_18 pz0_19 pz0_22 pz0_23 pz0_29)), (z 3, aI V 900 fz3)] H := hP
            have hD := cpD hP hD
            refine lv_aload_n hx hb dX10_next_246 rfl (lv_at hl 0 rfl) ?_
            refine lv_bipush (v := 25) hx hb dX10_next_247 (by decide) ?_
            refine va_put (ci := 10) (v := .int 25) (ty := .int) (C := RX10) (T := TX10) (N := 40) hx hb hg inX10 tyX10 tyX10_ok nmX10 hown hK hP hD hS 0 rfl rfl 9 (by decide) (hg _ q_5_233) (fun _ h9 => h9) rfl (by decide +kernel) rfl rfl (Nat.le_of_ble_eq_true rfl) dX10_next_249 (fun H locs hP hD hS => ?_)
            have hP : va_P V.1 vwCl [(z 0, .inr (10, mo z pz0_0 pz0_5 u_1 x_142 pz0_8 25 pz0_10 pz0_11 pz0_12 pz0_13 pz0_14 pz0_18 pz0_19 pz0_22 pz0_23 pz0_29)), (z 3, aI V 900 fz3)] H := hP
            have hD := cpD hP hD
            refine lv_iconst (v := 0) hx hb dX10_next_252 (by decide) ?_
            refine lv_istore_n (lv' := [(1, .int 0), (0, .ref (z 0))]) hx hb dX10_next_253 rfl hl (by decide) rfl (fun ls hl => ?_)
            refine loopF (X := fun (n_145 : Nat) (H : Heap) (locs : List Loc) (ls : Array Slot) => ∃ (u_143 : Int32) (u_144 : Int32), (iv 0 12 u_143) ∧ (u_144 = sgA r_3 (u_143 : Int32).toNatClampNeg) ∧ n_145 = (2147483647 - (u_143 : Int32).toInt).toNat ∧ va_P V.1 vwCl [(z 0, .inr (10, mo z pz0_0 pz0_5 u_1 x_142 pz0_8 u_144 pz0_10 pz0_11 pz0_12 pz0_13 pz0_14 pz0_18 pz0_19 pz0_22 pz0_23 pz0_29)), (z 3, aI V 900 fz3)] H ∧ va_D A [(z 0, .inr (10, mo z pz0_0 pz0_5 u_1 x_142 pz0_8 u_144 pz0_10 pz0_11 pz0_12 pz0_13 pz0_14 pz0_18 pz0_19 pz0_22 pz0_23 pz0_29)), (z 3, aI V 900 fz3)] ∧ va_S A s.heap H locs ∧ lv_has ls 2 [(1, .int u_143), (0, .ref (z 0))]) (g := fun ls => F0 m 254 ls []) (fun n_145 H locs ls hX ihn_145 => ?_) _ ⟨0, 25, (iv_c (0 : Int32) (by decide)), rfl, rfl, hP, hD, hS, lv_sub hl [0, 1] rfl⟩
            obtain ⟨u_143, u_144, bu_143, inn_145_0, en_145, hP, hD, hS, hl⟩ := hX
            refine lv_iload_n hx hb dX10_next_254 rfl (lv_at hl 0 rfl) ?_
            refine va_ldcS hx hb hown (hE.2.2.2.2.2.2 36 ("BeaconDelayModel", 141, ";:+-*()[]=<>", [59, 58, 43, 45, 42, 40, 41, 91, 93, 61, 60, 62]) rfl).1 dX10_next_255 ?_
            refine jnI (wr := [(z 0, .inr (10, mo z pz0_0 pz0_5 u_1 x_142 pz0_8 u_144 pz0_10 pz0_11 pz0_12 pz0_13 pz0_14 pz0_18 pz0_19 pz0_22 pz0_23 pz0_29)), (z 3, aI V 900 fz3)]) (rnVx (rest := [.int u_143]) ⟨hx, hb, hml, hown, hg⟩ (k_J0_length_8abf5_0 l V 36 ("BeaconDelayModel", 141, ";:+-*()[]=<>", [59, 58, 43, 45, 42, 40, 41, 91, 93, 61, 60, 62]) rfl) mt_J0_length_8abf5 q_6_133 ⟨Nat.le_of_ble_eq_true rfl, Nat.le_of_ble_eq_true rfl⟩ hK hP hD hS hA hE [] rfl rfl (o_recv (hE.2.2.2.2.2.2 36 ("BeaconDelayModel", 141, ";:+-*()[]=<>", [59, 58, 43, 45, 42, 40, 41, 91, 93, 61, 60, 62]) rfl).2.1 hS) rfl hl.1 rfl (Nat.le_of_ble_eq_true rfl) dX10_next_257 ⟨Nat.le_of_ble_eq_true rfl, Nat.le_of_ble_eq_true rfl⟩) hP hD hS hA [] [0, 1] rfl rfl rfl (by decide) (fun r_146 w H locs hw hP hD hS => ?_)
            obtain ⟨rfl, rfl⟩ := hw
            have hP : va_P V.1 vwCl [(z 0, .inr (10, mo z pz0_0 pz0_5 u_1 x_142 pz0_8 u_144 pz0_10 pz0_11 pz0_12 pz0_13 pz0_14 pz0_18 pz0_19 pz0_22 pz0_23 pz0_29)), (z 3, aI V 900 fz3)] H := hP
            have hD := cpD hP hD
            refine lv_icmp_ge (tgt := 294) hx hb dX10_next_260 (by decide) (fun c_147 => ?_) (fun c_147 => ?_)
            · have b_148 : iv 12 12 u_143 := iv_e2 c_147 (iv_c (12 : Int32) (a := 12) (b := 12) (by decide)) bu_143 (by decide)
              exact fiV hx hb hr hlk hK hP hD hS dX10_next_294 (Nat.le_of_ble_eq_true rfl) (Nat.le_of_ble_eq_true rfl) (⟨u_1, x_142, u_144, pz0_10, (iv_w b_15 (by decide)), (iv_w bx_142 (by decide)), bpz0_10, ⟨(by have q9 := inc_toInt ex_142 b_15 (by decide); omega), (by have q9 := inc_toInt ex_142 b_15 (by decide); have q8 := Int32.lt_iff_toInt_lt.mp c_128; omega), fun _ => by have q9 := inc_toInt ex_142 b_15 (by decide); omega⟩, inn_2_0, (NZ_sign ⟨bpz0_7.1, hf0⟩ tfz3 (zP bpz0_7 (iv_w b_15 (by decide)) inn_2_0 inn_2_2 (blB_z0 er_3 c_5 c_13)) c_128 er_3 (fun z => absurd z.2 (Int32.not_le.mpr c_22)) (fun z => absurd z.2 (Int32.not_le.mpr c_137)) ex_142 (Int32.not_lt.mpr c_147) (iv_w b_148 (by decide)) inn_145_0), rfl⟩)
            · have b_149 : iv 0 11 u_143 := iv_l1 (Int32.not_le.mp c_147) bu_143 (iv_c (12 : Int32) (a := 12) (b := 12) (by decide)) (by decide)
              refine lv_aload_n hx hb dX10_next_263 rfl (lv_at hl 1 rfl) ?_
              refine lv_aload_n hx hb dX10_next_264 rfl (lv_at hl 1 rfl) ?_
              refine va_get (ci := 10) (v := .int u_1) (C := RX10) (T := TX10) (N := 40) hx hb hg inX10 hown hK hP 0 rfl rfl 6 (by decide) (hg _ q_5_230) (fun _ h9 => h9) rfl dX10_next_265 ?_
              refine jnI (wr := []) (rnV (rest := []) ⟨hx, hb, hml, hown, hg⟩ (k_X10_see_0 l V z u_1 pz0_0 pz0_5 u_1 x_142 pz0_8 u_144 pz0_10 pz0_11 pz0_12 pz0_13 pz0_14 pz0_18 pz0_19 pz0_22 pz0_23 pz0_29 fz3 (iv_w b_15 (by decide)) bpz0_5 (iv_w b_15 (by decide)) (iv_w bx_142 (by decide)) (iv_w b_16 (by decide)) bpz0_10 bpz0_11 bpz0_12 bpz0_13 bpz0_14 bpz0_18 bpz0_22 bpz0_29 tfz3) mt_X10_see q_6_121 ⟨Nat.le_of_ble_eq_true rfl, Nat.le_of_ble_eq_true rfl⟩ hK hP hD hS hA hE [0, 1] rfl rfl 0 rfl rfl rfl rfl hl.1 rfl (Nat.le_of_ble_eq_true rfl) dX10_next_268 ⟨Nat.le_of_ble_eq_true rfl, Nat.le_of_ble_eq_true rfl⟩) hP hD hS hA [0, 1] [] rfl rfl rfl (by decide) (fun r_150 w H locs hw hP hD hS => ?_)
              obtain ⟨br_150, er_150, g_151, rfl⟩ := hw
              have e9_r_150 : r_150 = r_3 := er_150.trans er_3.symm
              rw [e9_r_150]
              have hP : va_P V.1 vwCl [(z 0, .inr (10, mo z pz0_0 pz0_5 u_1 x_142 pz0_8 u_144 pz0_10 pz0_11 pz0_12 pz0_13 pz0_14 pz0_18 pz0_19 pz0_22 pz0_23 pz0_29)), (z 3, aI V 900 fz3)] H := hP
              have hD := cpD hP hD
              refine va_ldcS hx hb hown (hE.2.2.2.2.2.2 36 ("BeaconDelayModel", 141, ";:+-*()[]=<>", [59, 58, 43, 45, 42, 40, 41, 91, 93, 61, 60, 62]) rfl).1 dX10_next_271 ?_
              refine lv_iload_n hx hb dX10_next_273 rfl (lv_at hl 0 rfl) ?_
              refine jnI (wr := [(z 0, .inr (10, mo z pz0_0 pz0_5 u_1 x_142 pz0_8 u_144 pz0_10 pz0_11 pz0_12 pz0_13 pz0_14 pz0_18 pz0_19 pz0_22 pz0_23 pz0_29)), (z 3, aI V 900 fz3)]) (rnVx (rest := [.int r_3]) ⟨hx, hb, hml, hown, hg⟩ (k_J0_charAt_5068e_0 l V 36 ("BeaconDelayModel", 141, ";:+-*()[]=<>", [59, 58, 43, 45, 42, 40, 41, 91, 93, 61, 60, 62]) rfl u_143 (iv_w b_149 (by decide)) (Int32.not_le.mp c_147)) mt_J0_charAt_5068e q_6_134 ⟨Nat.le_of_ble_eq_true rfl, Nat.le_of_ble_eq_true rfl⟩ hK hP hD hS hA hE [] rfl rfl (o_recv (hE.2.2.2.2.2.2 36 ("BeaconDelayModel", 141, ";:+-*()[]=<>", [59, 58, 43, 45, 42, 40, 41, 91, 93, 61, 60, 62]) rfl).2.1 hS) rfl hl.1 rfl (Nat.le_of_ble_eq_true rfl) dX10_next_274 ⟨Nat.le_of_ble_eq_true rfl, Nat.le_of_ble_eq_true rfl⟩) hP hD hS hA [] [0, 1] rfl rfl rfl (by decide) (fun r_152 w H locs hw hP hD hS => ?_)
              obtain ⟨er_152, rfl⟩ := hw
              have hP : va_P V.1 vwCl [(z 0, .inr (10, mo z pz0_0 pz0_5 u_1 x_142 pz0_8 u_144 pz0_10 pz0_11 pz0_12 pz0_13 pz0_14 pz0_18 pz0_19 pz0_22 pz0_23 pz0_29)), (z 3, aI V 900 fz3)] H := hP
              have hD := cpD hP hD
              refine lv_icmp_ne (tgt := 288) hx hb dX10_next_277 (by decide) (fun c_153 => ?_) (fun c_153 => ?_)
              · obtain ⟨x_154, ex_154⟩ : ∃ z9 : Int32, z9 = u_143 + 1 := ⟨_, rfl⟩
                have bx_154 : iv 1 12 x_154 := by rw [ex_154]; exact iv_add b_149 (iv_c (1 : Int32) (a := 1) (b := 1) (by decide)) (by decide)
                refine lv_iinc (v := x_154) (lv' := [(1, .int x_154), (0, .ref (z 0))]) hx hb dX10_next_288 hl (k := 0) rfl (by rw [ex_154]; rfl) (by decide) rfl (fun ls hl => ?_)
                refine lv_goto (tgt := 254) hx hb dX10_next_291 (by decide) ?_
                exact ihn_145 _ _ _ _ (by rw [en_145, ex_154]; exact mu_up b_149 (by decide)) ⟨x_154, u_144, (iv_w bx_154 (by decide)), (sgA_0 b_149 er_152 c_153 inn_145_0 ex_154), rfl, hP, hD, hS, lv_sub hl [0, 1] rfl⟩
              · have b_155 : iv 123 255 r_152 := iv_q c_153.symm b_129
                refine lv_aload_n hx hb dX10_next_280 rfl (lv_at hl 1 rfl) ?_
                refine lv_bipush (v := 30) hx hb dX10_next_281 (by decide) ?_
                refine lv_iload_n hx hb dX10_next_283 rfl (lv_at hl 0 rfl) ?_
                refine lv_iadd hx hb dX10_next_284 ?_
                refine lv_topi (fun x_156 ex_156 => ?_)
                have bx_156 : iv 30 41 x_156 := by rw [ex_156]; exact iv_add (iv_c (30 : Int32) (a := 30) (b := 30) (by decide)) b_149 (by decide)
                refine va_put (ci := 10) (v := .int x_156) (ty := .int) (C := RX10) (T := TX10) (N := 40) hx hb hg inX10 tyX10 tyX10_ok nmX10 hown hK hP hD hS 0 rfl rfl 9 (by decide) (hg _ q_5_233) (fun _ h9 => h9) rfl (by decide +kernel) rfl rfl (Nat.le_of_ble_eq_true rfl) dX10_next_285 (fun H locs hP hD hS => ?_)
                have hP : va_P V.1 vwCl [(z 0, .inr (10, mo z pz0_0 pz0_5 u_1 x_142 pz0_8 x_156 pz0_10 pz0_11 pz0_12 pz0_13 pz0_14 pz0_18 pz0_19 pz0_22 pz0_23 pz0_29)), (z 3, aI V 900 fz3)] H := hP
                have hD := cpD hP hD
                obtain ⟨x_157, ex_157⟩ : ∃ z9 : Int32, z9 = u_143 + 1 := ⟨_, rfl⟩
                have bx_157 : iv 1 12 x_157 := by rw [ex_157]; exact iv_add b_149 (iv_c (1 : Int32) (a := 1) (b := 1) (by decide)) (by decide)
                refine lv_iinc (v := x_157) (lv' := [(1, .int x_157), (0, .ref (z 0))]) hx hb dX10_next_288 hl (k := 0) rfl (by rw [ex_157]; rfl) (by decide) rfl (fun ls hl => ?_)
                refine lv_goto (tgt := 254) hx hb dX10_next_291 (by decide) ?_
                exact ihn_145 _ _ _ _ (by rw [en_145, ex_157]; exact mu_up b_149 (by decide)) ⟨x_157, x_156, (iv_w bx_157 (by decide)), (sgA_1 b_149 er_152 c_153 ex_156 ex_157), rfl, hP, hD, hS, lv_sub hl [0, 1] rfl⟩
          · have hP : va_P V.1 vwCl [(z 0, .inr (10, mo z pz0_0 pz0_5 u_1 u_1 pz0_8 pz0_9 pz0_10 pz0_11 pz0_12 pz0_13 pz0_14 pz0_18 pz0_19 pz0_22 pz0_23 pz0_29)), (z 3, aI V 900 fz3)] H := hP
            have hD := cpD hP hD
            exact absurd (iv_lt (iv_c (57 : Int32) (a := 57) (b := 57) (by decide)) b_129 (by decide)) c_139
        · have hP : va_P V.1 vwCl [(z 0, .inr (10, mo z pz0_0 pz0_5 u_1 u_1 pz0_8 pz0_9 pz0_10 pz0_11 pz0_12 pz0_13 pz0_14 pz0_18 pz0_19 pz0_22 pz0_23 pz0_29)), (z 3, aI V 900 fz3)] H := hP
          have hD := cpD hP hD
          have b_158 : iv 97 255 r_3 := iv_e2 (Int32.not_lt.mp c_23) (iv_c (97 : Int32) (a := 97) (b := 97) (by decide)) br_3 (by decide)
          have c_159 : u_1 < pz0_8 := (g_4 (Int.le_trans (by decide) b_158.1))
          have b_160 : iv 97 122 r_3 := iv_e1 (Int32.not_lt.mp c_24) b_158 (iv_c (122 : Int32) (a := 122) (b := 122) (by decide)) (by decide)
          refine lv_if_eq (tgt := 127) hx hb dX10_next_86 (by decide) (fun c_162 => absurd c_162 (by decide)) (fun _ => ?_)
          refine loopF (X := fun (n_164 : Nat) (H : Heap) (locs : List Loc) (ls : Array Slot) => ∃ (u_163 : Int32), (iv 0 900 u_163) ∧ ((u_1 : Int32).toInt ≤ (u_163 : Int32).toInt) ∧ ((u_163 : Int32).toInt ≤ (pz0_8 : Int32).toInt) ∧ ((u_1 : Int32).toInt < (u_163 : Int32).toInt ∨ 97 ≤ (seF fz3 u_163 pz0_8).toInt ∧ (seF fz3 u_163 pz0_8).toInt ≤ 122) ∧ (∀ j : Int32, (u_1 : Int32).toInt ≤ j.toInt → j.toInt < (u_163 : Int32).toInt → ltB fz3 pz0_8 97 122 j = true) ∧ n_164 = (900 - (u_163 : Int32).toInt).toNat ∧ va_P V.1 vwCl [(z 0, .inr (10, mo z pz0_0 pz0_5 u_1 u_163 pz0_8 pz0_9 pz0_10 pz0_11 pz0_12 pz0_13 pz0_14 pz0_18 pz0_19 pz0_22 pz0_23 pz0_29)), (z 3, aI V 900 fz3)] H ∧ va_D A [(z 0, .inr (10, mo z pz0_0 pz0_5 u_1 u_163 pz0_8 pz0_9 pz0_10 pz0_11 pz0_12 pz0_13 pz0_14 pz0_18 pz0_19 pz0_22 pz0_23 pz0_29)), (z 3, aI V 900 fz3)] ∧ va_S A s.heap H locs ∧ lv_has ls 2 [(0, .ref (z 0))]) (g := fun ls => F0 m 89 ls []) (fun n_164 H locs ls hX ihn_164 => ?_) _ ⟨u_1, (iv_w b_15 (by decide)), (Int.le_refl _), inn_2_1, (Or.inr (by rw [← er_3]; have q9 := b_160; unfold iv at q9; omega)), (fun j h1 h2 => absurd h1 (Int.not_le.mpr h2)), rfl, hP, hD, hS, lv_sub hl [0] rfl⟩
          obtain ⟨u_163, bu_163, inn_164_0, inn_164_1, inn_164_2, inn_164_3, en_164, hP, hD, hS, hl⟩ := hX
          refine lv_aload_n hx hb dX10_next_89 rfl (lv_at hl 0 rfl) ?_
          refine lv_aload_n hx hb dX10_next_90 rfl (lv_at hl 0 rfl) ?_
          refine va_get (ci := 10) (v := .int u_163) (C := RX10) (T := TX10) (N := 40) hx hb hg inX10 hown hK hP 0 rfl rfl 7 (by decide) (hg _ q_5_231) (fun _ h9 => h9) rfl dX10_next_91 ?_
          refine jnI (wr := []) (rnV (rest := []) ⟨hx, hb, hml, hown, hg⟩ (k_X10_see_0 l V z u_163 pz0_0 pz0_5 u_1 u_163 pz0_8 pz0_9 pz0_10 pz0_11 pz0_12 pz0_13 pz0_14 pz0_18 pz0_19 pz0_22 pz0_23 pz0_29 fz3 bu_163 bpz0_5 (iv_w b_15 (by decide)) bu_163 (iv_w b_16 (by decide)) bpz0_10 bpz0_11 bpz0_12 bpz0_13 bpz0_14 bpz0_18 bpz0_22 bpz0_29 tfz3) mt_X10_see q_6_121 ⟨Nat.le_of_ble_eq_true rfl, Nat.le_of_ble_eq_true rfl⟩ hK hP hD hS hA hE [0, 1] rfl rfl 0 rfl rfl rfl rfl hl.1 rfl (Nat.le_of_ble_eq_true rfl) dX10_next_94 ⟨Nat.le_of_ble_eq_true rfl, Nat.le_of_ble_eq_true rfl⟩) hP hD hS hA [0, 1] [] rfl rfl rfl (by decide) (fun r_165 w H locs hw hP hD hS => ?_)
          obtain ⟨br_165, er_165, g_166, rfl⟩ := hw
          have hP : va_P V.1 vwCl [(z 0, .inr (10, mo z pz0_0 pz0_5 u_1 u_163 pz0_8 pz0_9 pz0_10 pz0_11 pz0_12 pz0_13 pz0_14 pz0_18 pz0_19 pz0_22 pz0_23 pz0_29)), (z 3, aI V 900 fz3)] H := hP
          have hD := cpD hP hD
          refine jnI (wr := [(z 0, .inr (10, mo z pz0_0 pz0_5 u_1 u_163 pz0_8 pz0_9 pz0_10 pz0_11 pz0_12 pz0_13 pz0_14 pz0_18 pz0_19 pz0_22 pz0_23 pz0_29)), (z 3, aI V 900 fz3)]) (rnS (rest := []) ⟨hx, hb, hml, hown, hg⟩ (k_X10_isSmall_0 l V r_165) mt_X10_isSmall q_6_125 ⟨Nat.le_of_ble_eq_true rfl, Nat.le_of_ble_eq_true rfl⟩ hK hP hD hS hA hE [] rfl rfl rfl hl.1 rfl (Nat.le_of_ble_eq_true rfl) dX10_next_97 ⟨Nat.le_of_ble_eq_true rfl, Nat.le_of_ble_eq_true rfl⟩) hP hD hS hA [] [0, 1] rfl rfl rfl (by decide) (fun r_167 w H locs hw hP hD hS => ?_)
          rcases hw with ⟨c_168, rfl, rfl⟩ | ⟨c_169, c_170, rfl, rfl⟩ | ⟨c_171, c_172, rfl, rfl⟩
          · have hP : va_P V.1 vwCl [(z 0, .inr (10, mo z pz0_0 pz0_5 u_1 u_163 pz0_8 pz0_9 pz0_10 pz0_11 pz0_12 pz0_13 pz0_14 pz0_18 pz0_19 pz0_22 pz0_23 pz0_29)), (z 3, aI V 900 fz3)] H := hP
            have hD := cpD hP hD
            have b_173 : iv (-1) 96 r_165 := iv_l1 c_168 br_165 (iv_c (97 : Int32) (a := 97) (b := 97) (by decide)) (by decide)
            refine lv_if_eq (tgt := 116) hx hb dX10_next_100 (by decide) (fun _ => ?_) (fun c_175 => absurd c_175 (by decide))
            refine lv_aload_n hx hb dX10_next_116 rfl (lv_at hl 0 rfl) ?_
            refine lv_aload_n hx hb dX10_next_117 rfl (lv_at hl 0 rfl) ?_
            refine jnI (wr := []) (rnV (rest := [.ref (z 0)]) ⟨hx, hb, hml, hown, hg⟩ (k_X10_keyAt_0 l V z pz0_0 pz0_5 u_1 u_163 pz0_8 pz0_9 pz0_10 pz0_11 pz0_12 pz0_13 pz0_14 pz0_18 pz0_19 pz0_22 pz0_23 pz0_29 fz3 bpz0_5 (iv_w b_15 (by decide)) bu_163 (iv_w b_16 (by decide)) bpz0_10 bpz0_11 bpz0_12 bpz0_13 bpz0_14 bpz0_18 bpz0_22 bpz0_29 tfz3 inn_164_0) mt_X10_keyAt q_6_128 ⟨Nat.le_of_ble_eq_true rfl, Nat.le_of_ble_eq_true rfl⟩ hK hP hD hS hA hE [0, 1] rfl rfl 0 rfl rfl rfl rfl hl.1 rfl (Nat.le_of_ble_eq_true rfl) dX10_next_118 ⟨Nat.le_of_ble_eq_true rfl, Nat.le_of_ble_eq_true rfl⟩) hP hD hS hA [0, 1] [] rfl rfl rfl (by decide) (fun r_176 w H locs hw hP hD hS => ?_)
            obtain ⟨er_176, rfl⟩ := hw
            have hP : va_P V.1 vwCl [(z 0, .inr (10, mo z pz0_0 pz0_5 u_1 u_163 pz0_8 pz0_9 pz0_10 pz0_11 pz0_12 pz0_13 pz0_14 pz0_18 pz0_19 pz0_22 pz0_23 pz0_29)), (z 3, aI V 900 fz3)] H := hP
            have hD := cpD hP hD
            refine va_put (ci := 10) (v := .int r_176) (ty := .int) (C := RX10) (T := TX10) (N := 40) hx hb hg inX10 tyX10 tyX10_ok nmX10 hown hK hP hD hS 0 rfl rfl 9 (by decide) (hg _ q_5_233) (fun _ h9 => h9) rfl (by decide +kernel) rfl rfl (Nat.le_of_ble_eq_true rfl) dX10_next_121 (fun H locs hP hD hS => ?_)
            have hP : va_P V.1 vwCl [(z 0, .inr (10, mo z pz0_0 pz0_5 u_1 u_163 pz0_8 r_176 pz0_10 pz0_11 pz0_12 pz0_13 pz0_14 pz0_18 pz0_19 pz0_22 pz0_23 pz0_29)), (z 3, aI V 900 fz3)] H := hP
            have hD := cpD hP hD
            refine lv_goto (tgt := 294) hx hb dX10_next_124 (by decide) ?_
            exact fiV hx hb hr hlk hK hP hD hS dX10_next_294 (Nat.le_of_ble_eq_true rfl) (Nat.le_of_ble_eq_true rfl) (⟨u_1, u_163, r_176, pz0_10, (iv_w b_15 (by decide)), bu_163, bpz0_10, ⟨inn_164_0, inn_164_1, fun _ => by rcases inn_164_2 with q | q; exact q; exfalso; rw [← er_165] at q; have z0 := Int32.lt_iff_toInt_lt.mp c_168; have y0 : (48 : Int32).toInt = 48 := (by decide); have y1 : (57 : Int32).toInt = 57 := (by decide); have y2 : (97 : Int32).toInt = 97 := (by decide); have y3 : (122 : Int32).toInt = 122 := (by decide); omega⟩, inn_2_0, (NZ_word ⟨bpz0_7.1, hf0⟩ (zP bpz0_7 (iv_w b_15 (by decide)) inn_2_0 inn_2_2 (blB_z0 er_3 c_5 c_13)) er_3 (Int32.not_lt.mp c_23) (Int32.not_lt.mp c_24) (er_of (iv_w b_15 (by decide)) bu_163 inn_164_0 inn_164_3 (ltB_z0 er_165 (Or.inl (Int32.not_le.mpr c_168)))) er_176), rfl⟩)
          · have hP : va_P V.1 vwCl [(z 0, .inr (10, mo z pz0_0 pz0_5 u_1 u_163 pz0_8 pz0_9 pz0_10 pz0_11 pz0_12 pz0_13 pz0_14 pz0_18 pz0_19 pz0_22 pz0_23 pz0_29)), (z 3, aI V 900 fz3)] H := hP
            have hD := cpD hP hD
            have b_177 : iv 97 255 r_165 := iv_e2 (Int32.not_lt.mp c_169) (iv_c (97 : Int32) (a := 97) (b := 97) (by decide)) br_165 (by decide)
            have c_178 : u_163 < pz0_8 := (g_166 (Int.le_trans (by decide) b_177.1))
            have b_179 : iv 0 899 u_163 := iv_l1 c_178 bu_163 b_16 (by decide)
            have b_180 : iv 123 255 r_165 := iv_l2 c_170 (iv_c (122 : Int32) (a := 122) (b := 122) (by decide)) b_177 (by decide)
            refine lv_if_eq (tgt := 116) hx hb dX10_next_100 (by decide) (fun _ => ?_) (fun c_182 => absurd c_182 (by decide))
            refine lv_aload_n hx hb dX10_next_116 rfl (lv_at hl 0 rfl) ?_
            refine lv_aload_n hx hb dX10_next_117 rfl (lv_at hl 0 rfl) ?_
            refine jnI (wr := []) (rnV (rest := [.ref (z 0)]) ⟨hx, hb, hml, hown, hg⟩ (k_X10_keyAt_0 l V z pz0_0 pz0_5 u_1 u_163 pz0_8 pz0_9 pz0_10 pz0_11 pz0_12 pz0_13 pz0_14 pz0_18 pz0_19 pz0_22 pz0_23 pz0_29 fz3 bpz0_5 (iv_w b_15 (by decide)) (iv_w b_179 (by decide)) (iv_w b_16 (by decide)) bpz0_10 bpz0_11 bpz0_12 bpz0_13 bpz0_14 bpz0_18 bpz0_22 bpz0_29 tfz3 inn_164_0) mt_X10_keyAt q_6_128 ⟨Nat.le_of_ble_eq_true rfl, Nat.le_of_ble_eq_true rfl⟩ hK hP hD hS hA hE [0, 1] rfl rfl 0 rfl rfl rfl rfl hl.1 rfl (Nat.le_of_ble_eq_true rfl) dX10_next_118 ⟨Nat.le_of_ble_eq_true rfl, Nat.le_of_ble_eq_true rfl⟩) hP hD hS hA [0, 1] [] rfl rfl rfl (by decide) (fun r_183 w H locs hw hP hD hS => ?_)
            obtain ⟨er_183, rfl⟩ := hw
            have hP : va_P V.1 vwCl [(z 0, .inr (10, mo z pz0_0 pz0_5 u_1 u_163 pz0_8 pz0_9 pz0_10 pz0_11 pz0_12 pz0_13 pz0_14 pz0_18 pz0_19 pz0_22 pz0_23 pz0_29)), (z 3, aI V 900 fz3)] H := hP
            have hD := cpD hP hD
            refine va_put (ci := 10) (v := .int r_183) (ty := .int) (C := RX10) (T := TX10) (N := 40) hx hb hg inX10 tyX10 tyX10_ok nmX10 hown hK hP hD hS 0 rfl rfl 9 (by decide) (hg _ q_5_233) (fun _ h9 => h9) rfl (by decide +kernel) rfl rfl (Nat.le_of_ble_eq_true rfl) dX10_next_121 (fun H locs hP hD hS => ?_)
            have hP : va_P V.1 vwCl [(z 0, .inr (10, mo z pz0_0 pz0_5 u_1 u_163 pz0_8 r_183 pz0_10 pz0_11 pz0_12 pz0_13 pz0_14 pz0_18 pz0_19 pz0_22 pz0_23 pz0_29)), (z 3, aI V 900 fz3)] H := hP
            have hD := cpD hP hD
            refine lv_goto (tgt := 294) hx hb dX10_next_124 (by decide) ?_
            exact fiV hx hb hr hlk hK hP hD hS dX10_next_294 (Nat.le_of_ble_eq_true rfl) (Nat.le_of_ble_eq_true rfl) (⟨u_1, u_163, r_183, pz0_10, (iv_w b_15 (by decide)), (iv_w b_179 (by decide)), bpz0_10, ⟨inn_164_0, inn_164_1, fun _ => by rcases inn_164_2 with q | q; exact q; exfalso; rw [← er_165] at q; have z0 := Int32.not_lt.mp c_169 |> Int32.le_iff_toInt_le.mp; have z1 := Int32.lt_iff_toInt_lt.mp c_170; have y0 : (48 : Int32).toInt = 48 := (by decide); have y1 : (57 : Int32).toInt = 57 := (by decide); have y2 : (97 : Int32).toInt = 97 := (by decide); have y3 : (122 : Int32).toInt = 122 := (by decide); omega⟩, inn_2_0, (NZ_word ⟨bpz0_7.1, hf0⟩ (zP bpz0_7 (iv_w b_15 (by decide)) inn_2_0 inn_2_2 (blB_z0 er_3 c_5 c_13)) er_3 (Int32.not_lt.mp c_23) (Int32.not_lt.mp c_24) (er_of (iv_w b_15 (by decide)) (iv_w b_179 (by decide)) inn_164_0 inn_164_3 (ltB_z0 er_165 (Or.inr (Int32.not_le.mpr c_170)))) er_183), rfl⟩)
          · have hP : va_P V.1 vwCl [(z 0, .inr (10, mo z pz0_0 pz0_5 u_1 u_163 pz0_8 pz0_9 pz0_10 pz0_11 pz0_12 pz0_13 pz0_14 pz0_18 pz0_19 pz0_22 pz0_23 pz0_29)), (z 3, aI V 900 fz3)] H := hP
            have hD := cpD hP hD
            have b_184 : iv 97 255 r_165 := iv_e2 (Int32.not_lt.mp c_171) (iv_c (97 : Int32) (a := 97) (b := 97) (by decide)) br_165 (by decide)
            have c_185 : u_163 < pz0_8 := (g_166 (Int.le_trans (by decide) b_184.1))
            have b_186 : iv 0 899 u_163 := iv_l1 c_185 bu_163 b_16 (by decide)
            have b_187 : iv 97 122 r_165 := iv_e1 (Int32.not_lt.mp c_172) b_184 (iv_c (122 : Int32) (a := 122) (b := 122) (by decide)) (by decide)
            refine lv_if_eq (tgt := 116) hx hb dX10_next_100 (by decide) (fun c_189 => absurd c_189 (by decide)) (fun _ => ?_)
            refine lv_aload_n hx hb dX10_next_103 rfl (lv_at hl 0 rfl) ?_
            refine lv_dup hx hb dX10_next_104 rfl ?_
            refine va_get (ci := 10) (v := .int u_163) (C := RX10) (T := TX10) (N := 40) hx hb hg inX10 hown hK hP 0 rfl rfl 7 (by decide) (hg _ q_5_231) (fun _ h9 => h9) rfl dX10_next_105 ?_
            refine lv_iconst (v := 1) hx hb dX10_next_108 (by decide) ?_
            refine lv_iadd hx hb dX10_next_109 ?_
            refine lv_topi (fun x_190 ex_190 => ?_)
            have bx_190 : iv 1 900 x_190 := by rw [ex_190]; exact iv_add b_186 (iv_c (1 : Int32) (a := 1) (b := 1) (by decide)) (by decide)
            refine va_put (ci := 10) (v := .int x_190) (ty := .int) (C := RX10) (T := TX10) (N := 40) hx hb hg inX10 tyX10 tyX10_ok nmX10 hown hK hP hD hS 0 rfl rfl 7 (by decide) (hg _ q_5_231) (fun _ h9 => h9) rfl (by decide +kernel) rfl rfl (Nat.le_of_ble_eq_true rfl) dX10_next_110 (fun H locs hP hD hS => ?_)
            have hP : va_P V.1 vwCl [(z 0, .inr (10, mo z pz0_0 pz0_5 u_1 x_190 pz0_8 pz0_9 pz0_10 pz0_11 pz0_12 pz0_13 pz0_14 pz0_18 pz0_19 pz0_22 pz0_23 pz0_29)), (z 3, aI V 900 fz3)] H := hP
            have hD := cpD hP hD
            refine lv_goto (tgt := 89) hx hb dX10_next_113 (by decide) ?_
            exact ihn_164 _ _ _ _ (by rw [en_164, ex_190]; exact mu_up b_186 (by decide)) ⟨x_190, (iv_w bx_190 (by decide)), (by have q9 := inc_toInt ex_190 b_186 (by decide); have q8 := inn_164_0; omega), (by have q9 := inc_toInt ex_190 b_186 (by decide); have q8 := Int32.lt_iff_toInt_lt.mp c_185; omega), (Or.inl (by have q9 := inc_toInt ex_190 b_186 (by decide); have q8 := inn_164_0; omega)), (sc_s inn_164_3 (ltB_z1 er_165 (by decide) (Int32.not_lt.mp c_171) (Int32.not_lt.mp c_172)) ex_190 b_186 (by decide)), rfl, hP, hD, hS, lv_sub hl [0] rfl⟩
      · refine lv_aload_n hx hb dX10_next_66 rfl (lv_at hl 0 rfl) ?_
        refine lv_bipush (v := 24) hx hb dX10_next_67 (by decide) ?_
        refine va_put (ci := 10) (v := .int 24) (ty := .int) (C := RX10) (T := TX10) (N := 40) hx hb hg inX10 tyX10 tyX10_ok nmX10 hown hK hP hD hS 0 rfl rfl 9 (by decide) (hg _ q_5_233) (fun _ h9 => h9) rfl (by decide +kernel) rfl rfl (Nat.le_of_ble_eq_true rfl) dX10_next_69 (fun H locs hP hD hS => ?_)
        have hP : va_P V.1 vwCl [(z 0, .inr (10, mo z pz0_0 pz0_5 u_1 u_1 pz0_8 24 pz0_10 pz0_11 pz0_12 pz0_13 pz0_14 pz0_18 pz0_19 pz0_22 pz0_23 pz0_29)), (z 3, aI V 900 fz3)] H := hP
        have hD := cpD hP hD
        refine lv_goto (tgt := 294) hx hb dX10_next_72 (by decide) ?_
        exact fiV hx hb hr hlk hK hP hD hS dX10_next_294 (Nat.le_of_ble_eq_true rfl) (Nat.le_of_ble_eq_true rfl) (⟨u_1, u_1, 24, pz0_10, bu_1, bu_1, bpz0_10, ⟨Int.le_refl _, inn_2_1, fun q9 => absurd rfl q9⟩, inn_2_0, (NZ_end ⟨bpz0_7.1, hf0⟩ (zP bpz0_7 bu_1 inn_2_0 inn_2_2 (blB_z0 er_3 c_5 c_13)) c_14), rfl⟩)
    · have b_191 : iv 32 32 r_3 := iv_q c_13 (iv_c (32 : Int32) (a := 32) (b := 32) (by decide))
      have c_192 : u_1 < pz0_8 := (g_4 (Int.le_trans (by decide) b_191.1))
      have b_193 : iv 0 899 u_1 := iv_l1 c_192 bu_1 bpz0_8 (by decide)
      have b_194 : iv 1 900 pz0_8 := iv_l2 c_192 bu_1 bpz0_8 (by decide)
      refine lv_aload_n hx hb dX10_next_34 rfl (lv_at hl 0 rfl) ?_
      refine lv_dup hx hb dX10_next_35 rfl ?_
      refine va_get (ci := 10) (v := .int u_1) (C := RX10) (T := TX10) (N := 40) hx hb hg inX10 hown hK hP 0 rfl rfl 6 (by decide) (hg _ q_5_230) (fun _ h9 => h9) rfl dX10_next_36 ?_
      refine lv_iconst (v := 1) hx hb dX10_next_39 (by decide) ?_
      refine lv_iadd hx hb dX10_next_40 ?_
      refine lv_topi (fun x_195 ex_195 => ?_)
      have bx_195 : iv 1 900 x_195 := by rw [ex_195]; exact iv_add b_193 (iv_c (1 : Int32) (a := 1) (b := 1) (by decide)) (by decide)
      refine va_put (ci := 10) (v := .int x_195) (ty := .int) (C := RX10) (T := TX10) (N := 40) hx hb hg inX10 tyX10 tyX10_ok nmX10 hown hK hP hD hS 0 rfl rfl 6 (by decide) (hg _ q_5_230) (fun _ h9 => h9) rfl (by decide +kernel) rfl rfl (Nat.le_of_ble_eq_true rfl) dX10_next_41 (fun H locs hP hD hS => ?_)
      have hP : va_P V.1 vwCl [(z 0, .inr (10, mo z pz0_0 pz0_5 x_195 pz0_7 pz0_8 pz0_9 pz0_10 pz0_11 pz0_12 pz0_13 pz0_14 pz0_18 pz0_19 pz0_22 pz0_23 pz0_29)), (z 3, aI V 900 fz3)] H := hP
      have hD := cpD hP hD
      refine lv_goto (tgt := 8) hx hb dX10_next_44 (by decide) ?_
      exact ihn_2 _ _ _ _ (by rw [en_2, ex_195]; exact mu_up b_193 (by decide)) ⟨x_195, (iv_w bx_195 (by decide)), (by have q9 := inc_toInt ex_195 b_193 (by decide); have q8 := inn_2_0; omega), (by have q9 := inc_toInt ex_195 b_193 (by decide); have q8 := Int32.lt_iff_toInt_lt.mp c_192; omega), (sc_s inn_2_2 (blB_z1 er_3 (Or.inr c_13)) ex_195 b_193 (by decide)), rfl, hP, hD, hS, lv_sub hl [0] rfl⟩
