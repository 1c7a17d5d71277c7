theorem dX10_feed_0 : decode cX10_feed 0 = .ok (.aload_n 0, 1) := by decide +kernel
theorem dX10_feed_1 : decode cX10_feed 1 = .ok (.iconst 0, 1) := by decide +kernel
theorem q_5_224 : Cond.fieldLink "BeaconDelayModel" 1 "BeaconDelayModel" "thrown" "I" ∈ gw := gw_5 (i := 224) (by decide +kernel) rfl
theorem dX10_feed_2 : decode cX10_feed 2 = .ok (.putfield 1, 3) := by decide +kernel
theorem dX10_feed_5 : decode cX10_feed 5 = .ok (.aload_n 0, 1) := by decide +kernel
theorem q_5_229 : Cond.fieldLink "BeaconDelayModel" 97 "BeaconDelayModel" "taped" "I" ∈ gw := gw_5 (i := 229) (by decide +kernel) rfl
theorem dX10_feed_6 : decode cX10_feed 6 = .ok (.getfield 97, 3) := by decide +kernel
theorem dX10_feed_9 : decode cX10_feed 9 = .ok (.bipush 20, 2) := by decide +kernel
theorem dX10_feed_11 : decode cX10_feed 11 = .ok (.iadd, 1) := by decide +kernel
theorem dX10_feed_12 : decode cX10_feed 12 = .ok (.sipush 900, 3) := by decide +kernel
theorem dX10_feed_15 : decode cX10_feed 15 = .ok (.if_icmp .le 6, 3) := by decide +kernel
theorem dX10_feed_21 : decode cX10_feed 21 = .ok (.iconst 0, 1) := by decide +kernel
theorem dX10_feed_22 : decode cX10_feed 22 = .ok (.istore 6, 2) := by decide +kernel
theorem dX10_feed_24 : decode cX10_feed 24 = .ok (.iload 6, 2) := by decide +kernel
theorem dX10_feed_26 : decode cX10_feed 26 = .ok (.bipush 20, 2) := by decide +kernel
theorem dX10_feed_28 : decode cX10_feed 28 = .ok (.if_icmp .ge 93, 3) := by decide +kernel
theorem dX10_feed_31 : decode cX10_feed 31 = .ok (.iload 6, 2) := by decide +kernel
theorem dX10_feed_33 : decode cX10_feed 33 = .ok (.iconst 4, 1) := by decide +kernel
theorem dX10_feed_34 : decode cX10_feed 34 = .ok (.if_icmp .ge 7, 3) := by decide +kernel
theorem dX10_feed_37 : decode cX10_feed 37 = .ok (.iload_n 1, 1) := by decide +kernel
theorem dX10_feed_38 : decode cX10_feed 38 = .ok (.goto 39, 3) := by decide +kernel
theorem dX10_feed_77 : decode cX10_feed 77 = .ok (.istore 7, 2) := by decide +kernel
theorem dX10_feed_79 : decode cX10_feed 79 = .ok (.aload_n 0, 1) := by decide +kernel
theorem dX10_feed_80 : decode cX10_feed 80 = .ok (.getfield 21, 3) := by decide +kernel
theorem dX10_feed_83 : decode cX10_feed 83 = .ok (.aload_n 0, 1) := by decide +kernel
theorem dX10_feed_84 : decode cX10_feed 84 = .ok (.getfield 97, 3) := by decide +kernel
theorem dX10_feed_87 : decode cX10_feed 87 = .ok (.iload 7, 2) := by decide +kernel
theorem dX10_feed_89 : decode cX10_feed 89 = .ok (.bipush 24, 2) := by decide +kernel
theorem dX10_feed_91 : decode cX10_feed 91 = .ok (.bipush 8, 2) := by decide +kernel
theorem dX10_feed_93 : decode cX10_feed 93 = .ok (.iload 6, 2) := by decide +kernel
theorem dX10_feed_95 : decode cX10_feed 95 = .ok (.iconst 4, 1) := by decide +kernel
theorem dX10_feed_96 : decode cX10_feed 96 = .ok (.irem, 1) := by decide +kernel
theorem dX10_feed_97 : decode cX10_feed 97 = .ok (.imul, 1) := by decide +kernel
theorem dX10_feed_98 : decode cX10_feed 98 = .ok (.isub, 1) := by decide +kernel
theorem dX10_feed_99 : decode cX10_feed 99 = .ok (.ishr, 1) := by decide +kernel
theorem dX10_feed_100 : decode cX10_feed 100 = .ok (.sipush 255, 3) := by decide +kernel
theorem dX10_feed_103 : decode cX10_feed 103 = .ok (.iand, 1) := by decide +kernel
theorem dX10_feed_104 : decode cX10_feed 104 = .ok (.iastore, 1) := by decide +kernel
theorem dX10_feed_105 : decode cX10_feed 105 = .ok (.aload_n 0, 1) := by decide +kernel
theorem dX10_feed_106 : decode cX10_feed 106 = .ok (.dup, 1) := by decide +kernel
theorem dX10_feed_107 : decode cX10_feed 107 = .ok (.getfield 97, 3) := by decide +kernel
theorem dX10_feed_110 : decode cX10_feed 110 = .ok (.iconst 1, 1) := by decide +kernel
theorem dX10_feed_111 : decode cX10_feed 111 = .ok (.iadd, 1) := by decide +kernel
theorem dX10_feed_112 : decode cX10_feed 112 = .ok (.putfield 97, 3) := by decide +kernel
theorem dX10_feed_115 : decode cX10_feed 115 = .ok (.iinc 6 1, 3) := by decide +kernel
theorem dX10_feed_118 : decode cX10_feed 118 = .ok (.goto (-94), 3) := by decide +kernel
theorem dX10_feed_41 : decode cX10_feed 41 = .ok (.iload 6, 2) := by decide +kernel
theorem dX10_feed_43 : decode cX10_feed 43 = .ok (.bipush 8, 2) := by decide +kernel
theorem dX10_feed_45 : decode cX10_feed 45 = .ok (.if_icmp .ge 7, 3) := by decide +kernel
theorem dX10_feed_48 : decode cX10_feed 48 = .ok (.iload_n 2, 1) := by decide +kernel
theorem dX10_feed_49 : decode cX10_feed 49 = .ok (.goto 28, 3) := by decide +kernel
theorem dX10_feed_52 : decode cX10_feed 52 = .ok (.iload 6, 2) := by decide +kernel
theorem dX10_feed_54 : decode cX10_feed 54 = .ok (.bipush 12, 2) := by decide +kernel
theorem dX10_feed_56 : decode cX10_feed 56 = .ok (.if_icmp .ge 7, 3) := by decide +kernel
theorem dX10_feed_59 : decode cX10_feed 59 = .ok (.iload_n 3, 1) := by decide +kernel
theorem dX10_feed_60 : decode cX10_feed 60 = .ok (.goto 17, 3) := by decide +kernel
theorem dX10_feed_63 : decode cX10_feed 63 = .ok (.iload 6, 2) := by decide +kernel
theorem dX10_feed_65 : decode cX10_feed 65 = .ok (.bipush 16, 2) := by decide +kernel
theorem dX10_feed_67 : decode cX10_feed 67 = .ok (.if_icmp .ge 8, 3) := by decide +kernel
theorem dX10_feed_70 : decode cX10_feed 70 = .ok (.iload 4, 2) := by decide +kernel
theorem dX10_feed_72 : decode cX10_feed 72 = .ok (.goto 5, 3) := by decide +kernel
theorem dX10_feed_75 : decode cX10_feed 75 = .ok (.iload 5, 2) := by decide +kernel
theorem dX10_feed_121 : decode cX10_feed 121 = .ok (.aload_n 0, 1) := by decide +kernel
theorem dX10_feed_122 : decode cX10_feed 122 = .ok (.getfield 97, 3) := by decide +kernel
theorem dX10_feed_125 : decode cX10_feed 125 = .ok (.ireturn, 1) := by decide +kernel
set_option maxHeartbeats 4000000 in
set_option maxRecDepth 100000 in
theorem c_X10_feed_0 (l : Launch) (V : GV) (z : Nat → Nat) (p0 : Int32) (p1 : Int32) (p2 : Int32) (p3 : Int32) (p4 : Int32) : Ct l V yX10_feed (.code yX10_feed cX10_feed 8 (some .int)) 1 [.ref (z 0), .int p0, .int p1, .int p2, .int p3, .int p4] [(z 0, .inr (10, mo z 0 0 0 0 0 0 0 0 0 0 (-1) 0 0 0 0 0)), (z 3, aI V 900 (fun _ => 0))] 0 0 (QI V (fun (r : Int32) (w : va_W) => (∃ (f_4 : Nat → Int32) (f_7 : Nat → Int32) (f_10 : Nat → Int32) (f_13 : Nat → Int32) (f_17 : Nat → Int32) (f_21 : Nat → Int32) (f_25 : Nat → Int32) (f_29 : Nat → Int32) (f_34 : Nat → Int32) (f_39 : Nat → Int32) (f_44 : Nat → Int32) (f_49 : Nat → Int32) (f_55 : Nat → Int32) (f_61 : Nat → Int32) (f_67 : Nat → Int32) (f_73 : Nat → Int32) (f_79 : Nat → Int32) (f_85 : Nat → Int32) (f_91 : Nat → Int32) (f_97 : Nat → Int32), r = 20 ∧ w = [(z 0, .inr (10, mo z 0 20 0 0 0 0 0 0 0 0 (-1) 0 0 0 0 0)), (z 3, aI V 900 f_97)]))) := by
  refine Ct.of (by decide) (Nat.le_of_ble_eq_true rfl) (fun p e s m below meth c A ls hx hb hr hml hown hlk hnm hg hP hK hD hE hA hS hl => ?_)
  have hl : lv_has ls 8 [(0, .ref (z 0)), (1, .int p0), (2, .int p1), (3, .int p2), (4, .int p3), (5, .int p4)] := hl
  refine lv_aload_n hx hb dX10_feed_0 rfl (lv_at hl 0 rfl) ?_
  refine lv_iconst (v := 0) hx hb dX10_feed_1 (by decide) ?_
  refine va_put (ci := 10) (v := .int 0) (ty := .int) (C := RX10) (T := TX10) (N := 40) hx hb hg inX10 tyX10 tyX10_ok nmX10 hown hK hP hD hS 0 rfl rfl 0 (by decide) (hg _ q_5_224) (fun _ h9 => h9) rfl (by decide +kernel) rfl rfl (Nat.le_of_ble_eq_true rfl) dX10_feed_2 (fun H locs hP hD hS => ?_)
  have hP : va_P V.1 vwCl [(z 0, .inr (10, mo z 0 0 0 0 0 0 0 0 0 0 (-1) 0 0 0 0 0)), (z 3, aI V 900 (fun _ => 0))] H := hP
  have hD : va_D A [(z 0, .inr (10, mo z 0 0 0 0 0 0 0 0 0 0 (-1) 0 0 0 0 0)), (z 3, aI V 900 (fun _ => 0))] := hD
  refine lv_aload_n hx hb dX10_feed_5 rfl (lv_at hl 0 rfl) ?_
  refine va_get (ci := 10) (v := .int 0) (C := RX10) (T := TX10) (N := 40) hx hb hg inX10 hown hK hP 0 rfl rfl 5 (by decide) (hg _ q_5_229) (fun _ h9 => h9) rfl dX10_feed_6 ?_
  refine lv_bipush (v := 20) hx hb dX10_feed_9 (by decide) ?_
  refine lv_iadd hx hb dX10_feed_11 ?_
  refine tpi (y := 20) (by decide +kernel) ?_
  refine lv_sipush (v := 900) hx hb dX10_feed_12 (by decide) ?_
  refine lv_icmp_le (tgt := 21) hx hb dX10_feed_15 (by decide) (fun _ => ?_) (fun c_1 => absurd c_1 (by decide))
  refine lv_iconst (v := 0) hx hb dX10_feed_21 (by decide) ?_
  refine lv_istore (lv' := [(6, .int 0), (0, .ref (z 0)), (1, .int p0), (2, .int p1), (3, .int p2), (4, .int p3), (5, .int p4)]) hx hb dX10_feed_22 hl (by decide) rfl (fun ls hl => ?_)
  refine lv_iload hx hb dX10_feed_24 (lv_at hl 0 rfl) ?_
  refine lv_bipush (v := 20) hx hb dX10_feed_26 (by decide) ?_
  refine lv_icmp_ge (tgt := 121) hx hb dX10_feed_28 (by decide) (fun c_2 => absurd c_2 (by decide)) (fun _ => ?_)
  refine lv_iload hx hb dX10_feed_31 (lv_at hl 0 rfl) ?_
  refine lv_iconst (v := 4) hx hb dX10_feed_33 (by decide) ?_
  refine lv_icmp_ge (tgt := 41) hx hb dX10_feed_34 (by decide) (fun c_3 => absurd c_3 (by decide)) (fun _ => ?_)
  refine lv_iload_n hx hb dX10_feed_37 rfl (lv_at hl 2 rfl) ?_
  refine lv_goto (tgt := 77) hx hb dX10_feed_38 (by decide) ?_
  refine lv_istore (lv' := [(7, .int p0), (6, .int 0), (0, .ref (z 0)), (1, .int p0), (2, .int p1), (3, .int p2), (4, .int p3), (5, .int p4)]) hx hb dX10_feed_77 hl (by decide) rfl (fun ls hl => ?_)
  refine lv_aload_n hx hb dX10_feed_79 rfl (lv_at hl 2 rfl) ?_
  refine va_get (ci := 10) (v := .ref (z 3)) (C := RX10) (T := TX10) (N := 40) hx hb hg inX10 hown hK hP 0 rfl rfl 3 (by decide) (hg _ q_5_227) (fun _ h9 => h9) rfl dX10_feed_80 ?_
  refine lv_aload_n hx hb dX10_feed_83 rfl (lv_at hl 2 rfl) ?_
  refine va_get (ci := 10) (v := .int 0) (C := RX10) (T := TX10) (N := 40) hx hb hg inX10 hown hK hP 0 rfl rfl 5 (by decide) (hg _ q_5_229) (fun _ h9 => h9) rfl dX10_feed_84 ?_
  refine lv_iload hx hb dX10_feed_87 (lv_at hl 0 rfl) ?_
  refine lv_bipush (v := 24) hx hb dX10_feed_89 (by decide) ?_
  refine lv_bipush (v := 8) hx hb dX10_feed_91 (by decide) ?_
  refine lv_iload hx hb dX10_feed_93 (lv_at hl 1 rfl) ?_
  refine lv_iconst (v := 4) hx hb dX10_feed_95 (by decide) ?_
  refine lv_irem hx hb dX10_feed_96 (by decide) ?_
  refine tpi (y := 0) (by decide +kernel) ?_
  refine lv_imul hx hb dX10_feed_97 ?_
  refine tpi (y := 0) (by decide +kernel) ?_
  refine lv_isub hx hb dX10_feed_98 ?_
  refine tpi (y := 24) (by decide +kernel) ?_
  refine lv_ishr hx hb dX10_feed_99 ?_
  refine lv_sipush (v := 255) hx hb dX10_feed_100 (by decide) ?_
  refine lv_iand hx hb dX10_feed_103 ?_
  refine va_iast hx hb hK hP hD hS 1 0 rfl rfl (vin (by decide +kernel)) dX10_feed_104 (fun H locs hP hD hS => ?_)
  obtain ⟨f_4, hP, hD⟩ : ∃ f_4 : Nat → Int32, va_P V.1 vwCl [(z 0, .inr (10, mo z 0 0 0 0 0 0 0 0 0 0 (-1) 0 0 0 0 0)), (z 3, aI V 900 f_4)] H ∧ va_D A [(z 0, .inr (10, mo z 0 0 0 0 0 0 0 0 0 0 (-1) 0 0 0 0 0)), (z 3, aI V 900 f_4)] := ⟨_, hP, hD⟩
  refine lv_aload_n hx hb dX10_feed_105 rfl (lv_at hl 2 rfl) ?_
  refine lv_dup hx hb dX10_feed_106 rfl ?_
  refine va_get (ci := 10) (v := .int 0) (C := RX10) (T := TX10) (N := 40) hx hb hg inX10 hown hK hP 0 rfl rfl 5 (by decide) (hg _ q_5_229) (fun _ h9 => h9) rfl dX10_feed_107 ?_
  refine lv_iconst (v := 1) hx hb dX10_feed_110 (by decide) ?_
  refine lv_iadd hx hb dX10_feed_111 ?_
  refine tpi (y := 1) (by decide +kernel) ?_
  refine va_put (ci := 10) (v := .int 1) (ty := .int) (C := RX10) (T := TX10) (N := 40) hx hb hg inX10 tyX10 tyX10_ok nmX10 hown hK hP hD hS 0 rfl rfl 5 (by decide) (hg _ q_5_229) (fun _ h9 => h9) rfl (by decide +kernel) rfl rfl (Nat.le_of_ble_eq_true rfl) dX10_feed_112 (fun H locs hP hD hS => ?_)
  have hP : va_P V.1 vwCl [(z 0, .inr (10, mo z 0 1 0 0 0 0 0 0 0 0 (-1) 0 0 0 0 0)), (z 3, aI V 900 f_4)] H := hP
  have hD : va_D A [(z 0, .inr (10, mo z 0 1 0 0 0 0 0 0 0 0 (-1) 0 0 0 0 0)), (z 3, aI V 900 f_4)] := hD
  refine lv_iinc (v := 1) (lv' := [(6, .int 1), (7, .int p0), (0, .ref (z 0)), (1, .int p0), (2, .int p1), (3, .int p2), (4, .int p3), (5, .int p4)]) hx hb dX10_feed_115 hl (k := 1) rfl (by decide +kernel) (by decide) rfl (fun ls hl => ?_)
  refine lv_goto (tgt := 24) hx hb dX10_feed_118 (by decide) ?_
  refine lv_iload hx hb dX10_feed_24 (lv_at hl 0 rfl) ?_
  refine lv_bipush (v := 20) hx hb dX10_feed_26 (by decide) ?_
  refine lv_icmp_ge (tgt := 121) hx hb dX10_feed_28 (by decide) (fun c_5 => absurd c_5 (by decide)) (fun _ => ?_)
  refine lv_iload hx hb dX10_feed_31 (lv_at hl 0 rfl) ?_
  refine lv_iconst (v := 4) hx hb dX10_feed_33 (by decide) ?_
  refine lv_icmp_ge (tgt := 41) hx hb dX10_feed_34 (by decide) (fun c_6 => absurd c_6 (by decide)) (fun _ => ?_)
  refine lv_iload_n hx hb dX10_feed_37 rfl (lv_at hl 3 rfl) ?_
  refine lv_goto (tgt := 77) hx hb dX10_feed_38 (by decide) ?_
  refine lv_istore (lv' := [(7, .int p0), (6, .int 1), (0, .ref (z 0)), (1, .int p0), (2, .int p1), (3, .int p2), (4, .int p3), (5, .int p4)]) hx hb dX10_feed_77 hl (by decide) rfl (fun ls hl => ?_)
  refine lv_aload_n hx hb dX10_feed_79 rfl (lv_at hl 2 rfl) ?_
  refine va_get (ci := 10) (v := .ref (z 3)) (C := RX10) (T := TX10) (N := 40) hx hb hg inX10 hown hK hP 0 rfl rfl 3 (by decide) (hg _ q_5_227) (fun _ h9 => h9) rfl dX10_feed_80 ?_
  refine lv_aload_n hx hb dX10_feed_83 rfl (lv_at hl 2 rfl) ?_
  refine va_get (ci := 10) (v := .int 1) (C := RX10) (T := TX10) (N := 40) hx hb hg inX10 hown hK hP 0 rfl rfl 5 (by decide) (hg _ q_5_229) (fun _ h9 => h9) rfl dX10_feed_84 ?_
  refine lv_iload hx hb dX10_feed_87 (lv_at hl 0 rfl) ?_
  refine lv_bipush (v := 24) hx hb dX10_feed_89 (by decide) ?_
  refine lv_bipush (v := 8) hx hb dX10_feed_91 (by decide) ?_
  refine lv_iload hx hb dX10_feed_93 (lv_at hl 1 rfl) ?_
  refine lv_iconst (v := 4) hx hb dX10_feed_95 (by decide) ?_
  refine lv_irem hx hb dX10_feed_96 (by decide) ?_
  refine tpi (y := 1) (by decide +kernel) ?_
  refine lv_imul hx hb dX10_feed_97 ?_
  refine tpi (y := 8) (by decide +kernel) ?_
  refine lv_isub hx hb dX10_feed_98 ?_
  refine tpi (y := 16) (by decide +kernel) ?_
  refine lv_ishr hx hb dX10_feed_99 ?_
  refine lv_sipush (v := 255) hx hb dX10_feed_100 (by decide) ?_
  refine lv_iand hx hb dX10_feed_103 ?_
  refine va_iast hx hb hK hP hD hS 1 0 rfl rfl (vin (by decide +kernel)) dX10_feed_104 (fun H locs hP hD hS => ?_)
  obtain ⟨f_7, hP, hD⟩ : ∃ f_7 : Nat → Int32, va_P V.1 vwCl [(z 0, .inr (10, mo z 0 1 0 0 0 0 0 0 0 0 (-1) 0 0 0 0 0)), (z 3, aI V 900 f_7)] H ∧ va_D A [(z 0, .inr (10, mo z 0 1 0 0 0 0 0 0 0 0 (-1) 0 0 0 0 0)), (z 3, aI V 900 f_7)] := ⟨_, hP, hD⟩
  refine lv_aload_n hx hb dX10_feed_105 rfl (lv_at hl 2 rfl) ?_
  refine lv_dup hx hb dX10_feed_106 rfl ?_
  refine va_get (ci := 10) (v := .int 1) (C := RX10) (T := TX10) (N := 40) hx hb hg inX10 hown hK hP 0 rfl rfl 5 (by decide) (hg _ q_5_229) (fun _ h9 => h9) rfl dX10_feed_107 ?_
  refine lv_iconst (v := 1) hx hb dX10_feed_110 (by decide) ?_
  refine lv_iadd hx hb dX10_feed_111 ?_
  refine tpi (y := 2) (by decide +kernel) ?_
  refine va_put (ci := 10) (v := .int 2) (ty := .int) (C := RX10) (T := TX10) (N := 40) hx hb hg inX10 tyX10 tyX10_ok nmX10 hown hK hP hD hS 0 rfl rfl 5 (by decide) (hg _ q_5_229) (fun _ h9 => h9) rfl (by decide +kernel) rfl rfl (Nat.le_of_ble_eq_true rfl) dX10_feed_112 (fun H locs hP hD hS => ?_)
  have hP : va_P V.1 vwCl [(z 0, .inr (10, mo z 0 2 0 0 0 0 0 0 0 0 (-1) 0 0 0 0 0)), (z 3, aI V 900 f_7)] H := hP
  have hD : va_D A [(z 0, .inr (10, mo z 0 2 0 0 0 0 0 0 0 0 (-1) 0 0 0 0 0)), (z 3, aI V 900 f_7)] := hD
  refine lv_iinc (v := 2) (lv' := [(6, .int 2), (7, .int p0), (0, .ref (z 0)), (1, .int p0), (2, .int p1), (3, .int p2), (4, .int p3), (5, .int p4)]) hx hb dX10_feed_115 hl (k := 1) rfl (by decide +kernel) (by decide) rfl (fun ls hl => ?_)
  refine lv_goto (tgt := 24) hx hb dX10_feed_118 (by decide) ?_
  refine lv_iload hx hb dX10_feed_24 (lv_at hl 0 rfl) ?_
  refine lv_bipush (v := 20) hx hb dX10_feed_26 (by decide) ?_
  refine lv_icmp_ge (tgt := 121) hx hb dX10_feed_28 (by decide) (fun c_8 => absurd c_8 (by decide)) (fun _ => ?_)
  refine lv_iload hx hb dX10_feed_31 (lv_at hl 0 rfl) ?_
  refine lv_iconst (v := 4) hx hb dX10_feed_33 (by decide) ?_
  refine lv_icmp_ge (tgt := 41) hx hb dX10_feed_34 (by decide) (fun c_9 => absurd c_9 (by decide)) (fun _ => ?_)
  refine lv_iload_n hx hb dX10_feed_37 rfl (lv_at hl 3 rfl) ?_
  refine lv_goto (tgt := 77) hx hb dX10_feed_38 (by decide) ?_
  refine lv_istore (lv' := [(7, .int p0), (6, .int 2), (0, .ref (z 0)), (1, .int p0), (2, .int p1), (3, .int p2), (4, .int p3), (5, .int p4)]) hx hb dX10_feed_77 hl (by decide) rfl (fun ls hl => ?_)
  refine lv_aload_n hx hb dX10_feed_79 rfl (lv_at hl 2 rfl) ?_
  refine va_get (ci := 10) (v := .ref (z 3)) (C := RX10) (T := TX10) (N := 40) hx hb hg inX10 hown hK hP 0 rfl rfl 3 (by decide) (hg _ q_5_227) (fun _ h9 => h9) rfl dX10_feed_80 ?_
  refine lv_aload_n hx hb dX10_feed_83 rfl (lv_at hl 2 rfl) ?_
  refine va_get (ci := 10) (v := .int 2) (C := RX10) (T := TX10) (N := 40) hx hb hg inX10 hown hK hP 0 rfl rfl 5 (by decide) (hg _ q_5_229) (fun _ h9 => h9) rfl dX10_feed_84 ?_
  refine lv_iload hx hb dX10_feed_87 (lv_at hl 0 rfl) ?_
  refine lv_bipush (v := 24) hx hb dX10_feed_89 (by decide) ?_
  refine lv_bipush (v := 8) hx hb dX10_feed_91 (by decide) ?_
  refine lv_iload hx hb dX10_feed_93 (lv_at hl 1 rfl) ?_
  refine lv_iconst (v := 4) hx hb dX10_feed_95 (by decide) ?_
  refine lv_irem hx hb dX10_feed_96 (by decide) ?_
  refine tpi (y := 2) (by decide +kernel) ?_
  refine lv_imul hx hb dX10_feed_97 ?_
  refine tpi (y := 16) (by decide +kernel) ?_
  refine lv_isub hx hb dX10_feed_98 ?_
  refine tpi (y := 8) (by decide +kernel) ?_
  refine lv_ishr hx hb dX10_feed_99 ?_
  refine lv_sipush (v := 255) hx hb dX10_feed_100 (by decide) ?_
  refine lv_iand hx hb dX10_feed_103 ?_
  refine va_iast hx hb hK hP hD hS 1 0 rfl rfl (vin (by decide +kernel)) dX10_feed_104 (fun H locs hP hD hS => ?_)
  obtain ⟨f_10, hP, hD⟩ : ∃ f_10 : Nat → Int32, va_P V.1 vwCl [(z 0, .inr (10, mo z 0 2 0 0 0 0 0 0 0 0 (-1) 0 0 0 0 0)), (z 3, aI V 900 f_10)] H ∧ va_D A [(z 0, .inr (10, mo z 0 2 0 0 0 0 0 0 0 0 (-1) 0 0 0 0 0)), (z 3, aI V 900 f_10)] := ⟨_, hP, hD⟩
  refine lv_aload_n hx hb dX10_feed_105 rfl (lv_at hl 2 rfl) ?_
  refine lv_dup hx hb dX10_feed_106 rfl ?_
  refine va_get (ci := 10) (v := .int 2) (C := RX10) (T := TX10) (N := 40) hx hb hg inX10 hown hK hP 0 rfl rfl 5 (by decide) (hg _ q_5_229) (fun _ h9 => h9) rfl dX10_feed_107 ?_
  refine lv_iconst (v := 1) hx hb dX10_feed_110 (by decide) ?_
  refine lv_iadd hx hb dX10_feed_111 ?_
  refine tpi (y := 3) (by decide +kernel) ?_
  refine va_put (ci := 10) (v := .int 3) (ty := .int) (C := RX10) (T := TX10) (N := 40) hx hb hg inX10 tyX10 tyX10_ok nmX10 hown hK hP hD hS 0 rfl rfl 5 (by decide) (hg _ q_5_229) (fun _ h9 => h9) rfl (by decide +kernel) rfl rfl (Nat.le_of_ble_eq_true rfl) dX10_feed_112 (fun H locs hP hD hS => ?_)
  have hP : va_P V.1 vwCl [(z 0, .inr (10, mo z 0 3 0 0 0 0 0 0 0 0 (-1) 0 0 0 0 0)), (z 3, aI V 900 f_10)] H := hP
  have hD : va_D A [(z 0, .inr (10, mo z 0 3 0 0 0 0 0 0 0 0 (-1) 0 0 0 0 0)), (z 3, aI V 900 f_10)] := hD
  refine lv_iinc (v := 3) (lv' := [(6, .int 3), (7, .int p0), (0, .ref (z 0)), (1, .int p0), (2, .int p1), (3, .int p2), (4, .int p3), (5, .int p4)]) hx hb dX10_feed_115 hl (k := 1) rfl (by decide +kernel) (by decide) rfl (fun ls hl => ?_)
  refine lv_goto (tgt := 24) hx hb dX10_feed_118 (by decide) ?_
  refine lv_iload hx hb dX10_feed_24 (lv_at hl 0 rfl) ?_
  refine lv_bipush (v := 20) hx hb dX10_feed_26 (by decide) ?_
  refine lv_icmp_ge (tgt := 121) hx hb dX10_feed_28 (by decide) (fun c_11 => absurd c_11 (by decide)) (fun _ => ?_)
  refine lv_iload hx hb dX10_feed_31 (lv_at hl 0 rfl) ?_
  refine lv_iconst (v := 4) hx hb dX10_feed_33 (by decide) ?_
  refine lv_icmp_ge (tgt := 41) hx hb dX10_feed_34 (by decide) (fun c_12 => absurd c_12 (by decide)) (fun _ => ?_)
  refine lv_iload_n hx hb dX10_feed_37 rfl (lv_at hl 3 rfl) ?_
  refine lv_goto (tgt := 77) hx hb dX10_feed_38 (by decide) ?_
  refine lv_istore (lv' := [(7, .int p0), (6, .int 3), (0, .ref (z 0)), (1, .int p0), (2, .int p1), (3, .int p2), (4, .int p3), (5, .int p4)]) hx hb dX10_feed_77 hl (by decide) rfl (fun ls hl => ?_)
  refine lv_aload_n hx hb dX10_feed_79 rfl (lv_at hl 2 rfl) ?_
  refine va_get (ci := 10) (v := .ref (z 3)) (C := RX10) (T := TX10) (N := 40) hx hb hg inX10 hown hK hP 0 rfl rfl 3 (by decide) (hg _ q_5_227) (fun _ h9 => h9) rfl dX10_feed_80 ?_
  refine lv_aload_n hx hb dX10_feed_83 rfl (lv_at hl 2 rfl) ?_
  refine va_get (ci := 10) (v := .int 3) (C := RX10) (T := TX10) (N := 40) hx hb hg inX10 hown hK hP 0 rfl rfl 5 (by decide) (hg _ q_5_229) (fun _ h9 => h9) rfl dX10_feed_84 ?_
  refine lv_iload hx hb dX10_feed_87 (lv_at hl 0 rfl) ?_
  refine lv_bipush (v := 24) hx hb dX10_feed_89 (by decide) ?_
  refine lv_bipush (v := 8) hx hb dX10_feed_91 (by decide) ?_
  refine lv_iload hx hb dX10_feed_93 (lv_at hl 1 rfl) ?_
  refine lv_iconst (v := 4) hx hb dX10_feed_95 (by decide) ?_
  refine lv_irem hx hb dX10_feed_96 (by decide) ?_
  refine tpi (y := 3) (by decide +kernel) ?_
  refine lv_imul hx hb dX10_feed_97 ?_
  refine tpi (y := 24) (by decide +kernel) ?_
  refine lv_isub hx hb dX10_feed_98 ?_
  refine tpi (y := 0) (by decide +kernel) ?_
  refine lv_ishr hx hb dX10_feed_99 ?_
  refine lv_sipush (v := 255) hx hb dX10_feed_100 (by decide) ?_
  refine lv_iand hx hb dX10_feed_103 ?_
  refine va_iast hx hb hK hP hD hS 1 0 rfl rfl (vin (by decide +kernel)) dX10_feed_104 (fun H locs hP hD hS => ?_)
  obtain ⟨f_13, hP, hD⟩ : ∃ f_13 : Nat → Int32, va_P V.1 vwCl [(z 0, .inr (10, mo z 0 3 0 0 0 0 0 0 0 0 (-1) 0 0 0 0 0)), (z 3, aI V 900 f_13)] H ∧ va_D A [(z 0, .inr (10, mo z 0 3 0 0 0 0 0 0 0 0 (-1) 0 0 0 0 0)), (z 3, aI V 900 f_13)] := ⟨_, hP, hD⟩
  refine lv_aload_n hx hb dX10_feed_105 rfl (lv_at hl 2 rfl) ?_
  refine lv_dup hx hb dX10_feed_106 rfl ?_
  refine va_get (ci := 10) (v := .int 3) (C := RX10) (T := TX10) (N := 40) hx hb hg inX10 hown hK hP 0 rfl rfl 5 (by decide) (hg _ q_5_229) (fun _ h9 => h9) rfl dX10_feed_107 ?_
  refine lv_iconst (v := 1) hx hb dX10_feed_110 (by decide) ?_
  refine lv_iadd hx hb dX10_feed_111 ?_
  refine tpi (y := 4) (by decide +kernel) ?_
  refine va_put (ci := 10) (v := .int 4) (ty := .int) (C := RX10) (T := TX10) (N := 40) hx hb hg inX10 tyX10 tyX10_ok nmX10 hown hK hP hD hS 0 rfl rfl 5 (by decide) (hg _ q_5_229) (fun _ h9 => h9) rfl (by decide +kernel) rfl rfl (Nat.le_of_ble_eq_true rfl) dX10_feed_112 (fun H locs hP hD hS => ?_)
  have hP : va_P V.1 vwCl [(z 0, .inr (10, mo z 0 4 0 0 0 0 0 0 0 0 (-1) 0 0 0 0 0)), (z 3, aI V 900 f_13)] H := hP
  have hD : va_D A [(z 0, .inr (10, mo z 0 4 0 0 0 0 0 0 0 0 (-1) 0 0 0 0 0)), (z 3, aI V 900 f_13)] := hD
  refine lv_iinc (v := 4) (lv' := [(6, .int 4), (7, .int p0), (0, .ref (z 0)), (1, .int p0), (2, .int p1), (3, .int p2), (4, .int p3), (5, .int p4)]) hx hb dX10_feed_115 hl (k := 1) rfl (by decide +kernel) (by decide) rfl (fun ls hl => ?_)
  refine lv_goto (tgt := 24) hx hb dX10_feed_118 (by decide) ?_
  refine lv_iload hx hb dX10_feed_24 (lv_at hl 0 rfl) ?_
  refine lv_bipush (v := 20) hx hb dX10_feed_26 (by decide) ?_
  refine lv_icmp_ge (tgt := 121) hx hb dX10_feed_28 (by decide) (fun c_14 => absurd c_14 (by decide)) (fun _ => ?_)
  refine lv_iload hx hb dX10_feed_31 (lv_at hl 0 rfl) ?_
  refine lv_iconst (v := 4) hx hb dX10_feed_33 (by decide) ?_
  refine lv_icmp_ge (tgt := 41) hx hb dX10_feed_34 (by decide) (fun _ => ?_) (fun c_15 => absurd c_15 (by decide))
  refine lv_iload hx hb dX10_feed_41 (lv_at hl 0 rfl) ?_
  refine lv_bipush (v := 8) hx hb dX10_feed_43 (by decide) ?_
  refine lv_icmp_ge (tgt := 52) hx hb dX10_feed_45 (by decide) (fun c_16 => absurd c_16 (by decide)) (fun _ => ?_)
  refine lv_iload_n hx hb dX10_feed_48 rfl (lv_at hl 4 rfl) ?_
  refine lv_goto (tgt := 77) hx hb dX10_feed_49 (by decide) ?_
  refine lv_istore (lv' := [(7, .int p1), (6, .int 4), (0, .ref (z 0)), (1, .int p0), (2, .int p1), (3, .int p2), (4, .int p3), (5, .int p4)]) hx hb dX10_feed_77 hl (by decide) rfl (fun ls hl => ?_)
  refine lv_aload_n hx hb dX10_feed_79 rfl (lv_at hl 2 rfl) ?_
  refine va_get (ci := 10) (v := .ref (z 3)) (C := RX10) (T := TX10) (N := 40) hx hb hg inX10 hown hK hP 0 rfl rfl 3 (by decide) (hg _ q_5_227) (fun _ h9 => h9) rfl dX10_feed_80 ?_
  refine lv_aload_n hx hb dX10_feed_83 rfl (lv_at hl 2 rfl) ?_
  refine va_get (ci := 10) (v := .int 4) (C := RX10) (T := TX10) (N := 40) hx hb hg inX10 hown hK hP 0 rfl rfl 5 (by decide) (hg _ q_5_229) (fun _ h9 => h9) rfl dX10_feed_84 ?_
  refine lv_iload hx hb dX10_feed_87 (lv_at hl 0 rfl) ?_
  refine lv_bipush (v := 24) hx hb dX10_feed_89 (by decide) ?_
  refine lv_bipush (v := 8) hx hb dX10_feed_91 (by decide) ?_
  refine lv_iload hx hb dX10_feed_93 (lv_at hl 1 rfl) ?_
  refine lv_iconst (v := 4) hx hb dX10_feed_95 (by decide) ?_
  refine lv_irem hx hb dX10_feed_96 (by decide) ?_
  refine tpi (y := 0) (by decide +kernel) ?_
  refine lv_imul hx hb dX10_feed_97 ?_
  refine tpi (y := 0) (by decide +kernel) ?_
  refine lv_isub hx hb dX10_feed_98 ?_
  refine tpi (y := 24) (by decide +kernel) ?_
  refine lv_ishr hx hb dX10_feed_99 ?_
  refine lv_sipush (v := 255) hx hb dX10_feed_100 (by decide) ?_
  refine lv_iand hx hb dX10_feed_103 ?_
  refine va_iast hx hb hK hP hD hS 1 0 rfl rfl (vin (by decide +kernel)) dX10_feed_104 (fun H locs hP hD hS => ?_)
  obtain ⟨f_17, hP, hD⟩ : ∃ f_17 : Nat → Int32, va_P V.1 vwCl [(z 0, .inr (10, mo z 0 4 0 0 0 0 0 0 0 0 (-1) 0 0 0 0 0)), (z 3, aI V 900 f_17)] H ∧ va_D A [(z 0, .inr (10, mo z 0 4 0 0 0 0 0 0 0 0 (-1) 0 0 0 0 0)), (z 3, aI V 900 f_17)] := ⟨_, hP, hD⟩
  refine lv_aload_n hx hb dX10_feed_105 rfl (lv_at hl 2 rfl) ?_
  refine lv_dup hx hb dX10_feed_106 rfl ?_
  refine va_get (ci := 10) (v := .int 4) (C := RX10) (T := TX10) (N := 40) hx hb hg inX10 hown hK hP 0 rfl rfl 5 (by decide) (hg _ q_5_229) (fun _ h9 => h9) rfl dX10_feed_107 ?_
  refine lv_iconst (v := 1) hx hb dX10_feed_110 (by decide) ?_
  refine lv_iadd hx hb dX10_feed_111 ?_
  refine tpi (y := 5) (by decide +kernel) ?_
  refine va_put (ci := 10) (v := .int 5) (ty := .int) (C := RX10) (T := TX10) (N := 40) hx hb hg inX10 tyX10 tyX10_ok nmX10 hown hK hP hD hS 0 rfl rfl 5 (by decide) (hg _ q_5_229) (fun _ h9 => h9) rfl (by decide +kernel) rfl rfl (Nat.le_of_ble_eq_true rfl) dX10_feed_112 (fun H locs hP hD hS => ?_)
  have hP : va_P V.1 vwCl [(z 0, .inr (10, mo z 0 5 0 0 0 0 0 0 0 0 (-1) 0 0 0 0 0)), (z 3, aI V 900 f_17)] H := hP
  have hD : va_D A [(z 0, .inr (10, mo z 0 5 0 0 0 0 0 0 0 0 (-1) 0 0 0 0 0)), (z 3, aI V 900 f_17)] := hD
  refine lv_iinc (v := 5) (lv' := [(6, .int 5), (7, .int p1), (0, .ref (z 0)), (1, .int p0), (2, .int p1), (3, .int p2), (4, .int p3), (5, .int p4)]) hx hb dX10_feed_115 hl (k := 1) rfl (by decide +kernel) (by decide) rfl (fun ls hl => ?_)
  refine lv_goto (tgt := 24) hx hb dX10_feed_118 (by decide) ?_
  refine lv_iload hx hb dX10_feed_24 (lv_at hl 0 rfl) ?_
  refine lv_bipush (v := 20) hx hb dX10_feed_26 (by decide) ?_
  refine lv_icmp_ge (tgt := 121) hx hb dX10_feed_28 (by decide) (fun c_18 => absurd c_18 (by decide)) (fun _ => ?_)
  refine lv_iload hx hb dX10_feed_31 (lv_at hl 0 rfl) ?_
  refine lv_iconst (v := 4) hx hb dX10_feed_33 (by decide) ?_
  refine lv_icmp_ge (tgt := 41) hx hb dX10_feed_34 (by decide) (fun _ => ?_) (fun c_19 => absurd c_19 (by decide))
  refine lv_iload hx hb dX10_feed_41 (lv_at hl 0 rfl) ?_
  refine lv_bipush (v := 8) hx hb dX10_feed_43 (by decide) ?_
  refine lv_icmp_ge (tgt := 52) hx hb dX10_feed_45 (by decide) (fun c_20 => absurd c_20 (by decide)) (fun _ => ?_)
  refine lv_iload_n hx hb dX10_feed_48 rfl (lv_at hl 4 rfl) ?_
  refine lv_goto (tgt := 77) hx hb dX10_feed_49 (by decide) ?_
  refine lv_istore (lv' := [(7, .int p1), (6, .int 5), (0, .ref (z 0)), (1, .int p0), (2, .int p1), (3, .int p2), (4, .int p3), (5, .int p4)]) hx hb dX10_feed_77 hl (by decide) rfl (fun ls hl => ?_)
  refine lv_aload_n hx hb dX10_feed_79 rfl (lv_at hl 2 rfl) ?_
  refine va_get (ci := 10) (v := .ref (z 3)) (C := RX10) (T := TX10) (N := 40) hx hb hg inX10 hown hK hP 0 rfl rfl 3 (by decide) (hg _ q_5_227) (fun _ h9 => h9) rfl dX10_feed_80 ?_
  refine lv_aload_n hx hb dX10_feed_83 rfl (lv_at hl 2 rfl) ?_
  refine va_get (ci := 10) (v := .int 5) (C := RX10) (T := TX10) (N := 40) hx hb hg inX10 hown hK hP 0 rfl rfl 5 (by decide) (hg _ q_5_229) (fun _ h9 => h9) rfl dX10_feed_84 ?_
  refine lv_iload hx hb dX10_feed_87 (lv_at hl 0 rfl) ?_
  refine lv_bipush (v := 24) hx hb dX10_feed_89 (by decide) ?_
  refine lv_bipush (v := 8) hx hb dX10_feed_91 (by decide) ?_
  refine lv_iload hx hb dX10_feed_93 (lv_at hl 1 rfl) ?_
  refine lv_iconst (v := 4) hx hb dX10_feed_95 (by decide) ?_
  refine lv_irem hx hb dX10_feed_96 (by decide) ?_
  refine tpi (y := 1) (by decide +kernel) ?_
  refine lv_imul hx hb dX10_feed_97 ?_
  refine tpi (y := 8) (by decide +kernel) ?_
  refine lv_isub hx hb dX10_feed_98 ?_
  refine tpi (y := 16) (by decide +kernel) ?_
  refine lv_ishr hx hb dX10_feed_99 ?_
  refine lv_sipush (v := 255) hx hb dX10_feed_100 (by decide) ?_
  refine lv_iand hx hb dX10_feed_103 ?_
  refine va_iast hx hb hK hP hD hS 1 0 rfl rfl (vin (by decide +kernel)) dX10_feed_104 (fun H locs hP hD hS => ?_)
  obtain ⟨f_21, hP, hD⟩ : ∃ f_21 : Nat → Int32, va_P V.1 vwCl [(z 0, .inr (10, mo z 0 5 0 0 0 0 0 0 0 0 (-1) 0 0 0 0 0)), (z 3, aI V 900 f_21)] H ∧ va_D A [(z 0, .inr (10, mo z 0 5 0 0 0 0 0 0 0 0 (-1) 0 0 0 0 0)), (z 3, aI V 900 f_21)] := ⟨_, hP, hD⟩
  refine lv_aload_n hx hb dX10_feed_105 rfl (lv_at hl 2 rfl) ?_
  refine lv_dup hx hb dX10_feed_106 rfl ?_
  refine va_get (ci := 10) (v := .int 5) (C := RX10) (T := TX10) (N := 40) hx hb hg inX10 hown hK hP 0 rfl rfl 5 (by decide) (hg _ q_5_229) (fun _ h9 => h9) rfl dX10_feed_107 ?_
  refine lv_iconst (v := 1) hx hb dX10_feed_110 (by decide) ?_
  refine lv_iadd hx hb dX10_feed_111 ?_
  refine tpi (y := 6) (by decide +kernel) ?_
  refine va_put (ci := 10) (v := .int 6) (ty := .int) (C := RX10) (T := TX10) (N := 40) hx hb hg inX10 tyX10 tyX10_ok nmX10 hown hK hP hD hS 0 rfl rfl 5 (by decide) (hg _ q_5_229) (fun _ h9 => h9) rfl (by decide +kernel) rfl rfl (Nat.le_of_ble_eq_true rfl) dX10_feed_112 (fun H locs hP hD hS => ?_)
  have hP : va_P V.1 vwCl [(z 0, .inr (10, mo z 0 6 0 0 0 0 0 0 0 0 (-1) 0 0 0 0 0)), (z 3, aI V 900 f_21)] H := hP
  have hD : va_D A [(z 0, .inr (10, mo z 0 6 0 0 0 0 0 0 0 0 (-1) 0 0 0 0 0)), (z 3, aI V 900 f_21)] := hD
  refine lv_iinc (v := 6) (lv' := [(6, .int 6), (7, .int p1), (0, .ref (z 0)), (1, .int p0), (2, .int p1), (3, .int p2), (4, .int p3), (5, .int p4)]) hx hb dX10_feed_115 hl (k := 1) rfl (by decide +kernel) (by decide) rfl (fun ls hl => ?_)
  refine lv_goto (tgt := 24) hx hb dX10_feed_118 (by decide) ?_
  refine lv_iload hx hb dX10_feed_24 (lv_at hl 0 rfl) ?_
  refine lv_bipush (v := 20) hx hb dX10_feed_26 (by decide) ?_
  refine lv_icmp_ge (tgt := 121) hx hb dX10_feed_28 (by decide) (fun c_22 => absurd c_22 (by decide)) (fun _ => ?_)
  refine lv_iload hx hb dX10_feed_31 (lv_at hl 0 rfl) ?_
  refine lv_iconst (v := 4) hx hb dX10_feed_33 (by decide) ?_
  refine lv_icmp_ge (tgt := 41) hx hb dX10_feed_34 (by decide) (fun _ => ?_) (fun c_23 => absurd c_23 (by decide))
  refine lv_iload hx hb dX10_feed_41 (lv_at hl 0 rfl) ?_
  refine lv_bipush (v := 8) hx hb dX10_feed_43 (by decide) ?_
  refine lv_icmp_ge (tgt := 52) hx hb dX10_feed_45 (by decide) (fun c_24 => absurd c_24 (by decide)) (fun _ => ?_)
  refine lv_iload_n hx hb dX10_feed_48 rfl (lv_at hl 4 rfl) ?_
  refine lv_goto (tgt := 77) hx hb dX10_feed_49 (by decide) ?_
  refine lv_istore (lv' := [(7, .int p1), (6, .int 6), (0, .ref (z 0)), (1, .int p0), (2, .int p1), (3, .int p2), (4, .int p3), (5, .int p4)]) hx hb dX10_feed_77 hl (by decide) rfl (fun ls hl => ?_)
  refine lv_aload_n hx hb dX10_feed_79 rfl (lv_at hl 2 rfl) ?_
  refine va_get (ci := 10) (v := .ref (z 3)) (C := RX10) (T := TX10) (N := 40) hx hb hg inX10 hown hK hP 0 rfl rfl 3 (by decide) (hg _ q_5_227) (fun _ h9 => h9) rfl dX10_feed_80 ?_
  refine lv_aload_n hx hb dX10_feed_83 rfl (lv_at hl 2 rfl) ?_
  refine va_get (ci := 10) (v := .int 6) (C := RX10) (T := TX10) (N := 40) hx hb hg inX10 hown hK hP 0 rfl rfl 5 (by decide) (hg _ q_5_229) (fun _ h9 => h9) rfl dX10_feed_84 ?_
  refine lv_iload hx hb dX10_feed_87 (lv_at hl 0 rfl) ?_
  refine lv_bipush (v := 24) hx hb dX10_feed_89 (by decide) ?_
  refine lv_bipush (v := 8) hx hb dX10_feed_91 (by decide) ?_
  refine lv_iload hx hb dX10_feed_93 (lv_at hl 1 rfl) ?_
  refine lv_iconst (v := 4) hx hb dX10_feed_95 (by decide) ?_
  refine lv_irem hx hb dX10_feed_96 (by decide) ?_
  refine tpi (y := 2) (by decide +kernel) ?_
  refine lv_imul hx hb dX10_feed_97 ?_
  refine tpi (y := 16) (by decide +kernel) ?_
  refine lv_isub hx hb dX10_feed_98 ?_
  refine tpi (y := 8) (by decide +kernel) ?_
  refine lv_ishr hx hb dX10_feed_99 ?_
  refine lv_sipush (v := 255) hx hb dX10_feed_100 (by decide) ?_
  refine lv_iand hx hb dX10_feed_103 ?_
  refine va_iast hx hb hK hP hD hS 1 0 rfl rfl (vin (by decide +kernel)) dX10_feed_104 (fun H locs hP hD hS => ?_)
  obtain ⟨f_25, hP, hD⟩ : ∃ f_25 : Nat → Int32, va_P V.1 vwCl [(z 0, .inr (10, mo z 0 6 0 0 0 0 0 0 0 0 (-1) 0 0 0 0 0)), (z 3, aI V 900 f_25)] H ∧ va_D A [(z 0, .inr (10, mo z 0 6 0 0 0 0 0 0 0 0 (-1) 0 0 0 0 0)), (z 3, aI V 900 f_25)] := ⟨_, hP, hD⟩
  refine lv_aload_n hx hb dX10_feed_105 rfl (lv_at hl 2 rfl) ?_
  refine lv_dup hx hb dX10_feed_106 rfl ?_
  refine va_get (ci := 10) (v := .int 6) (C := RX10) (T := TX10) (N := 40) hx hb hg inX10 hown hK hP 0 rfl rfl 5 (by decide) (hg _ q_5_229) (fun _ h9 => h9) rfl dX10_feed_107 ?_
  refine lv_iconst (v := 1) hx hb dX10_feed_110 (by decide) ?_
  refine lv_iadd hx hb dX10_feed_111 ?_
  refine tpi (y := 7) (by decide +kernel) ?_
  refine va_put (ci := 10) (v := .int 7) (ty := .int) (C := RX10) (T := TX10) (N := 40) hx hb hg inX10 tyX10 tyX10_ok nmX10 hown hK hP hD hS 0 rfl rfl 5 (by decide) (hg _ q_5_229) (fun _ h9 => h9) rfl (by decide +kernel) rfl rfl (Nat.le_of_ble_eq_true rfl) dX10_feed_112 (fun H locs hP hD hS => ?_)
  have hP : va_P V.1 vwCl [(z 0, .inr (10, mo z 0 7 0 0 0 0 0 0 0 0 (-1) 0 0 0 0 0)), (z 3, aI V 900 f_25)] H := hP
  have hD : va_D A [(z 0, .inr (10, mo z 0 7 0 0 0 0 0 0 0 0 (-1) 0 0 0 0 0)), (z 3, aI V 900 f_25)] := hD
  refine lv_iinc (v := 7) (lv' := [(6, .int 7), (7, .int p1), (0, .ref (z 0)), (1, .int p0), (2, .int p1), (3, .int p2), (4, .int p3), (5, .int p4)]) hx hb dX10_feed_115 hl (k := 1) rfl (by decide +kernel) (by decide) rfl (fun ls hl => ?_)
  refine lv_goto (tgt := 24) hx hb dX10_feed_118 (by decide) ?_
  refine lv_iload hx hb dX10_feed_24 (lv_at hl 0 rfl) ?_
  refine lv_bipush (v := 20) hx hb dX10_feed_26 (by decide) ?_
  refine lv_icmp_ge (tgt := 121) hx hb dX10_feed_28 (by decide) (fun c_26 => absurd c_26 (by decide)) (fun _ => ?_)
  refine lv_iload hx hb dX10_feed_31 (lv_at hl 0 rfl) ?_
  refine lv_iconst (v := 4) hx hb dX10_feed_33 (by decide) ?_
  refine lv_icmp_ge (tgt := 41) hx hb dX10_feed_34 (by decide) (fun _ => ?_) (fun c_27 => absurd c_27 (by decide))
  refine lv_iload hx hb dX10_feed_41 (lv_at hl 0 rfl) ?_
  refine lv_bipush (v := 8) hx hb dX10_feed_43 (by decide) ?_
  refine lv_icmp_ge (tgt := 52) hx hb dX10_feed_45 (by decide) (fun c_28 => absurd c_28 (by decide)) (fun _ => ?_)
  refine lv_iload_n hx hb dX10_feed_48 rfl (lv_at hl 4 rfl) ?_
  refine lv_goto (tgt := 77) hx hb dX10_feed_49 (by decide) ?_
  refine lv_istore (lv' := [(7, .int p1), (6, .int 7), (0, .ref (z 0)), (1, .int p0), (2, .int p1), (3, .int p2), (4, .int p3), (5, .int p4)]) hx hb dX10_feed_77 hl (by decide) rfl (fun ls hl => ?_)
  refine lv_aload_n hx hb dX10_feed_79 rfl (lv_at hl 2 rfl) ?_
  refine va_get (ci := 10) (v := .ref (z 3)) (C := RX10) (T := TX10) (N := 40) hx hb hg inX10 hown hK hP 0 rfl rfl 3 (by decide) (hg _ q_5_227) (fun _ h9 => h9) rfl dX10_feed_80 ?_
  refine lv_aload_n hx hb dX10_feed_83 rfl (lv_at hl 2 rfl) ?_
  refine va_get (ci := 10) (v := .int 7) (C := RX10) (T := TX10) (N := 40) hx hb hg inX10 hown hK hP 0 rfl rfl 5 (by decide) (hg _ q_5_229) (fun _ h9 => h9) rfl dX10_feed_84 ?_
  refine lv_iload hx hb dX10_feed_87 (lv_at hl 0 rfl) ?_
  refine lv_bipush (v := 24) hx hb dX10_feed_89 (by decide) ?_
  refine lv_bipush (v := 8) hx hb dX10_feed_91 (by decide) ?_
  refine lv_iload hx hb dX10_feed_93 (lv_at hl 1 rfl) ?_
  refine lv_iconst (v := 4) hx hb dX10_feed_95 (by decide) ?_
  refine lv_irem hx hb dX10_feed_96 (by decide) ?_
  refine tpi (y := 3) (by decide +kernel) ?_
  refine lv_imul hx hb dX10_feed_97 ?_
  refine tpi (y := 24) (by decide +kernel) ?_
  refine lv_isub hx hb dX10_feed_98 ?_
  refine tpi (y := 0) (by decide +kernel) ?_
  refine lv_ishr hx hb dX10_feed_99 ?_
  refine lv_sipush (v := 255) hx hb dX10_feed_100 (by decide) ?_
  refine lv_iand hx hb dX10_feed_103 ?_
  refine va_iast hx hb hK hP hD hS 1 0 rfl rfl (vin (by decide +kernel)) dX10_feed_104 (fun H locs hP hD hS => ?_)
  obtain ⟨f_29, hP, hD⟩ : ∃ f_29 : Nat → Int32, va_P V.1 vwCl [(z 0, .inr (10, mo z 0 7 0 0 0 0 0 0 0 0 (-1) 0 0 0 0 0)), (z 3, aI V 900 f_29)] H ∧ va_D A [(z 0, .inr (10, mo z 0 7 0 0 0 0 0 0 0 0 (-1) 0 0 0 0 0)), (z 3, aI V 900 f_29)] := ⟨_, hP, hD⟩
  refine lv_aload_n hx hb dX10_feed_105 rfl (lv_at hl 2 rfl) ?_
  refine lv_dup hx hb dX10_feed_106 rfl ?_
  refine va_get (ci := 10) (v := .int 7) (C := RX10) (T := TX10) (N := 40) hx hb hg inX10 hown hK hP 0 rfl rfl 5 (by decide) (hg _ q_5_229) (fun _ h9 => h9) rfl dX10_feed_107 ?_
  refine lv_iconst (v := 1) hx hb dX10_feed_110 (by decide) ?_
  refine lv_iadd hx hb dX10_feed_111 ?_
  refine tpi (y := 8) (by decide +kernel) ?_
  refine va_put (ci := 10) (v := .int 8) (ty := .int) (C := RX10) (T := TX10) (N := 40) hx hb hg inX10 tyX10 tyX10_ok nmX10 hown hK hP hD hS 0 rfl rfl 5 (by decide) (hg _ q_5_229) (fun _ h9 => h9) rfl (by decide +kernel) rfl rfl (Nat.le_of_ble_eq_true rfl) dX10_feed_112 (fun H locs hP hD hS => ?_)
  have hP : va_P V.1 vwCl [(z 0, .inr (10, mo z 0 8 0 0 0 0 0 0 0 0 (-1) 0 0 0 0 0)), (z 3, aI V 900 f_29)] H := hP
  have hD : va_D A [(z 0, .inr (10, mo z 0 8 0 0 0 0 0 0 0 0 (-1) 0 0 0 0 0)), (z 3, aI V 900 f_29)] := hD
  refine lv_iinc (v := 8) (lv' := [(6, .int 8), (7, .int p1), (0, .ref (z 0)), (1, .int p0), (2, .int p1), (3, .int p2), (4, .int p3), (5, .int p4)]) hx hb dX10_feed_115 hl (k := 1) rfl (by decide +kernel) (by decide) rfl (fun ls hl => ?_)
  refine lv_goto (tgt := 24) hx hb dX10_feed_118 (by decide) ?_
  refine lv_iload hx hb dX10_feed_24 (lv_at hl 0 rfl) ?_
  refine lv_bipush (v := 20) hx hb dX10_feed_26 (by decide) ?_
  refine lv_icmp_ge (tgt := 121) hx hb dX10_feed_28 (by decide) (fun c_30 => absurd c_30 (by decide)) (fun _ => ?_)
  refine lv_iload hx hb dX10_feed_31 (lv_at hl 0 rfl) ?_
  refine lv_iconst (v := 4) hx hb dX10_feed_33 (by decide) ?_
  refine lv_icmp_ge (tgt := 41) hx hb dX10_feed_34 (by decide) (fun _ => ?_) (fun c_31 => absurd c_31 (by decide))
  refine lv_iload hx hb dX10_feed_41 (lv_at hl 0 rfl) ?_
  refine lv_bipush (v := 8) hx hb dX10_feed_43 (by decide) ?_
  refine lv_icmp_ge (tgt := 52) hx hb dX10_feed_45 (by decide) (fun _ => ?_) (fun c_32 => absurd c_32 (by decide))
  refine lv_iload hx hb dX10_feed_52 (lv_at hl 0 rfl) ?_
  refine lv_bipush (v := 12) hx hb dX10_feed_54 (by decide) ?_
  refine lv_icmp_ge (tgt := 63) hx hb dX10_feed_56 (by decide) (fun c_33 => absurd c_33 (by decide)) (fun _ => ?_)
  refine lv_iload_n hx hb dX10_feed_59 rfl (lv_at hl 5 rfl) ?_
  refine lv_goto (tgt := 77) hx hb dX10_feed_60 (by decide) ?_
  refine lv_istore (lv' := [(7, .int p2), (6, .int 8), (0, .ref (z 0)), (1, .int p0), (2, .int p1), (3, .int p2), (4, .int p3), (5, .int p4)]) hx hb dX10_feed_77 hl (by decide) rfl (fun ls hl => ?_)
  refine lv_aload_n hx hb dX10_feed_79 rfl (lv_at hl 2 rfl) ?_
  refine va_get (ci := 10) (v := .ref (z 3)) (C := RX10) (T := TX10) (N := 40) hx hb hg inX10 hown hK hP 0 rfl rfl 3 (by decide) (hg _ q_5_227) (fun _ h9 => h9) rfl dX10_feed_80 ?_
  refine lv_aload_n hx hb dX10_feed_83 rfl (lv_at hl 2 rfl) ?_
  refine va_get (ci := 10) (v := .int 8) (C := RX10) (T := TX10) (N := 40) hx hb hg inX10 hown hK hP 0 rfl rfl 5 (by decide) (hg _ q_5_229) (fun _ h9 => h9) rfl dX10_feed_84 ?_
  refine lv_iload hx hb dX10_feed_87 (lv_at hl 0 rfl) ?_
  refine lv_bipush (v := 24) hx hb dX10_feed_89 (by decide) ?_
  refine lv_bipush (v := 8) hx hb dX10_feed_91 (by decide) ?_
  refine lv_iload hx hb dX10_feed_93 (lv_at hl 1 rfl) ?_
  refine lv_iconst (v := 4) hx hb dX10_feed_95 (by decide) ?_
  refine lv_irem hx hb dX10_feed_96 (by decide) ?_
  refine tpi (y := 0) (by decide +kernel) ?_
  refine lv_imul hx hb dX10_feed_97 ?_
  refine tpi (y := 0) (by decide +kernel) ?_
  refine lv_isub hx hb dX10_feed_98 ?_
  refine tpi (y := 24) (by decide +kernel) ?_
  refine lv_ishr hx hb dX10_feed_99 ?_
  refine lv_sipush (v := 255) hx hb dX10_feed_100 (by decide) ?_
  refine lv_iand hx hb dX10_feed_103 ?_
  refine va_iast hx hb hK hP hD hS 1 0 rfl rfl (vin (by decide +kernel)) dX10_feed_104 (fun H locs hP hD hS => ?_)
  obtain ⟨f_34, hP, hD⟩ : ∃ f_34 : Nat → Int32, va_P V.1 vwCl [(z 0, .inr (10, mo z 0 8 0 0 0 0 0 0 0 0 (-1) 0 0 0 0 0)), (z 3, aI V 900 f_34)] H ∧ va_D A [(z 0, .inr (10, mo z 0 8 0 0 0 0 0 0 0 0 (-1) 0 0 0 0 0)), (z 3, aI V 900 f_34)] := ⟨_, hP, hD⟩
  refine lv_aload_n hx hb dX10_feed_105 rfl (lv_at hl 2 rfl) ?_
  refine lv_dup hx hb dX10_feed_106 rfl ?_
  refine va_get (ci := 10) (v := .int 8) (C := RX10) (T := TX10) (N := 40) hx hb hg inX10 hown hK hP 0 rfl rfl 5 (by decide) (hg _ q_5_229) (fun _ h9 => h9) rfl dX10_feed_107 ?_
  refine lv_iconst (v := 1) hx hb dX10_feed_110 (by decide) ?_
  refine lv_iadd hx hb dX10_feed_111 ?_
  refine tpi (y := 9) (by decide +kernel) ?_
  refine va_put (ci := 10) (v := .int 9) (ty := .int) (C := RX10) (T := TX10) (N := 40) hx hb hg inX10 tyX10 tyX10_ok nmX10 hown hK hP hD hS 0 rfl rfl 5 (by decide) (hg _ q_5_229) (fun _ h9 => h9) rfl (by decide +kernel) rfl rfl (Nat.le_of_ble_eq_true rfl) dX10_feed_112 (fun H locs hP hD hS => ?_)
  have hP : va_P V.1 vwCl [(z 0, .inr (10, mo z 0 9 0 0 0 0 0 0 0 0 (-1) 0 0 0 0 0)), (z 3, aI V 900 f_34)] H := hP
  have hD : va_D A [(z 0, .inr (10, mo z 0 9 0 0 0 0 0 0 0 0 (-1) 0 0 0 0 0)), (z 3, aI V 900 f_34)] := hD
  refine lv_iinc (v := 9) (lv' := [(6, .int 9), (7, .int p2), (0, .ref (z 0)), (1, .int p0), (2, .int p1), (3, .int p2), (4, .int p3), (5, .int p4)]) hx hb dX10_feed_115 hl (k := 1) rfl (by decide +kernel) (by decide) rfl (fun ls hl => ?_)
  refine lv_goto (tgt := 24) hx hb dX10_feed_118 (by decide) ?_
  refine lv_iload hx hb dX10_feed_24 (lv_at hl 0 rfl) ?_
  refine lv_bipush (v := 20) hx hb dX10_feed_26 (by decide) ?_
  refine lv_icmp_ge (tgt := 121) hx hb dX10_feed_28 (by decide) (fun c_35 => absurd c_35 (by decide)) (fun _ => ?_)
  refine lv_iload hx hb dX10_feed_31 (lv_at hl 0 rfl) ?_
  refine lv_iconst (v := 4) hx hb dX10_feed_33 (by decide) ?_
  refine lv_icmp_ge (tgt := 41) hx hb dX10_feed_34 (by decide) (fun _ => ?_) (fun c_36 => absurd c_36 (by decide))
  refine lv_iload hx hb dX10_feed_41 (lv_at hl 0 rfl) ?_
  refine lv_bipush (v := 8) hx hb dX10_feed_43 (by decide) ?_
  refine lv_icmp_ge (tgt := 52) hx hb dX10_feed_45 (by decide) (fun _ => ?_) (fun c_37 => absurd c_37 (by decide))
  refine lv_iload hx hb dX10_feed_52 (lv_at hl 0 rfl) ?_
  refine lv_bipush (v := 12) hx hb dX10_feed_54 (by decide) ?_
  refine lv_icmp_ge (tgt := 63) hx hb dX10_feed_56 (by decide) (fun c_38 => absurd c_38 (by decide)) (fun _ => ?_)
  refine lv_iload_n hx hb dX10_feed_59 rfl (lv_at hl 5 rfl) ?_
  refine lv_goto (tgt := 77) hx hb dX10_feed_60 (by decide) ?_
  refine lv_istore (lv' := [(7, .int p2), (6, .int 9), (0, .ref (z 0)), (1, .int p0), (2, .int p1), (3, .int p2), (4, .int p3), (5, .int p4)]) hx hb dX10_feed_77 hl (by decide) rfl (fun ls hl => ?_)
  refine lv_aload_n hx hb dX10_feed_79 rfl (lv_at hl 2 rfl) ?_
  refine va_get (ci := 10) (v := .ref (z 3)) (C := RX10) (T := TX10) (N := 40) hx hb hg inX10 hown hK hP 0 rfl rfl 3 (by decide) (hg _ q_5_227) (fun _ h9 => h9) rfl dX10_feed_80 ?_
  refine lv_aload_n hx hb dX10_feed_83 rfl (lv_at hl 2 rfl) ?_
  refine va_get (ci := 10) (v := .int 9) (C := RX10) (T := TX10) (N := 40) hx hb hg inX10 hown hK hP 0 rfl rfl 5 (by decide) (hg _ q_5_229) (fun _ h9 => h9) rfl dX10_feed_84 ?_
  refine lv_iload hx hb dX10_feed_87 (lv_at hl 0 rfl) ?_
  refine lv_bipush (v := 24) hx hb dX10_feed_89 (by decide) ?_
  refine lv_bipush (v := 8) hx hb dX10_feed_91 (by decide) ?_
  refine lv_iload hx hb dX10_feed_93 (lv_at hl 1 rfl) ?_
  refine lv_iconst (v := 4) hx hb dX10_feed_95 (by decide) ?_
  refine lv_irem hx hb dX10_feed_96 (by decide) ?_
  refine tpi (y := 1) (by decide +kernel) ?_
  refine lv_imul hx hb dX10_feed_97 ?_
  refine tpi (y := 8) (by decide +kernel) ?_
  refine lv_isub hx hb dX10_feed_98 ?_
  refine tpi (y := 16) (by decide +kernel) ?_
  refine lv_ishr hx hb dX10_feed_99 ?_
  refine lv_sipush (v := 255) hx hb dX10_feed_100 (by decide) ?_
  refine lv_iand hx hb dX10_feed_103 ?_
  refine va_iast hx hb hK hP hD hS 1 0 rfl rfl (vin (by decide +kernel)) dX10_feed_104 (fun H locs hP hD hS => ?_)
  obtain ⟨f_39, hP, hD⟩ : ∃ f_39 : Nat → Int32, va_P V.1 vwCl [(z 0, .inr (10, mo z 0 9 0 0 0 0 0 0 0 0 (-1) 0 0 0 0 0)), (z 3, aI V 900 f_39)] H ∧ va_D A [(z 0, .inr (10, mo z 0 9 0 0 0 0 0 0 0 0 (-1) 0 0 0 0 0)), (z 3, aI V 900 f_39)] := ⟨_, hP, hD⟩
  refine lv_aload_n hx hb dX10_feed_105 rfl (lv_at hl 2 rfl) ?_
  refine lv_dup hx hb dX10_feed_106 rfl ?_
  refine va_get (ci := 10) (v := .int 9) (C := RX10) (T := TX10) (N := 40) hx hb hg inX10 hown hK hP 0 rfl rfl 5 (by decide) (hg _ q_5_229) (fun _ h9 => h9) rfl dX10_feed_107 ?_
  refine lv_iconst (v := 1) hx hb dX10_feed_110 (by decide) ?_
  refine lv_iadd hx hb dX10_feed_111 ?_
  refine tpi (y := 10) (by decide +kernel) ?_
  refine va_put (ci := 10) (v := .int 10) (ty := .int) (C := RX10) (T := TX10) (N := 40) hx hb hg inX10 tyX10 tyX10_ok nmX10 hown hK hP hD hS 0 rfl rfl 5 (by decide) (hg _ q_5_229) (fun _ h9 => h9) rfl (by decide +kernel) rfl rfl (Nat.le_of_ble_eq_true rfl) dX10_feed_112 (fun H locs hP hD hS => ?_)
  have hP : va_P V.1 vwCl [(z 0, .inr (10, mo z 0 10 0 0 0 0 0 0 0 0 (-1) 0 0 0 0 0)), (z 3, aI V 900 f_39)] H := hP
  have hD : va_D A [(z 0, .inr (10, mo z 0 10 0 0 0 0 0 0 0 0 (-1) 0 0 0 0 0)), (z 3, aI V 900 f_39)] := hD
  refine lv_iinc (v := 10) (lv' := [(6, .int 10), (7, .int p2), (0, .ref (z 0)), (1, .int p0), (2, .int p1), (3, .int p2), (4, .int p3), (5, .int p4)]) hx hb dX10_feed_115 hl (k := 1) rfl (by decide +kernel) (by decide) rfl (fun ls hl => ?_)
  refine lv_goto (tgt := 24) hx hb dX10_feed_118 (by decide) ?_
  refine lv_iload hx hb dX10_feed_24 (lv_at hl 0 rfl) ?_
  refine lv_bipush (v := 20) hx hb dX10_feed_26 (by decide) ?_
  refine lv_icmp_ge (tgt := 121) hx hb dX10_feed_28 (by decide) (fun c_40 => absurd c_40 (by decide)) (fun _ => ?_)
  refine lv_iload hx hb dX10_feed_31 (lv_at hl 0 rfl) ?_
  refine lv_iconst (v := 4) hx hb dX10_feed_33 (by decide) ?_
  refine lv_icmp_ge (tgt := 41) hx hb dX10_feed_34 (by decide) (fun _ => ?_) (fun c_41 => absurd c_41 (by decide))
  refine lv_iload hx hb dX10_feed_41 (lv_at hl 0 rfl) ?_
  refine lv_bipush (v := 8) hx hb dX10_feed_43 (by decide) ?_
  refine lv_icmp_ge (tgt := 52) hx hb dX10_feed_45 (by decide) (fun _ => ?_) (fun c_42 => absurd c_42 (by decide))
  refine lv_iload hx hb dX10_feed_52 (lv_at hl 0 rfl) ?_
  refine lv_bipush (v := 12) hx hb dX10_feed_54 (by decide) ?_
  refine lv_icmp_ge (tgt := 63) hx hb dX10_feed_56 (by decide) (fun c_43 => absurd c_43 (by decide)) (fun _ => ?_)
  refine lv_iload_n hx hb dX10_feed_59 rfl (lv_at hl 5 rfl) ?_
  refine lv_goto (tgt := 77) hx hb dX10_feed_60 (by decide) ?_
  refine lv_istore (lv' := [(7, .int p2), (6, .int 10), (0, .ref (z 0)), (1, .int p0), (2, .int p1), (3, .int p2), (4, .int p3), (5, .int p4)]) hx hb dX10_feed_77 hl (by decide) rfl (fun ls hl => ?_)
  refine lv_aload_n hx hb dX10_feed_79 rfl (lv_at hl 2 rfl) ?_
  refine va_get (ci := 10) (v := .ref (z 3)) (C := RX10) (T := TX10) (N := 40) hx hb hg inX10 hown hK hP 0 rfl rfl 3 (by decide) (hg _ q_5_227) (fun _ h9 => h9) rfl dX10_feed_80 ?_
  refine lv_aload_n hx hb dX10_feed_83 rfl (lv_at hl 2 rfl) ?_
  refine va_get (ci := 10) (v := .int 10) (C := RX10) (T := TX10) (N := 40) hx hb hg inX10 hown hK hP 0 rfl rfl 5 (by decide) (hg _ q_5_229) (fun _ h9 => h9) rfl dX10_feed_84 ?_
  refine lv_iload hx hb dX10_feed_87 (lv_at hl 0 rfl) ?_
  refine lv_bipush (v := 24) hx hb dX10_feed_89 (by decide) ?_
  refine lv_bipush (v := 8) hx hb dX10_feed_91 (by decide) ?_
  refine lv_iload hx hb dX10_feed_93 (lv_at hl 1 rfl) ?_
  refine lv_iconst (v := 4) hx hb dX10_feed_95 (by decide) ?_
  refine lv_irem hx hb dX10_feed_96 (by decide) ?_
  refine tpi (y := 2) (by decide +kernel) ?_
  refine lv_imul hx hb dX10_feed_97 ?_
  refine tpi (y := 16) (by decide +kernel) ?_
  refine lv_isub hx hb dX10_feed_98 ?_
  refine tpi (y := 8) (by decide +kernel) ?_
  refine lv_ishr hx hb dX10_feed_99 ?_
  refine lv_sipush (v := 255) hx hb dX10_feed_100 (by decide) ?_
  refine lv_iand hx hb dX10_feed_103 ?_
  refine va_iast hx hb hK hP hD hS 1 0 rfl rfl (vin (by decide +kernel)) dX10_feed_104 (fun H locs hP hD hS => ?_)
  obtain ⟨f_44, hP, hD⟩ : ∃ f_44 : Nat → Int32, va_P V.1 vwCl [(z 0, .inr (10, mo z 0 10 0 0 0 0 0 0 0 0 (-1) 0 0 0 0 0)), (z 3, aI V 900 f_44)] H ∧ va_D A [(z 0, .inr (10, mo z 0 10 0 0 0 0 0 0 0 0 (-1) 0 0 0 0 0)), (z 3, aI V 900 f_44)] := ⟨_, hP, hD⟩
  refine lv_aload_n hx hb dX10_feed_105 rfl (lv_at hl 2 rfl) ?_
  refine lv_dup hx hb dX10_feed_106 rfl ?_
  refine va_get (ci := 10) (v := .int 10) (C := RX10) (T := TX10) (N := 40) hx hb hg inX10 hown hK hP 0 rfl rfl 5 (by decide) (hg _ q_5_229) (fun _ h9 => h9) rfl dX10_feed_107 ?_
  refine lv_iconst (v := 1) hx hb dX10_feed_110 (by decide) ?_
  refine lv_iadd hx hb dX10_feed_111 ?_
  refine tpi (y := 11) (by decide +kernel) ?_
  refine va_put (ci := 10) (v := .int 11) (ty := .int) (C := RX10) (T := TX10) (N := 40) hx hb hg inX10 tyX10 tyX10_ok nmX10 hown hK hP hD hS 0 rfl rfl 5 (by decide) (hg _ q_5_229) (fun _ h9 => h9) rfl (by decide +kernel) rfl rfl (Nat.le_of_ble_eq_true rfl) dX10_feed_112 (fun H locs hP hD hS => ?_)
  have hP : va_P V.1 vwCl [(z 0, .inr (10, mo z 0 11 0 0 0 0 0 0 0 0 (-1) 0 0 0 0 0)), (z 3, aI V 900 f_44)] H := hP
  have hD : va_D A [(z 0, .inr (10, mo z 0 11 0 0 0 0 0 0 0 0 (-1) 0 0 0 0 0)), (z 3, aI V 900 f_44)] := hD
  refine lv_iinc (v := 11) (lv' := [(6, .int 11), (7, .int p2), (0, .ref (z 0)), (1, .int p0), (2, .int p1), (3, .int p2), (4, .int p3), (5, .int p4)]) hx hb dX10_feed_115 hl (k := 1) rfl (by decide +kernel) (by decide) rfl (fun ls hl => ?_)
  refine lv_goto (tgt := 24) hx hb dX10_feed_118 (by decide) ?_
  refine lv_iload hx hb dX10_feed_24 (lv_at hl 0 rfl) ?_
  refine lv_bipush (v := 20) hx hb dX10_feed_26 (by decide) ?_
  refine lv_icmp_ge (tgt := 121) hx hb dX10_feed_28 (by decide) (fun c_45 => absurd c_45 (by decide)) (fun _ => ?_)
  refine lv_iload hx hb dX10_feed_31 (lv_at hl 0 rfl) ?_
  refine lv_iconst (v := 4) hx hb dX10_feed_33 (by decide) ?_
  refine lv_icmp_ge (tgt := 41) hx hb dX10_feed_34 (by decide) (fun _ => ?_) (fun c_46 => absurd c_46 (by decide))
  refine lv_iload hx hb dX10_feed_41 (lv_at hl 0 rfl) ?_
  refine lv_bipush (v := 8) hx hb dX10_feed_43 (by decide) ?_
  refine lv_icmp_ge (tgt := 52) hx hb dX10_feed_45 (by decide) (fun _ => ?_) (fun c_47 => absurd c_47 (by decide))
  refine lv_iload hx hb dX10_feed_52 (lv_at hl 0 rfl) ?_
  refine lv_bipush (v := 12) hx hb dX10_feed_54 (by decide) ?_
  refine lv_icmp_ge (tgt := 63) hx hb dX10_feed_56 (by decide) (fun c_48 => absurd c_48 (by decide)) (fun _ => ?_)
  refine lv_iload_n hx hb dX10_feed_59 rfl (lv_at hl 5 rfl) ?_
  refine lv_goto (tgt := 77) hx hb dX10_feed_60 (by decide) ?_
  refine lv_istore (lv' := [(7, .int p2), (6, .int 11), (0, .ref (z 0)), (1, .int p0), (2, .int p1), (3, .int p2), (4, .int p3), (5, .int p4)]) hx hb dX10_feed_77 hl (by decide) rfl (fun ls hl => ?_)
  refine lv_aload_n hx hb dX10_feed_79 rfl (lv_at hl 2 rfl) ?_
  refine va_get (ci := 10) (v := .ref (z 3)) (C := RX10) (T := TX10) (N := 40) hx hb hg inX10 hown hK hP 0 rfl rfl 3 (by decide) (hg _ q_5_227) (fun _ h9 => h9) rfl dX10_feed_80 ?_
  refine lv_aload_n hx hb dX10_feed_83 rfl (lv_at hl 2 rfl) ?_
  refine va_get (ci := 10) (v := .int 11) (C := RX10) (T := TX10) (N := 40) hx hb hg inX10 hown hK hP 0 rfl rfl 5 (by decide) (hg _ q_5_229) (fun _ h9 => h9) rfl dX10_feed_84 ?_
  refine lv_iload hx hb dX10_feed_87 (lv_at hl 0 rfl) ?_
  refine lv_bipush (v := 24) hx hb dX10_feed_89 (by decide) ?_
  refine lv_bipush (v := 8) hx hb dX10_feed_91 (by decide) ?_
  refine lv_iload hx hb dX10_feed_93 (lv_at hl 1 rfl) ?_
  refine lv_iconst (v := 4) hx hb dX10_feed_95 (by decide) ?_
  refine lv_irem hx hb dX10_feed_96 (by decide) ?_
  refine tpi (y := 3) (by decide +kernel) ?_
  refine lv_imul hx hb dX10_feed_97 ?_
  refine tpi (y := 24) (by decide +kernel) ?_
  refine lv_isub hx hb dX10_feed_98 ?_
  refine tpi (y := 0) (by decide +kernel) ?_
  refine lv_ishr hx hb dX10_feed_99 ?_
  refine lv_sipush (v := 255) hx hb dX10_feed_100 (by decide) ?_
  refine lv_iand hx hb dX10_feed_103 ?_
  refine va_iast hx hb hK hP hD hS 1 0 rfl rfl (vin (by decide +kernel)) dX10_feed_104 (fun H locs hP hD hS => ?_)
  obtain ⟨f_49, hP, hD⟩ : ∃ f_49 : Nat → Int32, va_P V.1 vwCl [(z 0, .inr (10, mo z 0 11 0 0 0 0 0 0 0 0 (-1) 0 0 0 0 0)), (z 3, aI V 900 f_49)] H ∧ va_D A [(z 0, .inr (10, mo z 0 11 0 0 0 0 0 0 0 0 (-1) 0 0 0 0 0)), (z 3, aI V 900 f_49)] := ⟨_, hP, hD⟩
  refine lv_aload_n hx hb dX10_feed_105 rfl (lv_at hl 2 rfl) ?_
  refine lv_dup hx hb dX10_feed_106 rfl ?_
  refine va_get (ci := 10) (v := .int 11) (C := RX10) (T := TX10) (N := 40) hx hb hg inX10 hown hK hP 0 rfl rfl 5 (by decide) (hg _ q_5_229) (fun _ h9 => h9) rfl dX10_feed_107 ?_
  refine lv_iconst (v := 1) hx hb dX10_feed_110 (by decide) ?_
  refine lv_iadd hx hb dX10_feed_111 ?_
  refine tpi (y := 12) (by decide +kernel) ?_
  refine va_put (ci := 10) (v := .int 12) (ty := .int) (C := RX10) (T := TX10) (N := 40) hx hb hg inX10 tyX10 tyX10_ok nmX10 hown hK hP hD hS 0 rfl rfl 5 (by decide) (hg _ q_5_229) (fun _ h9 => h9) rfl (by decide +kernel) rfl rfl (Nat.le_of_ble_eq_true rfl) dX10_feed_112 (fun H locs hP hD hS => ?_)
  have hP : va_P V.1 vwCl [(z 0, .inr (10, mo z 0 12 0 0 0 0 0 0 0 0 (-1) 0 0 0 0 0)), (z 3, aI V 900 f_49)] H := hP
  have hD : va_D A [(z 0, .inr (10, mo z 0 12 0 0 0 0 0 0 0 0 (-1) 0 0 0 0 0)), (z 3, aI V 900 f_49)] := hD
  refine lv_iinc (v := 12) (lv' := [(6, .int 12), (7, .int p2), (0, .ref (z 0)), (1, .int p0), (2, .int p1), (3, .int p2), (4, .int p3), (5, .int p4)]) hx hb dX10_feed_115 hl (k := 1) rfl (by decide +kernel) (by decide) rfl (fun ls hl => ?_)
  refine lv_goto (tgt := 24) hx hb dX10_feed_118 (by decide) ?_
  refine lv_iload hx hb dX10_feed_24 (lv_at hl 0 rfl) ?_
  refine lv_bipush (v := 20) hx hb dX10_feed_26 (by decide) ?_
  refine lv_icmp_ge (tgt := 121) hx hb dX10_feed_28 (by decide) (fun c_50 => absurd c_50 (by decide)) (fun _ => ?_)
  refine lv_iload hx hb dX10_feed_31 (lv_at hl 0 rfl) ?_
  refine lv_iconst (v := 4) hx hb dX10_feed_33 (by decide) ?_
  refine lv_icmp_ge (tgt := 41) hx hb dX10_feed_34 (by decide) (fun _ => ?_) (fun c_51 => absurd c_51 (by decide))
  refine lv_iload hx hb dX10_feed_41 (lv_at hl 0 rfl) ?_
  refine lv_bipush (v := 8) hx hb dX10_feed_43 (by decide) ?_
  refine lv_icmp_ge (tgt := 52) hx hb dX10_feed_45 (by decide) (fun _ => ?_) (fun c_52 => absurd c_52 (by decide))
  refine lv_iload hx hb dX10_feed_52 (lv_at hl 0 rfl) ?_
  refine lv_bipush (v := 12) hx hb dX10_feed_54 (by decide) ?_
  refine lv_icmp_ge (tgt := 63) hx hb dX10_feed_56 (by decide) (fun _ => ?_) (fun c_53 => absurd c_53 (by decide))
  refine lv_iload hx hb dX10_feed_63 (lv_at hl 0 rfl) ?_
  refine lv_bipush (v := 16) hx hb dX10_feed_65 (by decide) ?_
  refine lv_icmp_ge (tgt := 75) hx hb dX10_feed_67 (by decide) (fun c_54 => absurd c_54 (by decide)) (fun _ => ?_)
  refine lv_iload hx hb dX10_feed_70 (lv_at hl 6 rfl) ?_
  refine lv_goto (tgt := 77) hx hb dX10_feed_72 (by decide) ?_
  refine lv_istore (lv' := [(7, .int p3), (6, .int 12), (0, .ref (z 0)), (1, .int p0), (2, .int p1), (3, .int p2), (4, .int p3), (5, .int p4)]) hx hb dX10_feed_77 hl (by decide) rfl (fun ls hl => ?_)
  refine lv_aload_n hx hb dX10_feed_79 rfl (lv_at hl 2 rfl) ?_
  refine va_get (ci := 10) (v := .ref (z 3)) (C := RX10) (T := TX10) (N := 40) hx hb hg inX10 hown hK hP 0 rfl rfl 3 (by decide) (hg _ q_5_227) (fun _ h9 => h9) rfl dX10_feed_80 ?_
  refine lv_aload_n hx hb dX10_feed_83 rfl (lv_at hl 2 rfl) ?_
  refine va_get (ci := 10) (v := .int 12) (C := RX10) (T := TX10) (N := 40) hx hb hg inX10 hown hK hP 0 rfl rfl 5 (by decide) (hg _ q_5_229) (fun _ h9 => h9) rfl dX10_feed_84 ?_
  refine lv_iload hx hb dX10_feed_87 (lv_at hl 0 rfl) ?_
  refine lv_bipush (v := 24) hx hb dX10_feed_89 (by decide) ?_
  refine lv_bipush (v := 8) hx hb dX10_feed_91 (by decide) ?_
  refine lv_iload hx hb dX10_feed_93 (lv_at hl 1 rfl) ?_
  refine lv_iconst (v := 4) hx hb dX10_feed_95 (by decide) ?_
  refine lv_irem hx hb dX10_feed_96 (by decide) ?_
  refine tpi (y := 0) (by decide +kernel) ?_
  refine lv_imul hx hb dX10_feed_97 ?_
  refine tpi (y := 0) (by decide +kernel) ?_
  refine lv_isub hx hb dX10_feed_98 ?_
  refine tpi (y := 24) (by decide +kernel) ?_
  refine lv_ishr hx hb dX10_feed_99 ?_
  refine lv_sipush (v := 255) hx hb dX10_feed_100 (by decide) ?_
  refine lv_iand hx hb dX10_feed_103 ?_
  refine va_iast hx hb hK hP hD hS 1 0 rfl rfl (vin (by decide +kernel)) dX10_feed_104 (fun H locs hP hD hS => ?_)
  obtain ⟨f_55, hP, hD⟩ : ∃ f_55 : Nat → Int32, va_P V.1 vwCl [(z 0, .inr (10, mo z 0 12 0 0 0 0 0 0 0 0 (-1) 0 0 0 0 0)), (z 3, aI V 900 f_55)] H ∧ va_D A [(z 0, .inr (10, mo z 0 12 0 0 0 0 0 0 0 0 (-1) 0 0 0 0 0)), (z 3, aI V 900 f_55)] := ⟨_, hP, hD⟩
  refine lv_aload_n hx hb dX10_feed_105 rfl (lv_at hl 2 rfl) ?_
  refine lv_dup hx hb dX10_feed_106 rfl ?_
  refine va_get (ci := 10) (v := .int 12) (C := RX10) (T := TX10) (N := 40) hx hb hg inX10 hown hK hP 0 rfl rfl 5 (by decide) (hg _ q_5_229) (fun _ h9 => h9) rfl dX10_feed_107 ?_
  refine lv_iconst (v := 1) hx hb dX10_feed_110 (by decide) ?_
  refine lv_iadd hx hb dX10_feed_111 ?_
  refine tpi (y := 13) (by decide +kernel) ?_
  refine va_put (ci := 10) (v := .int 13) (ty := .int) (C := RX10) (T := TX10) (N := 40) hx hb hg inX10 tyX10 tyX10_ok nmX10 hown hK hP hD hS 0 rfl rfl 5 (by decide) (hg _ q_5_229) (fun _ h9 => h9) rfl (by decide +kernel) rfl rfl (Nat.le_of_ble_eq_true rfl) dX10_feed_112 (fun H locs hP hD hS => ?_)
  have hP : va_P V.1 vwCl [(z 0, .inr (10, mo z 0 13 0 0 0 0 0 0 0 0 (-1) 0 0 0 0 0)), (z 3, aI V 900 f_55)] H := hP
  have hD : va_D A [(z 0, .inr (10, mo z 0 13 0 0 0 0 0 0 0 0 (-1) 0 0 0 0 0)), (z 3, aI V 900 f_55)] := hD
  refine lv_iinc (v := 13) (lv' := [(6, .int 13), (7, .int p3), (0, .ref (z 0)), (1, .int p0), (2, .int p1), (3, .int p2), (4, .int p3), (5, .int p4)]) hx hb dX10_feed_115 hl (k := 1) rfl (by decide +kernel) (by decide) rfl (fun ls hl => ?_)
  refine lv_goto (tgt := 24) hx hb dX10_feed_118 (by decide) ?_
  refine lv_iload hx hb dX10_feed_24 (lv_at hl 0 rfl) ?_
  refine lv_bipush (v := 20) hx hb dX10_feed_26 (by decide) ?_
  refine lv_icmp_ge (tgt := 121) hx hb dX10_feed_28 (by decide) (fun c_56 => absurd c_56 (by decide)) (fun _ => ?_)
  refine lv_iload hx hb dX10_feed_31 (lv_at hl 0 rfl) ?_
  refine lv_iconst (v := 4) hx hb dX10_feed_33 (by decide) ?_
  refine lv_icmp_ge (tgt := 41) hx hb dX10_feed_34 (by decide) (fun _ => ?_) (fun c_57 => absurd c_57 (by decide))
  refine lv_iload hx hb dX10_feed_41 (lv_at hl 0 rfl) ?_
  refine lv_bipush (v := 8) hx hb dX10_feed_43 (by decide) ?_
  refine lv_icmp_ge (tgt := 52) hx hb dX10_feed_45 (by decide) (fun _ => ?_) (fun c_58 => absurd c_58 (by decide))
  refine lv_iload hx hb dX10_feed_52 (lv_at hl 0 rfl) ?_
  refine lv_bipush (v := 12) hx hb dX10_feed_54 (by decide) ?_
  refine lv_icmp_ge (tgt := 63) hx hb dX10_feed_56 (by decide) (fun _ => ?_) (fun c_59 => absurd c_59 (by decide))
  refine lv_iload hx hb dX10_feed_63 (lv_at hl 0 rfl) ?_
  refine lv_bipush (v := 16) hx hb dX10_feed_65 (by decide) ?_
  refine lv_icmp_ge (tgt := 75) hx hb dX10_feed_67 (by decide) (fun c_60 => absurd c_60 (by decide)) (fun _ => ?_)
  refine lv_iload hx hb dX10_feed_70 (lv_at hl 6 rfl) ?_
  refine lv_goto (tgt := 77) hx hb dX10_feed_72 (by decide) ?_
  refine lv_istore (lv' := [(7, .int p3), (6, .int 13), (0, .ref (z 0)), (1, .int p0), (2, .int p1), (3, .int p2), (4, .int p3), (5, .int p4)]) hx hb dX10_feed_77 hl (by decide) rfl (fun ls hl => ?_)
  refine lv_aload_n hx hb dX10_feed_79 rfl (lv_at hl 2 rfl) ?_
  refine va_get (ci := 10) (v := .ref (z 3)) (C := RX10) (T := TX10) (N := 40) hx hb hg inX10 hown hK hP 0 rfl rfl 3 (by decide) (hg _ q_5_227) (fun _ h9 => h9) rfl dX10_feed_80 ?_
  refine lv_aload_n hx hb dX10_feed_83 rfl (lv_at hl 2 rfl) ?_
  refine va_get (ci := 10) (v := .int 13) (C := RX10) (T := TX10) (N := 40) hx hb hg inX10 hown hK hP 0 rfl rfl 5 (by decide) (hg _ q_5_229) (fun _ h9 => h9) rfl dX10_feed_84 ?_
  refine lv_iload hx hb dX10_feed_87 (lv_at hl 0 rfl) ?_
  refine lv_bipush (v := 24) hx hb dX10_feed_89 (by decide) ?_
  refine lv_bipush (v := 8) hx hb dX10_feed_91 (by decide) ?_
  refine lv_iload hx hb dX10_feed_93 (lv_at hl 1 rfl) ?_
  refine lv_iconst (v := 4) hx hb dX10_feed_95 (by decide) ?_
  refine lv_irem hx hb dX10_feed_96 (by decide) ?_
  refine tpi (y := 1) (by decide +kernel) ?_
  refine lv_imul hx hb dX10_feed_97 ?_
  refine tpi (y := 8) (by decide +kernel) ?_
  refine lv_isub hx hb dX10_feed_98 ?_
  refine tpi (y := 16) (by decide +kernel) ?_
  refine lv_ishr hx hb dX10_feed_99 ?_
  refine lv_sipush (v := 255) hx hb dX10_feed_100 (by decide) ?_
  refine lv_iand hx hb dX10_feed_103 ?_
  refine va_iast hx hb hK hP hD hS 1 0 rfl rfl (vin (by decide +kernel)) dX10_feed_104 (fun H locs hP hD hS => ?_)
  obtain ⟨f_61, hP, hD⟩ : ∃ f_61 : Nat → Int32, va_P V.1 vwCl [(z 0, .inr (10, mo z 0 13 0 0 0 0 0 0 0 0 (-1) 0 0 0 0 0)), (z 3, aI V 900 f_61)] H ∧ va_D A [(z 0, .inr (10, mo z 0 13 0 0 0 0 0 0 0 0 (-1) 0 0 0 0 0)), (z 3, aI V 900 f_61)] := ⟨_, hP, hD⟩
  refine lv_aload_n hx hb dX10_feed_105 rfl (lv_at hl 2 rfl) ?_
  refine lv_dup hx hb dX10_feed_106 rfl ?_
  refine va_get (ci := 10) (v := .int 13) (C := RX10) (T := TX10) (N := 40) hx hb hg inX10 hown hK hP 0 rfl rfl 5 (by decide) (hg _ q_5_229) (fun _ h9 => h9) rfl dX10_feed_107 ?_
  refine lv_iconst (v := 1) hx hb dX10_feed_110 (by decide) ?_
  refine lv_iadd hx hb dX10_feed_111 ?_
  refine tpi (y := 14) (by decide +kernel) ?_
  refine va_put (ci := 10) (v := .int 14) (ty := .int) (C := RX10) (T := TX10) (N := 40) hx hb hg inX10 tyX10 tyX10_ok nmX10 hown hK hP hD hS 0 rfl rfl 5 (by decide) (hg _ q_5_229) (fun _ h9 => h9) rfl (by decide +kernel) rfl rfl (Nat.le_of_ble_eq_true rfl) dX10_feed_112 (fun H locs hP hD hS => ?_)
  have hP : va_P V.1 vwCl [(z 0, .inr (10, mo z 0 14 0 0 0 0 0 0 0 0 (-1) 0 0 0 0 0)), (z 3, aI V 900 f_61)] H := hP
  have hD : va_D A [(z 0, .inr (10, mo z 0 14 0 0 0 0 0 0 0 0 (-1) 0 0 0 0 0)), (z 3, aI V 900 f_61)] := hD
  refine lv_iinc (v := 14) (lv' := [(6, .int 14), (7, .int p3), (0, .ref (z 0)), (1, .int p0), (2, .int p1), (3, .int p2), (4, .int p3), (5, .int p4)]) hx hb dX10_feed_115 hl (k := 1) rfl (by decide +kernel) (by decide) rfl (fun ls hl => ?_)
  refine lv_goto (tgt := 24) hx hb dX10_feed_118 (by decide) ?_
  refine lv_iload hx hb dX10_feed_24 (lv_at hl 0 rfl) ?_
  refine lv_bipush (v := 20) hx hb dX10_feed_26 (by decide) ?_
  refine lv_icmp_ge (tgt := 121) hx hb dX10_feed_28 (by decide) (fun c_62 => absurd c_62 (by decide)) (fun _ => ?_)
  refine lv_iload hx hb dX10_feed_31 (lv_at hl 0 rfl) ?_
  refine lv_iconst (v := 4) hx hb dX10_feed_33 (by decide) ?_
  refine lv_icmp_ge (tgt := 41) hx hb dX10_feed_34 (by decide) (fun _ => ?_) (fun c_63 => absurd c_63 (by decide))
  refine lv_iload hx hb dX10_feed_41 (lv_at hl 0 rfl) ?_
  refine lv_bipush (v := 8) hx hb dX10_feed_43 (by decide) ?_
  refine lv_icmp_ge (tgt := 52) hx hb dX10_feed_45 (by decide) (fun _ => ?_) (fun c_64 => absurd c_64 (by decide))
  refine lv_iload hx hb dX10_feed_52 (lv_at hl 0 rfl) ?_
  refine lv_bipush (v := 12) hx hb dX10_feed_54 (by decide) ?_
  refine lv_icmp_ge (tgt := 63) hx hb dX10_feed_56 (by decide) (fun _ => ?_) (fun c_65 => absurd c_65 (by decide))
  refine lv_iload hx hb dX10_feed_63 (lv_at hl 0 rfl) ?_
  refine lv_bipush (v := 16) hx hb dX10_feed_65 (by decide) ?_
  refine lv_icmp_ge (tgt := 75) hx hb dX10_feed_67 (by decide) (fun c_66 => absurd c_66 (by decide)) (fun _ => ?_)
  refine lv_iload hx hb dX10_feed_70 (lv_at hl 6 rfl) ?_
  refine lv_goto (tgt := 77) hx hb dX10_feed_72 (by decide) ?_
  refine lv_istore (lv' := [(7, .int p3), (6, .int 14), (0, .ref (z 0)), (1, .int p0), (2, .int p1), (3, .int p2), (4, .int p3), (5, .int p4)]) hx hb dX10_feed_77 hl (by decide) rfl (fun ls hl => ?_)
  refine lv_aload_n hx hb dX10_feed_79 rfl (lv_at hl 2 rfl) ?_
  refine va_get (ci := 10) (v := .ref (z 3)) (C := RX10) (T := TX10) (N := 40) hx hb hg inX10 hown hK hP 0 rfl rfl 3 (by decide) (hg _ q_5_227) (fun _ h9 => h9) rfl dX10_feed_80 ?_
  refine lv_aload_n hx hb dX10_feed_83 rfl (lv_at hl 2 rfl) ?_
  refine va_get (ci := 10) (v := .int 14) (C := RX10) (T := TX10) (N := 40) hx hb hg inX10 hown hK hP 0 rfl rfl 5 (by decide) (hg _ q_5_229) (fun _ h9 => h9) rfl dX10_feed_84 ?_
  refine lv_iload hx hb dX10_feed_87 (lv_at hl 0 rfl) ?_
  refine lv_bipush (v := 24) hx hb dX10_feed_89 (by decide) ?_
  refine lv_bipush (v := 8) hx hb dX10_feed_91 (by decide) ?_
  refine lv_iload hx hb dX10_feed_93 (lv_at hl 1 rfl) ?_
  refine lv_iconst (v := 4) hx hb dX10_feed_95 (by decide) ?_
  refine lv_irem hx hb dX10_feed_96 (by decide) ?_
  refine tpi (y := 2) (by decide +kernel) ?_
  refine lv_imul hx hb dX10_feed_97 ?_
  refine tpi (y := 16) (by decide +kernel) ?_
  refine lv_isub hx hb dX10_feed_98 ?_
  refine tpi (y := 8) (by decide +kernel) ?_
  refine lv_ishr hx hb dX10_feed_99 ?_
  refine lv_sipush (v := 255) hx hb dX10_feed_100 (by decide) ?_
  refine lv_iand hx hb dX10_feed_103 ?_
  refine va_iast hx hb hK hP hD hS 1 0 rfl rfl (vin (by decide +kernel)) dX10_feed_104 (fun H locs hP hD hS => ?_)
  obtain ⟨f_67, hP, hD⟩ : ∃ f_67 : Nat → Int32, va_P V.1 vwCl [(z 0, .inr (10, mo z 0 14 0 0 0 0 0 0 0 0 (-1) 0 0 0 0 0)), (z 3, aI V 900 f_67)] H ∧ va_D A [(z 0, .inr (10, mo z 0 14 0 0 0 0 0 0 0 0 (-1) 0 0 0 0 0)), (z 3, aI V 900 f_67)] := ⟨_, hP, hD⟩
  refine lv_aload_n hx hb dX10_feed_105 rfl (lv_at hl 2 rfl) ?_
  refine lv_dup hx hb dX10_feed_106 rfl ?_
  refine va_get (ci := 10) (v := .int 14) (C := RX10) (T := TX10) (N := 40) hx hb hg inX10 hown hK hP 0 rfl rfl 5 (by decide) (hg _ q_5_229) (fun _ h9 => h9) rfl dX10_feed_107 ?_
  refine lv_iconst (v := 1) hx hb dX10_feed_110 (by decide) ?_
  refine lv_iadd hx hb dX10_feed_111 ?_
  refine tpi (y := 15) (by decide +kernel) ?_
  refine va_put (ci := 10) (v := .int 15) (ty := .int) (C := RX10) (T := TX10) (N := 40) hx hb hg inX10 tyX10 tyX10_ok nmX10 hown hK hP hD hS 0 rfl rfl 5 (by decide) (hg _ q_5_229) (fun _ h9 => h9) rfl (by decide +kernel) rfl rfl (Nat.le_of_ble_eq_true rfl) dX10_feed_112 (fun H locs hP hD hS => ?_)
  have hP : va_P V.1 vwCl [(z 0, .inr (10, mo z 0 15 0 0 0 0 0 0 0 0 (-1) 0 0 0 0 0)), (z 3, aI V 900 f_67)] H := hP
  have hD : va_D A [(z 0, .inr (10, mo z 0 15 0 0 0 0 0 0 0 0 (-1) 0 0 0 0 0)), (z 3, aI V 900 f_67)] := hD
  refine lv_iinc (v := 15) (lv' := [(6, .int 15), (7, .int p3), (0, .ref (z 0)), (1, .int p0), (2, .int p1), (3, .int p2), (4, .int p3), (5, .int p4)]) hx hb dX10_feed_115 hl (k := 1) rfl (by decide +kernel) (by decide) rfl (fun ls hl => ?_)
  refine lv_goto (tgt := 24) hx hb dX10_feed_118 (by decide) ?_
  refine lv_iload hx hb dX10_feed_24 (lv_at hl 0 rfl) ?_
  refine lv_bipush (v := 20) hx hb dX10_feed_26 (by decide) ?_
  refine lv_icmp_ge (tgt := 121) hx hb dX10_feed_28 (by decide) (fun c_68 => absurd c_68 (by decide)) (fun _ => ?_)
  refine lv_iload hx hb dX10_feed_31 (lv_at hl 0 rfl) ?_
  refine lv_iconst (v := 4) hx hb dX10_feed_33 (by decide) ?_
  refine lv_icmp_ge (tgt := 41) hx hb dX10_feed_34 (by decide) (fun _ => ?_) (fun c_69 => absurd c_69 (by decide))
  refine lv_iload hx hb dX10_feed_41 (lv_at hl 0 rfl) ?_
  refine lv_bipush (v := 8) hx hb dX10_feed_43 (by decide) ?_
  refine lv_icmp_ge (tgt := 52) hx hb dX10_feed_45 (by decide) (fun _ => ?_) (fun c_70 => absurd c_70 (by decide))
  refine lv_iload hx hb dX10_feed_52 (lv_at hl 0 rfl) ?_
  refine lv_bipush (v := 12) hx hb dX10_feed_54 (by decide) ?_
  refine lv_icmp_ge (tgt := 63) hx hb dX10_feed_56 (by decide) (fun _ => ?_) (fun c_71 => absurd c_71 (by decide))
  refine lv_iload hx hb dX10_feed_63 (lv_at hl 0 rfl) ?_
  refine lv_bipush (v := 16) hx hb dX10_feed_65 (by decide) ?_
  refine lv_icmp_ge (tgt := 75) hx hb dX10_feed_67 (by decide) (fun c_72 => absurd c_72 (by decide)) (fun _ => ?_)
  refine lv_iload hx hb dX10_feed_70 (lv_at hl 6 rfl) ?_
  refine lv_goto (tgt := 77) hx hb dX10_feed_72 (by decide) ?_
  refine lv_istore (lv' := [(7, .int p3), (6, .int 15), (0, .ref (z 0)), (1, .int p0), (2, .int p1), (3, .int p2), (4, .int p3), (5, .int p4)]) hx hb dX10_feed_77 hl (by decide) rfl (fun ls hl => ?_)
  refine lv_aload_n hx hb dX10_feed_79 rfl (lv_at hl 2 rfl) ?_
  refine va_get (ci := 10) (v := .ref (z 3)) (C := RX10) (T := TX10) (N := 40) hx hb hg inX10 hown hK hP 0 rfl rfl 3 (by decide) (hg _ q_5_227) (fun _ h9 => h9) rfl dX10_feed_80 ?_
  refine lv_aload_n hx hb dX10_feed_83 rfl (lv_at hl 2 rfl) ?_
  refine va_get (ci := 10) (v := .int 15) (C := RX10) (T := TX10) (N := 40) hx hb hg inX10 hown hK hP 0 rfl rfl 5 (by decide) (hg _ q_5_229) (fun _ h9 => h9) rfl dX10_feed_84 ?_
  refine lv_iload hx hb dX10_feed_87 (lv_at hl 0 rfl) ?_
  refine lv_bipush (v := 24) hx hb dX10_feed_89 (by decide) ?_
  refine lv_bipush (v := 8) hx hb dX10_feed_91 (by decide) ?_
  refine lv_iload hx hb dX10_feed_93 (lv_at hl 1 rfl) ?_
  refine lv_iconst (v := 4) hx hb dX10_feed_95 (by decide) ?_
  refine lv_irem hx hb dX10_feed_96 (by decide) ?_
  refine tpi (y := 3) (by decide +kernel) ?_
  refine lv_imul hx hb dX10_feed_97 ?_
  refine tpi (y := 24) (by decide +kernel) ?_
  refine lv_isub hx hb dX10_feed_98 ?_
  refine tpi (y := 0) (by decide +kernel) ?_
  refine lv_ishr hx hb dX10_feed_99 ?_
  refine lv_sipush (v := 255) hx hb dX10_feed_100 (by decide) ?_
  refine lv_iand hx hb dX10_feed_103 ?_
  refine va_iast hx hb hK hP hD hS 1 0 rfl rfl (vin (by decide +kernel)) dX10_feed_104 (fun H locs hP hD hS => ?_)
  obtain ⟨f_73, hP, hD⟩ : ∃ f_73 : Nat → Int32, va_P V.1 vwCl [(z 0, .inr (10, mo z 0 15 0 0 0 0 0 0 0 0 (-1) 0 0 0 0 0)), (z 3, aI V 900 f_73)] H ∧ va_D A [(z 0, .inr (10, mo z 0 15 0 0 0 0 0 0 0 0 (-1) 0 0 0 0 0)), (z 3, aI V 900 f_73)] := ⟨_, hP, hD⟩
  refine lv_aload_n hx hb dX10_feed_105 rfl (lv_at hl 2 rfl) ?_
  refine lv_dup hx hb dX10_feed_106 rfl ?_
  refine va_get (ci := 10) (v := .int 15) (C := RX10) (T := TX10) (N := 40) hx hb hg inX10 hown hK hP 0 rfl rfl 5 (by decide) (hg _ q_5_229) (fun _ h9 => h9) rfl dX10_feed_107 ?_
  refine lv_iconst (v := 1) hx hb dX10_feed_110 (by decide) ?_
  refine lv_iadd hx hb dX10_feed_111 ?_
  refine tpi (y := 16) (by decide +kernel) ?_
  refine va_put (ci := 10) (v := .int 16) (ty := .int) (C := RX10) (T := TX10) (N := 40) hx hb hg inX10 tyX10 tyX10_ok nmX10 hown hK hP hD hS 0 rfl rfl 5 (by decide) (hg _ q_5_229) (fun _ h9 => h9) rfl (by decide +kernel) rfl rfl (Nat.le_of_ble_eq_true rfl) dX10_feed_112 (fun H locs hP hD hS => ?_)
  have hP : va_P V.1 vwCl [(z 0, .inr (10, mo z 0 16 0 0 0 0 0 0 0 0 (-1) 0 0 0 0 0)), (z 3, aI V 900 f_73)] H := hP
  have hD : va_D A [(z 0, .inr (10, mo z 0 16 0 0 0 0 0 0 0 0 (-1) 0 0 0 0 0)), (z 3, aI V 900 f_73)] := hD
  refine lv_iinc (v := 16) (lv' := [(6, .int 16), (7, .int p3), (0, .ref (z 0)), (1, .int p0), (2, .int p1), (3, .int p2), (4, .int p3), (5, .int p4)]) hx hb dX10_feed_115 hl (k := 1) rfl (by decide +kernel) (by decide) rfl (fun ls hl => ?_)
  refine lv_goto (tgt := 24) hx hb dX10_feed_118 (by decide) ?_
  refine lv_iload hx hb dX10_feed_24 (lv_at hl 0 rfl) ?_
  refine lv_bipush (v := 20) hx hb dX10_feed_26 (by decide) ?_
  refine lv_icmp_ge (tgt := 121) hx hb dX10_feed_28 (by decide) (fun c_74 => absurd c_74 (by decide)) (fun _ => ?_)
  refine lv_iload hx hb dX10_feed_31 (lv_at hl 0 rfl) ?_
  refine lv_iconst (v := 4) hx hb dX10_feed_33 (by decide) ?_
  refine lv_icmp_ge (tgt := 41) hx hb dX10_feed_34 (by decide) (fun _ => ?_) (fun c_75 => absurd c_75 (by decide))
  refine lv_iload hx hb dX10_feed_41 (lv_at hl 0 rfl) ?_
  refine lv_bipush (v := 8) hx hb dX10_feed_43 (by decide) ?_
  refine lv_icmp_ge (tgt := 52) hx hb dX10_feed_45 (by decide) (fun _ => ?_) (fun c_76 => absurd c_76 (by decide))
  refine lv_iload hx hb dX10_feed_52 (lv_at hl 0 rfl) ?_
  refine lv_bipush (v := 12) hx hb dX10_feed_54 (by decide) ?_
  refine lv_icmp_ge (tgt := 63) hx hb dX10_feed_56 (by decide) (fun _ => ?_) (fun c_77 => absurd c_77 (by decide))
  refine lv_iload hx hb dX10_feed_63 (lv_at hl 0 rfl) ?_
  refine lv_bipush (v := 16) hx hb dX10_feed_65 (by decide) ?_
  refine lv_icmp_ge (tgt := 75) hx hb dX10_feed_67 (by decide) (fun _ => ?_) (fun c_78 => absurd c_78 (by decide))
  refine lv_iload hx hb dX10_feed_75 (lv_at hl 7 rfl) ?_
  refine lv_istore (lv' := [(7, .int p4), (6, .int 16), (0, .ref (z 0)), (1, .int p0), (2, .int p1), (3, .int p2), (4, .int p3), (5, .int p4)]) hx hb dX10_feed_77 hl (by decide) rfl (fun ls hl => ?_)
  refine lv_aload_n hx hb dX10_feed_79 rfl (lv_at hl 2 rfl) ?_
  refine va_get (ci := 10) (v := .ref (z 3)) (C := RX10) (T := TX10) (N := 40) hx hb hg inX10 hown hK hP 0 rfl rfl 3 (by decide) (hg _ q_5_227) (fun _ h9 => h9) rfl dX10_feed_80 ?_
  refine lv_aload_n hx hb dX10_feed_83 rfl (lv_at hl 2 rfl) ?_
  refine va_get (ci := 10) (v := .int 16) (C := RX10) (T := TX10) (N := 40) hx hb hg inX10 hown hK hP 0 rfl rfl 5 (by decide) (hg _ q_5_229) (fun _ h9 => h9) rfl dX10_feed_84 ?_
  refine lv_iload hx hb dX10_feed_87 (lv_at hl 0 rfl) ?_
  refine lv_bipush (v := 24) hx hb dX10_feed_89 (by decide) ?_
  refine lv_bipush (v := 8) hx hb dX10_feed_91 (by decide) ?_
  refine lv_iload hx hb dX10_feed_93 (lv_at hl 1 rfl) ?_
  refine lv_iconst (v := 4) hx hb dX10_feed_95 (by decide) ?_
  refine lv_irem hx hb dX10_feed_96 (by decide) ?_
  refine tpi (y := 0) (by decide +kernel) ?_
  refine lv_imul hx hb dX10_feed_97 ?_
  refine tpi (y := 0) (by decide +kernel) ?_
  refine lv_isub hx hb dX10_feed_98 ?_
  refine tpi (y := 24) (by decide +kernel) ?_
  refine lv_ishr hx hb dX10_feed_99 ?_
  refine lv_sipush (v := 255) hx hb dX10_feed_100 (by decide) ?_
  refine lv_iand hx hb dX10_feed_103 ?_
  refine va_iast hx hb hK hP hD hS 1 0 rfl rfl (vin (by decide +kernel)) dX10_feed_104 (fun H locs hP hD hS => ?_)
  obtain ⟨f_79, hP, hD⟩ : ∃ f_79 : Nat → Int32, va_P V.1 vwCl [(z 0, .inr (10, mo z 0 16 0 0 0 0 0 0 0 0 (-1) 0 0 0 0 0)), (z 3, aI V 900 f_79)] H ∧ va_D A [(z 0, .inr (10, mo z 0 16 0 0 0 0 0 0 0 0 (-1) 0 0 0 0 0)), (z 3, aI V 900 f_79)] := ⟨_, hP, hD⟩
  refine lv_aload_n hx hb dX10_feed_105 rfl (lv_at hl 2 rfl) ?_
  refine lv_dup hx hb dX10_feed_106 rfl ?_
  refine va_get (ci := 10) (v := .int 16) (C := RX10) (T := TX10) (N := 40) hx hb hg inX10 hown hK hP 0 rfl rfl 5 (by decide) (hg _ q_5_229) (fun _ h9 => h9) rfl dX10_feed_107 ?_
  refine lv_iconst (v := 1) hx hb dX10_feed_110 (by decide) ?_
  refine lv_iadd hx hb dX10_feed_111 ?_
  refine tpi (y := 17) (by decide +kernel) ?_
  refine va_put (ci := 10) (v := .int 17) (ty := .int) (C := RX10) (T := TX10) (N := 40) hx hb hg inX10 tyX10 tyX10_ok nmX10 hown hK hP hD hS 0 rfl rfl 5 (by decide) (hg _ q_5_229) (fun _ h9 => h9) rfl (by decide +kernel) rfl rfl (Nat.le_of_ble_eq_true rfl) dX10_feed_112 (fun H locs hP hD hS => ?_)
  have hP : va_P V.1 vwCl [(z 0, .inr (10, mo z 0 17 0 0 0 0 0 0 0 0 (-1) 0 0 0 0 0)), (z 3, aI V 900 f_79)] H := hP
  have hD : va_D A [(z 0, .inr (10, mo z 0 17 0 0 0 0 0 0 0 0 (-1) 0 0 0 0 0)), (z 3, aI V 900 f_79)] := hD
  refine lv_iinc (v := 17) (lv' := [(6, .int 17), (7, .int p4), (0, .ref (z 0)), (1, .int p0), (2, .int p1), (3, .int p2), (4, .int p3), (5, .int p4)]) hx hb dX10_feed_115 hl (k := 1) rfl (by decide +kernel) (by decide) rfl (fun ls hl => ?_)
  refine lv_goto (tgt := 24) hx hb dX10_feed_118 (by decide) ?_
  refine lv_iload hx hb dX10_feed_24 (lv_at hl 0 rfl) ?_
  refine lv_bipush (v := 20) hx hb dX10_feed_26 (by decide) ?_
  refine lv_icmp_ge (tgt := 121) hx hb dX10_feed_28 (by decide) (fun c_80 => absurd c_80 (by decide)) (fun _ => ?_)
  refine lv_iload hx hb dX10_feed_31 (lv_at hl 0 rfl) ?_
  refine lv_iconst (v := 4) hx hb dX10_feed_33 (by decide) ?_
  refine lv_icmp_ge (tgt := 41) hx hb dX10_feed_34 (by decide) (fun _ => ?_) (fun c_81 => absurd c_81 (by decide))
  refine lv_iload hx hb dX10_feed_41 (lv_at hl 0 rfl) ?_
  refine lv_bipush (v := 8) hx hb dX10_feed_43 (by decide) ?_
  refine lv_icmp_ge (tgt := 52) hx hb dX10_feed_45 (by decide) (fun _ => ?_) (fun c_82 => absurd c_82 (by decide))
  refine lv_iload hx hb dX10_feed_52 (lv_at hl 0 rfl) ?_
  refine lv_bipush (v := 12) hx hb dX10_feed_54 (by decide) ?_
  refine lv_icmp_ge (tgt := 63) hx hb dX10_feed_56 (by decide) (fun _ => ?_) (fun c_83 => absurd c_83 (by decide))
  refine lv_iload hx hb dX10_feed_63 (lv_at hl 0 rfl) ?_
  refine lv_bipush (v := 16) hx hb dX10_feed_65 (by decide) ?_
  refine lv_icmp_ge (tgt := 75) hx hb dX10_feed_67 (by decide) (fun _ => ?_) (fun c_84 => absurd c_84 (by decide))
  refine lv_iload hx hb dX10_feed_75 (lv_at hl 7 rfl) ?_
  refine lv_istore (lv' := [(7, .int p4), (6, .int 17), (0, .ref (z 0)), (1, .int p0), (2, .int p1), (3, .int p2), (4, .int p3), (5, .int p4)]) hx hb dX10_feed_77 hl (by decide) rfl (fun ls hl => ?_)
  refine lv_aload_n hx hb dX10_feed_79 rfl (lv_at hl 2 rfl) ?_
  refine va_get (ci := 10) (v := .ref (z 3)) (C := RX10) (T := TX10) (N := 40) hx hb hg inX10 hown hK hP 0 rfl rfl 3 (by decide) (hg _ q_5_227) (fun _ h9 => h9) rfl dX10_feed_80 ?_
  refine lv_aload_n hx hb dX10_feed_83 rfl (lv_at hl 2 rfl) ?_
  refine va_get (ci := 10) (v := .int 17) (C := RX10) (T := TX10) (N := 40) hx hb hg inX10 hown hK hP 0 rfl rfl 5 (by decide) (hg _ q_5_229) (fun _ h9 => h9) rfl dX10_feed_84 ?_
  refine lv_iload hx hb dX10_feed_87 (lv_at hl 0 rfl) ?_
  refine lv_bipush (v := 24) hx hb dX10_feed_89 (by decide) ?_
  refine lv_bipush (v := 8) hx hb dX10_feed_91 (by decide) ?_
  refine lv_iload hx hb dX10_feed_93 (lv_at hl 1 rfl) ?_
  refine lv_iconst (v := 4) hx hb dX10_feed_95 (by decide) ?_
  refine lv_irem hx hb dX10_feed_96 (by decide) ?_
  refine tpi (y := 1) (by decide +kernel) ?_
  refine lv_imul hx hb dX10_feed_97 ?_
  refine tpi (y := 8) (by decide +kernel) ?_
  refine lv_isub hx hb dX10_feed_98 ?_
  refine tpi (y := 16) (by decide +kernel) ?_
  refine lv_ishr hx hb dX10_feed_99 ?_
  refine lv_sipush (v := 255) hx hb dX10_feed_100 (by decide) ?_
  refine lv_iand hx hb dX10_feed_103 ?_
  refine va_iast hx hb hK hP hD hS 1 0 rfl rfl (vin (by decide +kernel)) dX10_feed_104 (fun H locs hP hD hS => ?_)
  obtain ⟨f_85, hP, hD⟩ : ∃ f_85 : Nat → Int32, va_P V.1 vwCl [(z 0, .inr (10, mo z 0 17 0 0 0 0 0 0 0 0 (-1) 0 0 0 0 0)), (z 3, aI V 900 f_85)] H ∧ va_D A [(z 0, .inr (10, mo z 0 17 0 0 0 0 0 0 0 0 (-1) 0 0 0 0 0)), (z 3, aI V 900 f_85)] := ⟨_, hP, hD⟩
  refine lv_aload_n hx hb dX10_feed_105 rfl (lv_at hl 2 rfl) ?_
  refine lv_dup hx hb dX10_feed_106 rfl ?_
  refine va_get (ci := 10) (v := .int 17) (C := RX10) (T := TX10) (N := 40) hx hb hg inX10 hown hK hP 0 rfl rfl 5 (by decide) (hg _ q_5_229) (fun _ h9 => h9) rfl dX10_feed_107 ?_
  refine lv_iconst (v := 1) hx hb dX10_feed_110 (by decide) ?_
  refine lv_iadd hx hb dX10_feed_111 ?_
  refine tpi (y := 18) (by decide +kernel) ?_
  refine va_put (ci := 10) (v := .int 18) (ty := .int) (C := RX10) (T := TX10) (N := 40) hx hb hg inX10 tyX10 tyX10_ok nmX10 hown hK hP hD hS 0 rfl rfl 5 (by decide) (hg _ q_5_229) (fun _ h9 => h9) rfl (by decide +kernel) rfl rfl (Nat.le_of_ble_eq_true rfl) dX10_feed_112 (fun H locs hP hD hS => ?_)
  have hP : va_P V.1 vwCl [(z 0, .inr (10, mo z 0 18 0 0 0 0 0 0 0 0 (-1) 0 0 0 0 0)), (z 3, aI V 900 f_85)] H := hP
  have hD : va_D A [(z 0, .inr (10, mo z 0 18 0 0 0 0 0 0 0 0 (-1) 0 0 0 0 0)), (z 3, aI V 900 f_85)] := hD
  refine lv_iinc (v := 18) (lv' := [(6, .int 18), (7, .int p4), (0, .ref (z 0)), (1, .int p0), (2, .int p1), (3, .int p2), (4, .int p3), (5, .int p4)]) hx hb dX10_feed_115 hl (k := 1) rfl (by decide +kernel) (by decide) rfl (fun ls hl => ?_)
  refine lv_goto (tgt := 24) hx hb dX10_feed_118 (by decide) ?_
  refine lv_iload hx hb dX10_feed_24 (lv_at hl 0 rfl) ?_
  refine lv_bipush (v := 20) hx hb dX10_feed_26 (by decide) ?_
  refine lv_icmp_ge (tgt := 121) hx hb dX10_feed_28 (by decide) (fun c_86 => absurd c_86 (by decide)) (fun _ => ?_)
  refine lv_iload hx hb dX10_feed_31 (lv_at hl 0 rfl) ?_
  refine lv_iconst (v := 4) hx hb dX10_feed_33 (by decide) ?_
  refine lv_icmp_ge (tgt := 41) hx hb dX10_feed_34 (by decide) (fun _ => ?_) (fun c_87 => absurd c_87 (by decide))
  refine lv_iload hx hb dX10_feed_41 (lv_at hl 0 rfl) ?_
  refine lv_bipush (v := 8) hx hb dX10_feed_43 (by decide) ?_
  refine lv_icmp_ge (tgt := 52) hx hb dX10_feed_45 (by decide) (fun _ => ?_) (fun c_88 => absurd c_88 (by decide))
  refine lv_iload hx hb dX10_feed_52 (lv_at hl 0 rfl) ?_
  refine lv_bipush (v := 12) hx hb dX10_feed_54 (by decide) ?_
  refine lv_icmp_ge (tgt := 63) hx hb dX10_feed_56 (by decide) (fun _ => ?_) (fun c_89 => absurd c_89 (by decide))
  refine lv_iload hx hb dX10_feed_63 (lv_at hl 0 rfl) ?_
  refine lv_bipush (v := 16) hx hb dX10_feed_65 (by decide) ?_
  refine lv_icmp_ge (tgt := 75) hx hb dX10_feed_67 (by decide) (fun _ => ?_) (fun c_90 => absurd c_90 (by decide))
  refine lv_iload hx hb dX10_feed_75 (lv_at hl 7 rfl) ?_
  refine lv_istore (lv' := [(7, .int p4), (6, .int 18), (0, .ref (z 0)), (1, .int p0), (2, .int p1), (3, .int p2), (4, .int p3), (5, .int p4)]) hx hb dX10_feed_77 hl (by decide) rfl (fun ls hl => ?_)
  refine lv_aload_n hx hb dX10_feed_79 rfl (lv_at hl 2 rfl) ?_
  refine va_get (ci := 10) (v := .ref (z 3)) (C := RX10) (T := TX10) (N := 40) hx hb hg inX10 hown hK hP 0 rfl rfl 3 (by decide) (hg _ q_5_227) (fun _ h9 => h9) rfl dX10_feed_80 ?_
  refine lv_aload_n hx hb dX10_feed_83 rfl (lv_at hl 2 rfl) ?_
  refine va_get (ci := 10) (v := .int 18) (C := RX10) (T := TX10) (N := 40) hx hb hg inX10 hown hK hP 0 rfl rfl 5 (by decide) (hg _ q_5_229) (fun _ h9 => h9) rfl dX10_feed_84 ?_
  refine lv_iload hx hb dX10_feed_87 (lv_at hl 0 rfl) ?_
  refine lv_bipush (v := 24) hx hb dX10_feed_89 (by decide) ?_
  refine lv_bipush (v := 8) hx hb dX10_feed_91 (by decide) ?_
  refine lv_iload hx hb dX10_feed_93 (lv_at hl 1 rfl) ?_
  refine lv_iconst (v := 4) hx hb dX10_feed_95 (by decide) ?_
  refine lv_irem hx hb dX10_feed_96 (by decide) ?_
  refine tpi (y := 2) (by decide +kernel) ?_
  refine lv_imul hx hb dX10_feed_97 ?_
  refine tpi (y := 16) (by decide +kernel) ?_
  refine lv_isub hx hb dX10_feed_98 ?_
  refine tpi (y := 8) (by decide +kernel) ?_
  refine lv_ishr hx hb dX10_feed_99 ?_
  refine lv_sipush (v := 255) hx hb dX10_feed_100 (by decide) ?_
  refine lv_iand hx hb dX10_feed_103 ?_
  refine va_iast hx hb hK hP hD hS 1 0 rfl rfl (vin (by decide +kernel)) dX10_feed_104 (fun H locs hP hD hS => ?_)
  obtain ⟨f_91, hP, hD⟩ : ∃ f_91 : Nat → Int32, va_P V.1 vwCl [(z 0, .inr (10, mo z 0 18 0 0 0 0 0 0 0 0 (-1) 0 0 0 0 0)), (z 3, aI V 900 f_91)] H ∧ va_D A [(z 0, .inr (10, mo z 0 18 0 0 0 0 0 0 0 0 (-1) 0 0 0 0 0)), (z 3, aI V 900 f_91)] := ⟨_, hP, hD⟩
  refine lv_aload_n hx hb dX10_feed_105 rfl (lv_at hl 2 rfl) ?_
  refine lv_dup hx hb dX10_feed_106 rfl ?_
  refine va_get (ci := 10) (v := .int 18) (C := RX10) (T := TX10) (N := 40) hx hb hg inX10 hown hK hP 0 rfl rfl 5 (by decide) (hg _ q_5_229) (fun _ h9 => h9) rfl dX10_feed_107 ?_
  refine lv_iconst (v := 1) hx hb dX10_feed_110 (by decide) ?_
  refine lv_iadd hx hb dX10_feed_111 ?_
  refine tpi (y := 19) (by decide +kernel) ?_
  refine va_put (ci := 10) (v := .int 19) (ty := .int) (C := RX10) (T := TX10) (N := 40) hx hb hg inX10 tyX10 tyX10_ok nmX10 hown hK hP hD hS 0 rfl rfl 5 (by decide) (hg _ q_5_229) (fun _ h9 => h9) rfl (by decide +kernel) rfl rfl (Nat.le_of_ble_eq_true rfl) dX10_feed_112 (fun H locs hP hD hS => ?_)
  have hP : va_P V.1 vwCl [(z 0, .inr (10, mo z 0 19 0 0 0 0 0 0 0 0 (-1) 0 0 0 0 0)), (z 3, aI V 900 f_91)] H := hP
  have hD : va_D A [(z 0, .inr (10, mo z 0 19 0 0 0 0 0 0 0 0 (-1) 0 0 0 0 0)), (z 3, aI V 900 f_91)] := hD
  refine lv_iinc (v := 19) (lv' := [(6, .int 19), (7, .int p4), (0, .ref (z 0)), (1, .int p0), (2, .int p1), (3, .int p2), (4, .int p3), (5, .int p4)]) hx hb dX10_feed_115 hl (k := 1) rfl (by decide +kernel) (by decide) rfl (fun ls hl => ?_)
  refine lv_goto (tgt := 24) hx hb dX10_feed_118 (by decide) ?_
  refine lv_iload hx hb dX10_feed_24 (lv_at hl 0 rfl) ?_
  refine lv_bipush (v := 20) hx hb dX10_feed_26 (by decide) ?_
  refine lv_icmp_ge (tgt := 121) hx hb dX10_feed_28 (by decide) (fun c_92 => absurd c_92 (by decide)) (fun _ => ?_)
  refine lv_iload hx hb dX10_feed_31 (lv_at hl 0 rfl) ?_
  refine lv_iconst (v := 4) hx hb dX10_feed_33 (by decide) ?_
  refine lv_icmp_ge (tgt := 41) hx hb dX10_feed_34 (by decide) (fun _ => ?_) (fun c_93 => absurd c_93 (by decide))
  refine lv_iload hx hb dX10_feed_41 (lv_at hl 0 rfl) ?_
  refine lv_bipush (v := 8) hx hb dX10_feed_43 (by decide) ?_
  refine lv_icmp_ge (tgt := 52) hx hb dX10_feed_45 (by decide) (fun _ => ?_) (fun c_94 => absurd c_94 (by decide))
  refine lv_iload hx hb dX10_feed_52 (lv_at hl 0 rfl) ?_
  refine lv_bipush (v := 12) hx hb dX10_feed_54 (by decide) ?_
  refine lv_icmp_ge (tgt := 63) hx hb dX10_feed_56 (by decide) (fun _ => ?_) (fun c_95 => absurd c_95 (by decide))
  refine lv_iload hx hb dX10_feed_63 (lv_at hl 0 rfl) ?_
  refine lv_bipush (v := 16) hx hb dX10_feed_65 (by decide) ?_
  refine lv_icmp_ge (tgt := 75) hx hb dX10_feed_67 (by decide) (fun _ => ?_) (fun c_96 => absurd c_96 (by decide))
  refine lv_iload hx hb dX10_feed_75 (lv_at hl 7 rfl) ?_
  refine lv_istore (lv' := [(7, .int p4), (6, .int 19), (0, .ref (z 0)), (1, .int p0), (2, .int p1), (3, .int p2), (4, .int p3), (5, .int p4)]) hx hb dX10_feed_77 hl (by decide) rfl (fun ls hl => ?_)
  refine lv_aload_n hx hb dX10_feed_79 rfl (lv_at hl 2 rfl) ?_
  refine va_get (ci := 10) (v := .ref (z 3)) (C := RX10) (T := TX10) (N := 40) hx hb hg inX10 hown hK hP 0 rfl rfl 3 (by decide) (hg _ q_5_227) (fun _ h9 => h9) rfl dX10_feed_80 ?_
  refine lv_aload_n hx hb dX10_feed_83 rfl (lv_at hl 2 rfl) ?_
  refine va_get (ci := 10) (v := .int 19) (C := RX10) (T := TX10) (N := 40) hx hb hg inX10 hown hK hP 0 rfl rfl 5 (by decide) (hg _ q_5_229) (fun _ h9 => h9) rfl dX10_feed_84 ?_
  refine lv_iload hx hb dX10_feed_87 (lv_at hl 0 rfl) ?_
  refine lv_bipush (v := 24) hx hb dX10_feed_89 (by decide) ?_
  refine lv_bipush (v := 8) hx hb dX10_feed_91 (by decide) ?_
  refine lv_iload hx hb dX10_feed_93 (lv_at hl 1 rfl) ?_
  refine lv_iconst (v := 4) hx hb dX10_feed_95 (by decide) ?_
  refine lv_irem hx hb dX10_feed_96 (by decide) ?_
  refine tpi (y := 3) (by decide +kernel) ?_
  refine lv_imul hx hb dX10_feed_97 ?_
  refine tpi (y := 24) (by decide +kernel) ?_
  refine lv_isub hx hb dX10_feed_98 ?_
  refine tpi (y := 0) (by decide +kernel) ?_
  refine lv_ishr hx hb dX10_feed_99 ?_
  refine lv_sipush (v := 255) hx hb dX10_feed_100 (by decide) ?_
  refine lv_iand hx hb dX10_feed_103 ?_
  refine va_iast hx hb hK hP hD hS 1 0 rfl rfl (vin (by decide +kernel)) dX10_feed_104 (fun H locs hP hD hS => ?_)
  obtain ⟨f_97, hP, hD⟩ : ∃ f_97 : Nat → Int32, va_P V.1 vwCl [(z 0, .inr (10, mo z 0 19 0 0 0 0 0 0 0 0 (-1) 0 0 0 0 0)), (z 3, aI V 900 f_97)] H ∧ va_D A [(z 0, .inr (10, mo z 0 19 0 0 0 0 0 0 0 0 (-1) 0 0 0 0 0)), (z 3, aI V 900 f_97)] := ⟨_, hP, hD⟩
  refine lv_aload_n hx hb dX10_feed_105 rfl (lv_at hl 2 rfl) ?_
  refine lv_dup hx hb dX10_feed_106 rfl ?_
  refine va_get (ci := 10) (v := .int 19) (C := RX10) (T := TX10) (N := 40) hx hb hg inX10 hown hK hP 0 rfl rfl 5 (by decide) (hg _ q_5_229) (fun _ h9 => h9) rfl dX10_feed_107 ?_
  refine lv_iconst (v := 1) hx hb dX10_feed_110 (by decide) ?_
  refine lv_iadd hx hb dX10_feed_111 ?_
  refine tpi (y := 20) (by decide +kernel) ?_
  refine va_put (ci := 10) (v := .int 20) (ty := .int) (C := RX10) (T := TX10) (N := 40) hx hb hg inX10 tyX10 tyX10_ok nmX10 hown hK hP hD hS 0 rfl rfl 5 (by decide) (hg _ q_5_229) (fun _ h9 => h9) rfl (by decide +kernel) rfl rfl (Nat.le_of_ble_eq_true rfl) dX10_feed_112 (fun H locs hP hD hS => ?_)
  have hP : va_P V.1 vwCl [(z 0, .inr (10, mo z 0 20 0 0 0 0 0 0 0 0 (-1) 0 0 0 0 0)), (z 3, aI V 900 f_97)] H := hP
  have hD : va_D A [(z 0, .inr (10, mo z 0 20 0 0 0 0 0 0 0 0 (-1) 0 0 0 0 0)), (z 3, aI V 900 f_97)] := hD
  refine lv_iinc (v := 20) (lv' := [(6, .int 20), (7, .int p4), (0, .ref (z 0)), (1, .int p0), (2, .int p1), (3, .int p2), (4, .int p3), (5, .int p4)]) hx hb dX10_feed_115 hl (k := 1) rfl (by decide +kernel) (by decide) rfl (fun ls hl => ?_)
  refine lv_goto (tgt := 24) hx hb dX10_feed_118 (by decide) ?_
  refine lv_iload hx hb dX10_feed_24 (lv_at hl 0 rfl) ?_
  refine lv_bipush (v := 20) hx hb dX10_feed_26 (by decide) ?_
  refine lv_icmp_ge (tgt := 121) hx hb dX10_feed_28 (by decide) (fun _ => ?_) (fun c_98 => absurd c_98 (by decide))
  refine lv_aload_n hx hb dX10_feed_121 rfl (lv_at hl 2 rfl) ?_
  refine va_get (ci := 10) (v := .int 20) (C := RX10) (T := TX10) (N := 40) hx hb hg inX10 hown hK hP 0 rfl rfl 5 (by decide) (hg _ q_5_229) (fun _ h9 => h9) rfl dX10_feed_122 ?_
  exact fiI hx hb hr hlk hK hP hD hS dX10_feed_125 (Nat.le_of_ble_eq_true rfl) (Nat.le_of_ble_eq_true rfl) (⟨f_4, f_7, f_10, f_13, f_17, f_21, f_25, f_29, f_34, f_39, f_44, f_49, f_55, f_61, f_67, f_73, f_79, f_85, f_91, f_97, rfl, rfl⟩)
theorem dX9_putOnTape_0 : decode cX9_putOnTape 0 = .ok (.bipush 24, 2) := by decide +kernel
theorem dX9_putOnTape_2 : decode cX9_putOnTape 2 = .ok (.istore_n 2, 1) := by decide +kernel
theorem dX9_putOnTape_3 : decode cX9_putOnTape 3 = .ok (.iload_n 2, 1) := by decide +kernel
theorem dX9_putOnTape_4 : decode cX9_putOnTape 4 = .ok (.ifCond .lt 32, 3) := by decide +kernel
theorem dX9_putOnTape_7 : decode cX9_putOnTape 7 = .ok (.aload_n 0, 1) := by decide +kernel
theorem dX9_putOnTape_8 : decode cX9_putOnTape 8 = .ok (.getfield 9, 3) := by decide +kernel
theorem dX9_putOnTape_11 : decode cX9_putOnTape 11 = .ok (.aload_n 0, 1) := by decide +kernel
theorem q_2_37 : Cond.fieldLink "BeaconDelay" 70 "BeaconDelay" "tapeLength" "I" ∈ gw := gw_2 (i := 37) (by decide +kernel) rfl
theorem dX9_putOnTape_12 : decode cX9_putOnTape 12 = .ok (.getfield 70, 3) := by decide +kernel
theorem dX9_putOnTape_15 : decode cX9_putOnTape 15 = .ok (.iload_n 1, 1) := by decide +kernel
theorem dX9_putOnTape_16 : decode cX9_putOnTape 16 = .ok (.iload_n 2, 1) := by decide +kernel
theorem dX9_putOnTape_17 : decode cX9_putOnTape 17 = .ok (.iushr, 1) := by decide +kernel
theorem dX9_putOnTape_18 : decode cX9_putOnTape 18 = .ok (.i2b, 1) := by decide +kernel
theorem dX9_putOnTape_19 : decode cX9_putOnTape 19 = .ok (.bastore, 1) := by decide +kernel
theorem dX9_putOnTape_20 : decode cX9_putOnTape 20 = .ok (.aload_n 0, 1) := by decide +kernel
theorem dX9_putOnTape_21 : decode cX9_putOnTape 21 = .ok (.dup, 1) := by decide +kernel
theorem dX9_putOnTape_22 : decode cX9_putOnTape 22 = .ok (.getfield 70, 3) := by decide +kernel
theorem dX9_putOnTape_25 : decode cX9_putOnTape 25 = .ok (.iconst 1, 1) := by decide +kernel
theorem dX9_putOnTape_26 : decode cX9_putOnTape 26 = .ok (.iadd, 1) := by decide +kernel
theorem dX9_putOnTape_27 : decode cX9_putOnTape 27 = .ok (.putfield 70, 3) := by decide +kernel
theorem dX9_putOnTape_30 : decode cX9_putOnTape 30 = .ok (.iinc 2 (-8), 3) := by decide +kernel
theorem dX9_putOnTape_33 : decode cX9_putOnTape 33 = .ok (.goto (-30), 3) := by decide +kernel
theorem dX9_putOnTape_36 : decode cX9_putOnTape 36 = .ok (.return_, 1) := by decide +kernel
set_option maxHeartbeats 4000000 in
set_option maxRecDepth 100000 in
theorem c_X9_putOnTape_0 (l : Launch) (V : GV) (y : Nat → Nat) (p0 : Int32) : Ct l V yX9_putOnTape (.code yX9_putOnTape cX9_putOnTape 3 none) 1 [.ref (y 0), .int p0] [(y 0, .inr (9, [.ref (y 1), .int 0, .ref (y 2), .ref (y 10), .ref (y 19), .ref (y 25), .ref (y 26), .ref (y 30), .ref (y 31), .ref (y 32), .null, .null, .int 0, .int 0, .int 0])), (y 1, aB V 900 (fun _ => 0))] 0 0 (QV V (fun (w : va_W) => (∃ (f_2 : Nat → Int32) (f_4 : Nat → Int32) (f_6 : Nat → Int32) (f_8 : Nat → Int32), w = [(y 0, .inr (9, [.ref (y 1), .int 4, .ref (y 2), .ref (y 10), .ref (y 19), .ref (y 25), .ref (y 26), .ref (y 30), .ref (y 31), .ref (y 32), .null, .null, .int 0, .int 0, .int 0])), (y 1, aB V 900 f_8)]))) := by
  refine Ct.of (by decide) (Nat.le_of_ble_eq_true rfl) (fun p e s m below meth c A ls hx hb hr hml hown hlk hnm hg hP hK hD hE hA hS hl => ?_)
  have hl : lv_has ls 3 [(0, .ref (y 0)), (1, .int p0)] := hl
  refine lv_bipush (v := 24) hx hb dX9_putOnTape_0 (by decide) ?_
  refine lv_istore_n (lv' := [(2, .int 24), (0, .ref (y 0)), (1, .int p0)]) hx hb dX9_putOnTape_2 rfl hl (by decide) rfl (fun ls hl => ?_)
  refine lv_iload_n hx hb dX9_putOnTape_3 rfl (lv_at hl 0 rfl) ?_
  refine lv_if_lt (tgt := 36) hx hb dX9_putOnTape_4 (by decide) (fun c_1 => absurd c_1 (by decide)) (fun _ => ?_)
  refine lv_aload_n hx hb dX9_putOnTape_7 rfl (lv_at hl 1 rfl) ?_
  refine va_get (ci := 9) (v := .ref (y 1)) (C := RX9) (T := TX9) (N := 15) hx hb hg inX9 hown hK hP 0 rfl rfl 0 (by decide) (hg _ q_2_36) (fun _ h9 => h9) rfl dX9_putOnTape_8 ?_
  refine lv_aload_n hx hb dX9_putOnTape_11 rfl (lv_at hl 1 rfl) ?_
  refine va_get (ci := 9) (v := .int 0) (C := RX9) (T := TX9) (N := 15) hx hb hg inX9 hown hK hP 0 rfl rfl 1 (by decide) (hg _ q_2_37) (fun _ h9 => h9) rfl dX9_putOnTape_12 ?_
  refine lv_iload_n hx hb dX9_putOnTape_15 rfl (lv_at hl 2 rfl) ?_
  refine lv_iload_n hx hb dX9_putOnTape_16 rfl (lv_at hl 0 rfl) ?_
  refine lv_iushr (v := ((p0.toUInt32 >>> ((24 : Int32).toUInt32 &&& Int32.toUInt32 31)).toInt32)) hx hb dX9_putOnTape_17 rfl ?_
  refine lv_i2b (v := (((p0.toUInt32 >>> ((24 : Int32).toUInt32 &&& Int32.toUInt32 31)).toInt32).toInt8.toInt32)) hx hb dX9_putOnTape_18 rfl ?_
  refine va_bast hx hb hK hP hD hS 1 1 rfl rfl (vin (by decide +kernel)) dX9_putOnTape_19 (fun H locs hP hD hS => ?_)
  obtain ⟨f_2, hP, hD⟩ : ∃ f_2 : Nat → Int32, va_P V.1 vwCl [(y 0, .inr (9, [.ref (y 1), .int 0, .ref (y 2), .ref (y 10), .ref (y 19), .ref (y 25), .ref (y 26), .ref (y 30), .ref (y 31), .ref (y 32), .null, .null, .int 0, .int 0, .int 0])), (y 1, aB V 900 f_2)] H ∧ va_D A [(y 0, .inr (9, [.ref (y 1), .int 0, .ref (y 2), .ref (y 10), .ref (y 19), .ref (y 25), .ref (y 26), .ref (y 30), .ref (y 31), .ref (y 32), .null, .null, .int 0, .int 0, .int 0])), (y 1, aB V 900 f_2)] := ⟨_, hP, hD⟩
  refine lv_aload_n hx hb dX9_putOnTape_20 rfl (lv_at hl 1 rfl) ?_
  refine lv_dup hx hb dX9_putOnTape_21 rfl ?_
  refine va_get (ci := 9) (v := .int 0) (C := RX9) (T := TX9) (N := 15) hx hb hg inX9 hown hK hP 0 rfl rfl 1 (by decide) (hg _ q_2_37) (fun _ h9 => h9) rfl dX9_putOnTape_22 ?_
  refine lv_iconst (v := 1) hx hb dX9_putOnTape_25 (by decide) ?_
  refine lv_iadd hx hb dX9_putOnTape_26 ?_
  refine tpi (y := 1) (by decide +kernel) ?_
  refine va_put (ci := 9) (v := .int 1) (ty := .int) (C := RX9) (T := TX9) (N := 15) hx hb hg inX9 tyX9 tyX9_ok nmX9 hown hK hP hD hS 0 rfl rfl 1 (by decide) (hg _ q_2_37) (fun _ h9 => h9) rfl (by decide +kernel) rfl rfl (Nat.le_of_ble_eq_true rfl) dX9_putOnTape_27 (fun H locs hP hD hS => ?_)
  have hP : va_P V.1 vwCl [(y 0, .inr (9, [.ref (y 1), .int 1, .ref (y 2), .ref (y 10), .ref (y 19), .ref (y 25), .ref (y 26), .ref (y 30), .ref (y 31), .ref (y 32), .null, .null, .int 0, .int 0, .int 0])), (y 1, aB V 900 f_2)] H := hP
  have hD : va_D A [(y 0, .inr (9, [.ref (y 1), .int 1, .ref (y 2), .ref (y 10), .ref (y 19), .ref (y 25), .ref (y 26), .ref (y 30), .ref (y 31), .ref (y 32), .null, .null, .int 0, .int 0, .int 0])), (y 1, aB V 900 f_2)] := hD
  refine lv_iinc (v := 16) (lv' := [(2, .int 16), (0, .ref (y 0)), (1, .int p0)]) hx hb dX9_putOnTape_30 hl (k := 0) rfl (by decide +kernel) (by decide) rfl (fun ls hl => ?_)
  refine lv_goto (tgt := 3) hx hb dX9_putOnTape_33 (by decide) ?_
  refine lv_iload_n hx hb dX9_putOnTape_3 rfl (lv_at hl 0 rfl) ?_
  refine lv_if_lt (tgt := 36) hx hb dX9_putOnTape_4 (by decide) (fun c_3 => absurd c_3 (by decide)) (fun _ => ?_)
  refine lv_aload_n hx hb dX9_putOnTape_7 rfl (lv_at hl 1 rfl) ?_
  refine va_get (ci := 9) (v := .ref (y 1)) (C := RX9) (T := TX9) (N := 15) hx hb hg inX9 hown hK hP 0 rfl rfl 0 (by decide) (hg _ q_2_36) (fun _ h9 => h9) rfl dX9_putOnTape_8 ?_
  refine lv_aload_n hx hb dX9_putOnTape_11 rfl (lv_at hl 1 rfl) ?_
  refine va_get (ci := 9) (v := .int 1) (C := RX9) (T := TX9) (N := 15) hx hb hg inX9 hown hK hP 0 rfl rfl 1 (by decide) (hg _ q_2_37) (fun _ h9 => h9) rfl dX9_putOnTape_12 ?_
  refine lv_iload_n hx hb dX9_putOnTape_15 rfl (lv_at hl 2 rfl) ?_
  refine lv_iload_n hx hb dX9_putOnTape_16 rfl (lv_at hl 0 rfl) ?_
  refine lv_iushr (v := ((p0.toUInt32 >>> ((16 : Int32).toUInt32 &&& Int32.toUInt32 31)).toInt32)) hx hb dX9_putOnTape_17 rfl ?_
  refine lv_i2b (v := (((p0.toUInt32 >>> ((16 : Int32).toUInt32 &&& Int32.toUInt32 31)).toInt32).toInt8.toInt32)) hx hb dX9_putOnTape_18 rfl ?_
  refine va_bast hx hb hK hP hD hS 1 1 rfl rfl (vin (by decide +kernel)) dX9_putOnTape_19 (fun H locs hP hD hS => ?_)
  obtain ⟨f_4, hP, hD⟩ : ∃ f_4 : Nat → Int32, va_P V.1 vwCl [(y 0, .inr (9, [.ref (y 1), .int 1, .ref (y 2), .ref (y 10), .ref (y 19), .ref (y 25), .ref (y 26), .ref (y 30), .ref (y 31), .ref (y 32), .null, .null, .int 0, .int 0, .int 0])), (y 1, aB V 900 f_4)] H ∧ va_D A [(y 0, .inr (9, [.ref (y 1), .int 1, .ref (y 2), .ref (y 10), .ref (y 19), .ref (y 25), .ref (y 26), .ref (y 30), .ref (y 31), .ref (y 32), .null, .null, .int 0, .int 0, .int 0])), (y 1, aB V 900 f_4)] := ⟨_, hP, hD⟩
  refine lv_aload_n hx hb dX9_putOnTape_20 rfl (lv_at hl 1 rfl) ?_
  refine lv_dup hx hb dX9_putOnTape_21 rfl ?_
  refine va_get (ci := 9) (v := .int 1) (C := RX9) (T := TX9) (N := 15) hx hb hg inX9 hown hK hP 0 rfl rfl 1 (by decide) (hg _ q_2_37) (fun _ h9 => h9) rfl dX9_putOnTape_22 ?_
  refine lv_iconst (v := 1) hx hb dX9_putOnTape_25 (by decide) ?_
  refine lv_iadd hx hb dX9_putOnTape_26 ?_
  refine tpi (y := 2) (by decide +kernel) ?_
  refine va_put (ci := 9) (v := .int 2) (ty := .int) (C := RX9) (T := TX9) (N := 15) hx hb hg inX9 tyX9 tyX9_ok nmX9 hown hK hP hD hS 0 rfl rfl 1 (by decide) (hg _ q_2_37) (fun _ h9 => h9) rfl (by decide +kernel) rfl rfl (Nat.le_of_ble_eq_true rfl) dX9_putOnTape_27 (fun H locs hP hD hS => ?_)
  have hP : va_P V.1 vwCl [(y 0, .inr (9, [.ref (y 1), .int 2, .ref (y 2), .ref (y 10), .ref (y 19), .ref (y 25), .ref (y 26), .ref (y 30), .ref (y 31), .ref (y 32), .null, .null, .int 0, .int 0, .int 0])), (y 1, aB V 900 f_4)] H := hP
  have hD : va_D A [(y 0, .inr (9, [.ref (y 1), .int 2, .ref (y 2), .ref (y 10), .ref (y 19), .ref (y 25), .ref (y 26), .ref (y 30), .ref (y 31), .ref (y 32), .null, .null, .int 0, .int 0, .int 0])), (y 1, aB V 900 f_4)] := hD
  refine lv_iinc (v := 8) (lv' := [(2, .int 8), (0, .ref (y 0)), (1, .int p0)]) hx hb dX9_putOnTape_30 hl (k := 0) rfl (by decide +kernel) (by decide) rfl (fun ls hl => ?_)
  refine lv_goto (tgt := 3) hx hb dX9_putOnTape_33 (by decide) ?_
  refine lv_iload_n hx hb dX9_putOnTape_3 rfl (lv_at hl 0 rfl) ?_
  refine lv_if_lt (tgt := 36) hx hb dX9_putOnTape_4 (by decide) (fun c_5 => absurd c_5 (by decide)) (fun _ => ?_)
  refine lv_aload_n hx hb dX9_putOnTape_7 rfl (lv_at hl 1 rfl) ?_
  refine va_get (ci := 9) (v := .ref (y 1)) (C := RX9) (T := TX9) (N := 15) hx hb hg inX9 hown hK hP 0 rfl rfl 0 (by decide) (hg _ q_2_36) (fun _ h9 => h9) rfl dX9_putOnTape_8 ?_
  refine lv_aload_n hx hb dX9_putOnTape_11 rfl (lv_at hl 1 rfl) ?_
  refine va_get (ci := 9) (v := .int 2) (C := RX9) (T := TX9) (N := 15) hx hb hg inX9 hown hK hP 0 rfl rfl 1 (by decide) (hg _ q_2_37) (fun _ h9 => h9) rfl dX9_putOnTape_12 ?_
  refine lv_iload_n hx hb dX9_putOnTape_15 rfl (lv_at hl 2 rfl) ?_
  refine lv_iload_n hx hb dX9_putOnTape_16 rfl (lv_at hl 0 rfl) ?_
  refine lv_iushr (v := ((p0.toUInt32 >>> ((8 : Int32).toUInt32 &&& Int32.toUInt32 31)).toInt32)) hx hb dX9_putOnTape_17 rfl ?_
  refine lv_i2b (v := (((p0.toUInt32 >>> ((8 : Int32).toUInt32 &&& Int32.toUInt32 31)).toInt32).toInt8.toInt32)) hx hb dX9_putOnTape_18 rfl ?_
  refine va_bast hx hb hK hP hD hS 1 1 rfl rfl (vin (by decide +kernel)) dX9_putOnTape_19 (fun H locs hP hD hS => ?_)
  obtain ⟨f_6, hP, hD⟩ : ∃ f_6 : Nat → Int32, va_P V.1 vwCl [(y 0, .inr (9, [.ref (y 1), .int 2, .ref (y 2), .ref (y 10), .ref (y 19), .ref (y 25), .ref (y 26), .ref (y 30), .ref (y 31), .ref (y 32), .null, .null, .int 0, .int 0, .int 0])), (y 1, aB V 900 f_6)] H ∧ va_D A [(y 0, .inr (9, [.ref (y 1), .int 2, .ref (y 2), .ref (y 10), .ref (y 19), .ref (y 25), .ref (y 26), .ref (y 30), .ref (y 31), .ref (y 32), .null, .null, .int 0, .int 0, .int 0])), (y 1, aB V 900 f_6)] := ⟨_, hP, hD⟩
  refine lv_aload_n hx hb dX9_putOnTape_20 rfl (lv_at hl 1 rfl) ?_
  refine lv_dup hx hb dX9_putOnTape_21 rfl ?_
  refine va_get (ci := 9) (v := .int 2) (C := RX9) (T := TX9) (N := 15) hx hb hg inX9 hown hK hP 0 rfl rfl 1 (by decide) (hg _ q_2_37) (fun _ h9 => h9) rfl dX9_putOnTape_22 ?_
  refine lv_iconst (v := 1) hx hb dX9_putOnTape_25 (by decide) ?_
  refine lv_iadd hx hb dX9_putOnTape_26 ?_
  refine tpi (y := 3) (by decide +kernel) ?_
  refine va_put (ci := 9) (v := .int 3) (ty := .int) (C := RX9) (T := TX9) (N := 15) hx hb hg inX9 tyX9 tyX9_ok nmX9 hown hK hP hD hS 0 rfl rfl 1 (by decide) (hg _ q_2_37) (fun _ h9 => h9) rfl (by decide +kernel) rfl rfl (Nat.le_of_ble_eq_true rfl) dX9_putOnTape_27 (fun H locs hP hD hS => ?_)
  have hP : va_P V.1 vwCl [(y 0, .inr (9, [.ref (y 1), .int 3, .ref (y 2), .ref (y 10), .ref (y 19), .ref (y 25), .ref (y 26), .ref (y 30), .ref (y 31), .ref (y 32), .null, .null, .int 0, .int 0, .int 0])), (y 1, aB V 900 f_6)] H := hP
  have hD : va_D A [(y 0, .inr (9, [.ref (y 1), .int 3, .ref (y 2), .ref (y 10), .ref (y 19), .ref (y 25), .ref (y 26), .ref (y 30), .ref (y 31), .ref (y 32), .null, .null, .int 0, .int 0, .int 0])), (y 1, aB V 900 f_6)] := hD
  refine lv_iinc (v := 0) (lv' := [(2, .int 0), (0, .ref (y 0)), (1, .int p0)]) hx hb dX9_putOnTape_30 hl (k := 0) rfl (by decide +kernel) (by decide) rfl (fun ls hl => ?_)
  refine lv_goto (tgt := 3) hx hb dX9_putOnTape_33 (by decide) ?_
  refine lv_iload_n hx hb dX9_putOnTape_3 rfl (lv_at hl 0 rfl) ?_
  refine lv_if_lt (tgt := 36) hx hb dX9_putOnTape_4 (by decide) (fun c_7 => absurd c_7 (by decide)) (fun _ => ?_)
  refine lv_aload_n hx hb dX9_putOnTape_7 rfl (lv_at hl 1 rfl) ?_
  refine va_get (ci := 9) (v := .ref (y 1)) (C := RX9) (T := TX9) (N := 15) hx hb hg inX9 hown hK hP 0 rfl rfl 0 (by decide) (hg _ q_2_36) (fun _ h9 => h9) rfl dX9_putOnTape_8 ?_
  refine lv_aload_n hx hb dX9_putOnTape_11 rfl (lv_at hl 1 rfl) ?_
  refine va_get (ci := 9) (v := .int 3) (C := RX9) (T := TX9) (N := 15) hx hb hg inX9 hown hK hP 0 rfl rfl 1 (by decide) (hg _ q_2_37) (fun _ h9 => h9) rfl dX9_putOnTape_12 ?_
  refine lv_iload_n hx hb dX9_putOnTape_15 rfl (lv_at hl 2 rfl) ?_
  refine lv_iload_n hx hb dX9_putOnTape_16 rfl (lv_at hl 0 rfl) ?_
  refine lv_iushr (v := ((p0.toUInt32 >>> ((0 : Int32).toUInt32 &&& Int32.toUInt32 31)).toInt32)) hx hb dX9_putOnTape_17 rfl ?_
  refine lv_i2b (v := (((p0.toUInt32 >>> ((0 : Int32).toUInt32 &&& Int32.toUInt32 31)).toInt32).toInt8.toInt32)) hx hb dX9_putOnTape_18 rfl ?_
  refine va_bast hx hb hK hP hD hS 1 1 rfl rfl (vin (by decide +kernel)) dX9_putOnTape_19 (fun H locs hP hD hS => ?_)
  obtain ⟨f_8, hP, hD⟩ : ∃ f_8 : Nat → Int32, va_P V.1 vwCl [(y 0, .inr (9, [.ref (y 1), .int 3, .ref (y 2), .ref (y 10), .ref (y 19), .ref (y 25), .ref (y 26), .ref (y 30), .ref (y 31), .ref (y 32), .null, .null, .int 0, .int 0, .int 0])), (y 1, aB V 900 f_8)] H ∧ va_D A [(y 0, .inr (9, [.ref (y 1), .int 3, .ref (y 2), .ref (y 10), .ref (y 19), .ref (y 25), .ref (y 26), .ref (y 30), .ref (y 31), .ref (y 32), .null, .null, .int 0, .int 0, .int 0])), (y 1, aB V 900 f_8)] := ⟨_, hP, hD⟩
  refine lv_aload_n hx hb dX9_putOnTape_20 rfl (lv_at hl 1 rfl) ?_
  refine lv_dup hx hb dX9_putOnTape_21 rfl ?_
  refine va_get (ci := 9) (v := .int 3) (C := RX9) (T := TX9) (N := 15) hx hb hg inX9 hown hK hP 0 rfl rfl 1 (by decide) (hg _ q_2_37) (fun _ h9 => h9) rfl dX9_putOnTape_22 ?_
  refine lv_iconst (v := 1) hx hb dX9_putOnTape_25 (by decide) ?_
  refine lv_iadd hx hb dX9_putOnTape_26 ?_
  refine tpi (y := 4) (by decide +kernel) ?_
  refine va_put (ci := 9) (v := .int 4) (ty := .int) (C := RX9) (T := TX9) (N := 15) hx hb hg inX9 tyX9 tyX9_ok nmX9 hown hK hP hD hS 0 rfl rfl 1 (by decide) (hg _ q_2_37) (fun _ h9 => h9) rfl (by decide +kernel) rfl rfl (Nat.le_of_ble_eq_true rfl) dX9_putOnTape_27 (fun H locs hP hD hS => ?_)
  have hP : va_P V.1 vwCl [(y 0, .inr (9, [.ref (y 1), .int 4, .ref (y 2), .ref (y 10), .ref (y 19), .ref (y 25), .ref (y 26), .ref (y 30), .ref (y 31), .ref (y 32), .null, .null, .int 0, .int 0, .int 0])), (y 1, aB V 900 f_8)] H := hP
  have hD : va_D A [(y 0, .inr (9, [.ref (y 1), .int 4, .ref (y 2), .ref (y 10), .ref (y 19), .ref (y 25), .ref (y 26), .ref (y 30), .ref (y 31), .ref (y 32), .null, .null, .int 0, .int 0, .int 0])), (y 1, aB V 900 f_8)] := hD
  refine lv_iinc (v := (-8)) (lv' := [(2, .int (-8)), (0, .ref (y 0)), (1, .int p0)]) hx hb dX9_putOnTape_30 hl (k := 0) rfl (by decide +kernel) (by decide) rfl (fun ls hl => ?_)
  refine lv_goto (tgt := 3) hx hb dX9_putOnTape_33 (by decide) ?_
  refine lv_iload_n hx hb dX9_putOnTape_3 rfl (lv_at hl 0 rfl) ?_
  refine lv_if_lt (tgt := 36) hx hb dX9_putOnTape_4 (by decide) (fun _ => ?_) (fun c_9 => absurd c_9 (by decide))
  exact fiV hx hb hr hlk hK hP hD hS dX9_putOnTape_36 (Nat.le_of_ble_eq_true rfl) (Nat.le_of_ble_eq_true rfl) (⟨f_2, f_4, f_6, f_8, rfl⟩)
set_option maxHeartbeats 4000000 in
set_option maxRecDepth 100000 in
theorem c_X9_putOnTape_1 (l : Launch) (V : GV) (y : Nat → Nat) (p0 : Int32) (f1 : Nat → Int32) : Ct l V yX9_putOnTape (.code yX9_putOnTape cX9_putOnTape 3 none) 1 [.ref (y 0), .int p0] [(y 0, .inr (9, [.ref (y 1), .int 4, .ref (y 2), .ref (y 10), .ref (y 19), .ref (y 25), .ref (y 26), .ref (y 30), .ref (y 31), .ref (y 32), .null, .null, .int 0, .int 0, .int 0])), (y 1, aB V 900 f1)] 0 0 (QV V (fun (w : va_W) => (∃ (f_2 : Nat → Int32) (f_4 : Nat → Int32) (f_6 : Nat → Int32) (f_8 : Nat → Int32), w = [(y 0, .inr (9, [.ref (y 1), .int 8, .ref (y 2), .ref (y 10), .ref (y 19), .ref (y 25), .ref (y 26), .ref (y 30), .ref (y 31), .ref (y 32), .null, .null, .int 0, .int 0, .int 0])), (y 1, aB V 900 f_8)]))) := by
  refine Ct.of (by decide) (Nat.le_of_ble_eq_true rfl) (fun p e s m below meth c A ls hx hb hr hml hown hlk hnm hg hP hK hD hE hA hS hl => ?_)
  have hl : lv_has ls 3 [(0, .ref (y 0)), (1, .int p0)] := hl
  refine lv_bipush (v := 24) hx hb dX9_putOnTape_0 (by decide) ?_
  refine lv_istore_n (lv' := [(2, .int 24), (0, .ref (y 0)), (1, .int p0)]) hx hb dX9_putOnTape_2 rfl hl (by decide) rfl (fun ls hl => ?_)
  refine lv_iload_n hx hb dX9_putOnTape_3 rfl (lv_at hl 0 rfl) ?_
  refine lv_if_lt (tgt := 36) hx hb dX9_putOnTape_4 (by decide) (fun c_1 => absurd c_1 (by decide)) (fun _ => ?_)
  refine lv_aload_n hx hb dX9_putOnTape_7 rfl (lv_at hl 1 rfl) ?_
  refine va_get (ci := 9) (v := .ref (y 1)) (C := RX9) (T := TX9) (N := 15) hx hb hg inX9 hown hK hP 0 rfl rfl 0 (by decide) (hg _ q_2_36) (fun _ h9 => h9) rfl dX9_putOnTape_8 ?_
  refine lv_aload_n hx hb dX9_putOnTape_11 rfl (lv_at hl 1 rfl) ?_
  refine va_get (ci := 9) (v := .int 4) (C := RX9) (T := TX9) (N := 15) hx hb hg inX9 hown hK hP 0 rfl rfl 1 (by decide) (hg _ q_2_37) (fun _ h9 => h9) rfl dX9_putOnTape_12 ?_
  refine lv_iload_n hx hb dX9_putOnTape_15 rfl (lv_at hl 2 rfl) ?_
  refine lv_iload_n hx hb dX9_putOnTape_16 rfl (lv_at hl 0 rfl) ?_
  refine lv_iushr (v := ((p0.toUInt32 >>> ((24 : Int32).toUInt32 &&& Int32.toUInt32 31)).toInt32)) hx hb dX9_putOnTape_17 rfl ?_
  refine lv_i2b (v := (((p0.toUInt32 >>> ((24 : Int32).toUInt32 &&& Int32.toUInt32 31)).toInt32).toInt8.toInt32)) hx hb dX9_putOnTape_18 rfl ?_
  refine va_bast hx hb hK hP hD hS 1 1 rfl rfl (vin (by decide +kernel)) dX9_putOnTape_19 (fun H locs hP hD hS => ?_)
  obtain ⟨f_2, hP, hD⟩ : ∃ f_2 : Nat → Int32, va_P V.1 vwCl [(y 0, .inr (9, [.ref (y 1), .int 4, .ref (y 2), .ref (y 10), .ref (y 19), .ref (y 25), .ref (y 26), .ref (y 30), .ref (y 31), .ref (y 32), .null, .null, .int 0, .int 0, .int 0])), (y 1, aB V 900 f_2)] H ∧ va_D A [(y 0, .inr (9, [.ref (y 1), .int 4, .ref (y 2), .ref (y 10), .ref (y 19), .ref (y 25), .ref (y 26), .ref (y 30), .ref (y 31), .ref (y 32), .null, .null, .int 0, .int 0, .int 0])), (y 1, aB V 900 f_2)] := ⟨_, hP, hD⟩
  refine lv_aload_n hx hb dX9_putOnTape_20 rfl (lv_at hl 1 rfl) ?_
  refine lv_dup hx hb dX9_putOnTape_21 rfl ?_
  refine va_get (ci := 9) (v := .int 4) (C := RX9) (T := TX9) (N := 15) hx hb hg inX9 hown hK hP 0 rfl rfl 1 (by decide) (hg _ q_2_37) (fun _ h9 => h9) rfl dX9_putOnTape_22 ?_
  refine lv_iconst (v := 1) hx hb dX9_putOnTape_25 (by decide) ?_
  refine lv_iadd hx hb dX9_putOnTape_26 ?_
  refine tpi (y := 5) (by decide +kernel) ?_
  refine va_put (ci := 9) (v := .int 5) (ty := .int) (C := RX9) (T := TX9) (N := 15) hx hb hg inX9 tyX9 tyX9_ok nmX9 hown hK hP hD hS 0 rfl rfl 1 (by decide) (hg _ q_2_37) (fun _ h9 => h9) rfl (by decide +kernel) rfl rfl (Nat.le_of_ble_eq_true rfl) dX9_putOnTape_27 (fun H locs hP hD hS => ?_)
  have hP : va_P V.1 vwCl [(y 0, .inr (9, [.ref (y 1), .int 5, .ref (y 2), .ref (y 10), .ref (y 19), .ref (y 25), .ref (y 26), .ref (y 30), .ref (y 31), .ref (y 32), .null, .null, .int 0, .int 0, .int 0])), (y 1, aB V 900 f_2)] H := hP
  have hD : va_D A [(y 0, .inr (9, [.ref (y 1), .int 5, .ref (y 2), .ref (y 10), .ref (y 19), .ref (y 25), .ref (y 26), .ref (y 30), .ref (y 31), .ref (y 32), .null, .null, .int 0, .int 0, .int 0])), (y 1, aB V 900 f_2)] := hD
  refine lv_iinc (v := 16) (lv' := [(2, .int 16), (0, .ref (y 0)), (1, .int p0)]) hx hb dX9_putOnTape_30 hl (k := 0) rfl (by decide +kernel) (by decide) rfl (fun ls hl => ?_)
  refine lv_goto (tgt := 3) hx hb dX9_putOnTape_33 (by decide) ?_
  refine lv_iload_n hx hb dX9_putOnTape_3 rfl (lv_at hl 0 rfl) ?_
  refine lv_if_lt (tgt := 36) hx hb dX9_putOnTape_4 (by decide) (fun c_3 => absurd c_3 (by decide)) (fun _ => ?_)
  refine lv_aload_n hx hb dX9_putOnTape_7 rfl (lv_at hl 1 rfl) ?_
  refine va_get (ci := 9) (v := .ref (y 1)) (C := RX9) (T := TX9) (N := 15) hx hb hg inX9 hown hK hP 0 rfl rfl 0 (by decide) (hg _ q_2_36) (fun _ h9 => h9) rfl dX9_putOnTape_8 ?_
  refine lv_aload_n hx hb dX9_putOnTape_11 rfl (lv_at hl 1 rfl) ?_
  refine va_get (ci := 9) (v := .int 5) (C := RX9) (T := TX9) (N := 15) hx hb hg inX9 hown hK hP 0 rfl rfl 1 (by decide) (hg _ q_2_37) (fun _ h9 => h9) rfl dX9_putOnTape_12 ?_
  refine lv_iload_n hx hb dX9_putOnTape_15 rfl (lv_at hl 2 rfl) ?_
  refine lv_iload_n hx hb dX9_putOnTape_16 rfl (lv_at hl 0 rfl) ?_
  refine lv_iushr (v := ((p0.toUInt32 >>> ((16 : Int32).toUInt32 &&& Int32.toUInt32 31)).toInt32)) hx hb dX9_putOnTape_17 rfl ?_
  refine lv_i2b (v := (((p0.toUInt32 >>> ((16 : Int32).toUInt32 &&& Int32.toUInt32 31)).toInt32).toInt8.toInt32)) hx hb dX9_putOnTape_18 rfl ?_
  refine va_bast hx hb hK hP hD hS 1 1 rfl rfl (vin (by decide +kernel)) dX9_putOnTape_19 (fun H locs hP hD hS => ?_)
  obtain ⟨f_4, hP, hD⟩ : ∃ f_4 : Nat → Int32, va_P V.1 vwCl [(y 0, .inr (9, [.ref (y 1), .int 5, .ref (y 2), .ref (y 10), .ref (y 19), .ref (y 25), .ref (y 26), .ref (y 30), .ref (y 31), .ref (y 32), .null, .null, .int 0, .int 0, .int 0])), (y 1, aB V 900 f_4)] H ∧ va_D A [(y 0, .inr (9, [.ref (y 1), .int 5, .ref (y 2), .ref (y 10), .ref (y 19), .ref (y 25), .ref (y 26), .ref (y 30), .ref (y 31), .ref (y 32), .null, .null, .int 0, .int 0, .int 0])), (y 1, aB V 900 f_4)] := ⟨_, hP, hD⟩
  refine lv_aload_n hx hb dX9_putOnTape_20 rfl (lv_at hl 1 rfl) ?_
  refine lv_dup hx hb dX9_putOnTape_21 rfl ?_
  refine va_get (ci := 9) (v := .int 5) (C := RX9) (T := TX9) (N := 15) hx hb hg inX9 hown hK hP 0 rfl rfl 1 (by decide) (hg _ q_2_37) (fun _ h9 => h9) rfl dX9_putOnTape_22 ?_
  refine lv_iconst (v := 1) hx hb dX9_putOnTape_25 (by decide) ?_
  refine lv_iadd hx hb dX9_putOnTape_26 ?_
  refine tpi (y := 6) (by decide +kernel) ?_
  refine va_put (ci := 9) (v := .int 6) (ty := .int) (C := RX9) (T := TX9) (N := 15) hx hb hg inX9 tyX9 tyX9_ok nmX9 hown hK hP hD hS 0 rfl rfl 1 (by decide) (hg _ q_2_37) (fun _ h9 => h9) rfl (by decide +kernel) rfl rfl (Nat.le_of_ble_eq_true rfl) dX9_putOnTape_27 (fun H locs hP hD hS => ?_)
  have hP : va_P V.1 vwCl [(y 0, .inr (9, [.ref (y 1), .int 6, .ref (y 2), .ref (y 10), .ref (y 19), .ref (y 25), .ref (y 26), .ref (y 30), .ref (y 31), .ref (y 32), .null, .null, .int 0, .int 0, .int 0])), (y 1, aB V 900 f_4)] H := hP
  have hD : va_D A [(y 0, .inr (9, [.ref (y 1), .int 6, .ref (y 2), .ref (y 10), .ref (y 19), .ref (y 25), .ref (y 26), .ref (y 30), .ref (y 31), .ref (y 32), .null, .null, .int 0, .int 0, .int 0])), (y 1, aB V 900 f_4)] := hD
  refine lv_iinc (v := 8) (lv' := [(2, .int 8), (0, .ref (y 0)), (1, .int p0)]) hx hb dX9_putOnTape_30 hl (k := 0) rfl (by decide +kernel) (by decide) rfl (fun ls hl => ?_)
  refine lv_goto (tgt := 3) hx hb dX9_putOnTape_33 (by decide) ?_
  refine lv_iload_n hx hb dX9_putOnTape_3 rfl (lv_at hl 0 rfl) ?_
  refine lv_if_lt (tgt := 36) hx hb dX9_putOnTape_4 (by decide) (fun c_5 => absurd c_5 (by decide)) (fun _ => ?_)
  refine lv_aload_n hx hb dX9_putOnTape_7 rfl (lv_at hl 1 rfl) ?_
  refine va_get (ci := 9) (v := .ref (y 1)) (C := RX9) (T := TX9) (N := 15) hx hb hg inX9 hown hK hP 0 rfl rfl 0 (by decide) (hg _ q_2_36) (fun _ h9 => h9) rfl dX9_putOnTape_8 ?_
  refine lv_aload_n hx hb dX9_putOnTape_11 rfl (lv_at hl 1 rfl) ?_
  refine va_get (ci := 9) (v := .int 6) (C := RX9) (T := TX9) (N := 15) hx hb hg inX9 hown hK hP 0 rfl rfl 1 (by decide) (hg _ q_2_37) (fun _ h9 => h9) rfl dX9_putOnTape_12 ?_
  refine lv_iload_n hx hb dX9_putOnTape_15 rfl (lv_at hl 2 rfl) ?_
  refine lv_iload_n hx hb dX9_putOnTape_16 rfl (lv_at hl 0 rfl) ?_
  refine lv_iushr (v := ((p0.toUInt32 >>> ((8 : Int32).toUInt32 &&& Int32.toUInt32 31)).toInt32)) hx hb dX9_putOnTape_17 rfl ?_
  refine lv_i2b (v := (((p0.toUInt32 >>> ((8 : Int32).toUInt32 &&& Int32.toUInt32 31)).toInt32).toInt8.toInt32)) hx hb dX9_putOnTape_18 rfl ?_
  refine va_bast hx hb hK hP hD hS 1 1 rfl rfl (vin (by decide +kernel)) dX9_putOnTape_19 (fun H locs hP hD hS => ?_)
  obtain ⟨f_6, hP, hD⟩ : ∃ f_6 : Nat → Int32, va_P V.1 vwCl [(y 0, .inr (9, [.ref (y 1), .int 6, .ref (y 2), .ref (y 10), .ref (y 19), .ref (y 25), .ref (y 26), .ref (y 30), .ref (y 31), .ref (y 32), .null, .null, .int 0, .int 0, .int 0])), (y 1, aB V 900 f_6)] H ∧ va_D A [(y 0, .inr (9, [.ref (y 1), .int 6, .ref (y 2), .ref (y 10), .ref (y 19), .ref (y 25), .ref (y 26), .ref (y 30), .ref (y 31), .ref (y 32), .null, .null, .int 0, .int 0, .int 0])), (y 1, aB V 900 f_6)] := ⟨_, hP, hD⟩
  refine lv_aload_n hx hb dX9_putOnTape_20 rfl (lv_at hl 1 rfl) ?_
  refine lv_dup hx hb dX9_putOnTape_21 rfl ?_
  refine va_get (ci := 9) (v := .int 6) (C := RX9) (T := TX9) (N := 15) hx hb hg inX9 hown hK hP 0 rfl rfl 1 (by decide) (hg _ q_2_37) (fun _ h9 => h9) rfl dX9_putOnTape_22 ?_
  refine lv_iconst (v := 1) hx hb dX9_putOnTape_25 (by decide) ?_
  refine lv_iadd hx hb dX9_putOnTape_26 ?_
  refine tpi (y := 7) (by decide +kernel) ?_
  refine va_put (ci := 9) (v := .int 7) (ty := .int) (C := RX9) (T := TX9) (N := 15) hx hb hg inX9 tyX9 tyX9_ok nmX9 hown hK hP hD hS 0 rfl rfl 1 (by decide) (hg _ q_2_37) (fun _ h9 => h9) rfl (by decide +kernel) rfl rfl (Nat.le_of_ble_eq_true rfl) dX9_putOnTape_27 (fun H locs hP hD hS => ?_)
  have hP : va_P V.1 vwCl [(y 0, .inr (9, [.ref (y 1), .int 7, .ref (y 2), .ref (y 10), .ref (y 19), .ref (y 25), .ref (y 26), .ref (y 30), .ref (y 31), .ref (y 32), .null, .null, .int 0, .int 0, .int 0])), (y 1, aB V 900 f_6)] H := hP
  have hD : va_D A [(y 0, .inr (9, [.ref (y 1), .int 7, .ref (y 2), .ref (y 10), .ref (y 19), .ref (y 25), .ref (y 26), .ref (y 30), .ref (y 31), .ref (y 32), .null, .null, .int 0, .int 0, .int 0])), (y 1, aB V 900 f_6)] := hD
  refine lv_iinc (v := 0) (lv' := [(2, .int 0), (0, .ref (y 0)), (1, .int p0)]) hx hb dX9_putOnTape_30 hl (k := 0) rfl (by decide +kernel) (by decide) rfl (fun ls hl => ?_)
  refine lv_goto (tgt := 3) hx hb dX9_putOnTape_33 (by decide) ?_
  refine lv_iload_n hx hb dX9_putOnTape_3 rfl (lv_at hl 0 rfl) ?_
  refine lv_if_lt (tgt := 36) hx hb dX9_putOnTape_4 (by decide) (fun c_7 => absurd c_7 (by decide)) (fun _ => ?_)
  refine lv_aload_n hx hb dX9_putOnTape_7 rfl (lv_at hl 1 rfl) ?_
  refine va_get (ci := 9) (v := .ref (y 1)) (C := RX9) (T := TX9) (N := 15) hx hb hg inX9 hown hK hP 0 rfl rfl 0 (by decide) (hg _ q_2_36) (fun _ h9 => h9) rfl dX9_putOnTape_8 ?_
  refine lv_aload_n hx hb dX9_putOnTape_11 rfl (lv_at hl 1 rfl) ?_
  refine va_get (ci := 9) (v := .int 7) (C := RX9) (T := TX9) (N := 15) hx hb hg inX9 hown hK hP 0 rfl rfl 1 (by decide) (hg _ q_2_37) (fun _ h9 => h9) rfl dX9_putOnTape_12 ?_
  refine lv_iload_n hx hb dX9_putOnTape_15 rfl (lv_at hl 2 rfl) ?_
  refine lv_iload_n hx hb dX9_putOnTape_16 rfl (lv_at hl 0 rfl) ?_
  refine lv_iushr (v := ((p0.toUInt32 >>> ((0 : Int32).toUInt32 &&& Int32.toUInt32 31)).toInt32)) hx hb dX9_putOnTape_17 rfl ?_
  refine lv_i2b (v := (((p0.toUInt32 >>> ((0 : Int32).toUInt32 &&& Int32.toUInt32 31)).toInt32).toInt8.toInt32)) hx hb dX9_putOnTape_18 rfl ?_
  refine va_bast hx hb hK hP hD hS 1 1 rfl rfl (vin (by decide +kernel)) dX9_putOnTape_19 (fun H locs hP hD hS => ?_)
  obtain ⟨f_8, hP, hD⟩ : ∃ f_8 : Nat → Int32, va_P V.1 vwCl [(y 0, .inr (9, [.ref (y 1), .int 7, .ref (y 2), .ref (y 10), .ref (y 19), .ref (y 25), .ref (y 26), .ref (y 30), .ref (y 31), .ref (y 32), .null, .null, .int 0, .int 0, .int 0])), (y 1, aB V 900 f_8)] H ∧ va_D A [(y 0, .inr (9, [.ref (y 1), .int 7, .ref (y 2), .ref (y 10), .ref (y 19), .ref (y 25), .ref (y 26), .ref (y 30), .ref (y 31), .ref (y 32), .null, .null, .int 0, .int 0, .int 0])), (y 1, aB V 900 f_8)] := ⟨_, hP, hD⟩
  refine lv_aload_n hx hb dX9_putOnTape_20 rfl (lv_at hl 1 rfl) ?_
  refine lv_dup hx hb dX9_putOnTape_21 rfl ?_
  refine va_get (ci := 9) (v := .int 7) (C := RX9) (T := TX9) (N := 15) hx hb hg inX9 hown hK hP 0 rfl rfl 1 (by decide) (hg _ q_2_37) (fun _ h9 => h9) rfl dX9_putOnTape_22 ?_
  refine lv_iconst (v := 1) hx hb dX9_putOnTape_25 (by decide) ?_
  refine lv_iadd hx hb dX9_putOnTape_26 ?_
  refine tpi (y := 8) (by decide +kernel) ?_
  refine va_put (ci := 9) (v := .int 8) (ty := .int) (C := RX9) (T := TX9) (N := 15) hx hb hg inX9 tyX9 tyX9_ok nmX9 hown hK hP hD hS 0 rfl rfl 1 (by decide) (hg _ q_2_37) (fun _ h9 => h9) rfl (by decide +kernel) rfl rfl (Nat.le_of_ble_eq_true rfl) dX9_putOnTape_27 (fun H locs hP hD hS => ?_)
  have hP : va_P V.1 vwCl [(y 0, .inr (9, [.ref (y 1), .int 8, .ref (y 2), .ref (y 10), .ref (y 19), .ref (y 25), .ref (y 26), .ref (y 30), .ref (y 31), .ref (y 32), .null, .null, .int 0, .int 0, .int 0])), (y 1, aB V 900 f_8)] H := hP
  have hD : va_D A [(y 0, .inr (9, [.ref (y 1), .int 8, .ref (y 2), .ref (y 10), .ref (y 19), .ref (y 25), .ref (y 26), .ref (y 30), .ref (y 31), .ref (y 32), .null, .null, .int 0, .int 0, .int 0])), (y 1, aB V 900 f_8)] := hD
  refine lv_iinc (v := (-8)) (lv' := [(2, .int (-8)), (0, .ref (y 0)), (1, .int p0)]) hx hb dX9_putOnTape_30 hl (k := 0) rfl (by decide +kernel) (by decide) rfl (fun ls hl => ?_)
  refine lv_goto (tgt := 3) hx hb dX9_putOnTape_33 (by decide) ?_
  refine lv_iload_n hx hb dX9_putOnTape_3 rfl (lv_at hl 0 rfl) ?_
  refine lv_if_lt (tgt := 36) hx hb dX9_putOnTape_4 (by decide) (fun _ => ?_) (fun c_9 => absurd c_9 (by decide))
  exact fiV hx hb hr hlk hK hP hD hS dX9_putOnTape_36 (Nat.le_of_ble_eq_true rfl) (Nat.le_of_ble_eq_true rfl) (⟨f_2, f_4, f_6, f_8, rfl⟩)
set_option maxHeartbeats 4000000 in
set_option maxRecDepth 100000 in
theorem c_X9_putOnTape_2 (l : Launch) (V : GV) (y : Nat → Nat) (p0 : Int32) (f1 : Nat → Int32) : Ct l V yX9_putOnTape (.code yX9_putOnTape cX9_putOnTape 3 none) 1 [.ref (y 0), .int p0] [(y 0, .inr (9, [.ref (y 1), .int 8, .ref (y 2), .ref (y 10), .ref (y 19), .ref (y 25), .ref (y 26), .ref (y 30), .ref (y 31), .ref (y 32), .null, .null, .int 0, .int 0, .int 0])), (y 1, aB V 900 f1)] 0 0 (QV V (fun (w : va_W) => (∃ (f_2 : Nat → Int32) (f_4 : Nat → Int32) (f_6 : Nat → Int32) (f_8 : Nat → Int32), w = [(y 0, .inr (9, [.ref (y 1), .int 12, .ref (y 2), .ref (y 10), .ref (y 19), .ref (y 25), .ref (y 26), .ref (y 30), .ref (y 31), .ref (y 32), .null, .null, .int 0, .int 0, .int 0])), (y 1, aB V 900 f_8)]))) := by
  refine Ct.of (by decide) (Nat.le_of_ble_eq_true rfl) (fun p e s m below meth c A ls hx hb hr hml hown hlk hnm hg hP hK hD hE hA hS hl => ?_)
  have hl : lv_has ls 3 [(0, .ref (y 0)), (1, .int p0)] := hl
  refine lv_bipush (v := 24) hx hb dX9_putOnTape_0 (by decide) ?_
  refine lv_istore_n (lv' := [(2, .int 24), (0, .ref (y 0)), (1, .int p0)]) hx hb dX9_putOnTape_2 rfl hl (by decide) rfl (fun ls hl => ?_)
  refine lv_iload_n hx hb dX9_putOnTape_3 rfl (lv_at hl 0 rfl) ?_
  refine lv_if_lt (tgt := 36) hx hb dX9_putOnTape_4 (by decide) (fun c_1 => absurd c_1 (by decide)) (fun _ => ?_)
  refine lv_aload_n hx hb dX9_putOnTape_7 rfl (lv_at hl 1 rfl) ?_
  refine va_get (ci := 9) (v := .ref (y 1)) (C := RX9) (T := TX9) (N := 15) hx hb hg inX9 hown hK hP 0 rfl rfl 0 (by decide) (hg _ q_2_36) (fun _ h9 => h9) rfl dX9_putOnTape_8 ?_
  refine lv_aload_n hx hb dX9_putOnTape_11 rfl (lv_at hl 1 rfl) ?_
  refine va_get (ci := 9) (v := .int 8) (C := RX9) (T := TX9) (N := 15) hx hb hg inX9 hown hK hP 0 rfl rfl 1 (by decide) (hg _ q_2_37) (fun _ h9 => h9) rfl dX9_putOnTape_12 ?_
  refine lv_iload_n hx hb dX9_putOnTape_15 rfl (lv_at hl 2 rfl) ?_
  refine lv_iload_n hx hb dX9_putOnTape_16 rfl (lv_at hl 0 rfl) ?_
  refine lv_iushr (v := ((p0.toUInt32 >>> ((24 : Int32).toUInt32 &&& Int32.toUInt32 31)).toInt32)) hx hb dX9_putOnTape_17 rfl ?_
  refine lv_i2b (v := (((p0.toUInt32 >>> ((24 : Int32).toUInt32 &&& Int32.toUInt32 31)).toInt32).toInt8.toInt32)) hx hb dX9_putOnTape_18 rfl ?_
  refine va_bast hx hb hK hP hD hS 1 1 rfl rfl (vin (by decide +kernel)) dX9_putOnTape_19 (fun H locs hP hD hS => ?_)
  obtain ⟨f_2, hP, hD⟩ : ∃ f_2 : Nat → Int32, va_P V.1 vwCl [(y 0, .inr (9, [.ref (y 1), .int 8, .ref (y 2), .ref (y 10), .ref (y 19), .ref (y 25), .ref (y 26), .ref (y 30), .ref (y 31), .ref (y 32), .null, .null, .int 0, .int 0, .int 0])), (y 1, aB V 900 f_2)] H ∧ va_D A [(y 0, .inr (9, [.ref (y 1), .int 8, .ref (y 2), .ref (y 10), .ref (y 19), .ref (y 25), .ref (y 26), .ref (y 30), .ref (y 31), .ref (y 32), .null, .null, .int 0, .int 0, .int 0])), (y 1, aB V 900 f_2)] := ⟨_, hP, hD⟩
  refine lv_aload_n hx hb dX9_putOnTape_20 rfl (lv_at hl 1 rfl) ?_
  refine lv_dup hx hb dX9_putOnTape_21 rfl ?_
  refine va_get (ci := 9) (v := .int 8) (C := RX9) (T := TX9) (N := 15) hx hb hg inX9 hown hK hP 0 rfl rfl 1 (by decide) (hg _ q_2_37) (fun _ h9 => h9) rfl dX9_putOnTape_22 ?_
  refine lv_iconst (v := 1) hx hb dX9_putOnTape_25 (by decide) ?_
  refine lv_iadd hx hb dX9_putOnTape_26 ?_
  refine tpi (y := 9) (by decide +kernel) ?_
  refine va_put (ci := 9) (v := .int 9) (ty := .int) (C := RX9) (T := TX9) (N := 15) hx hb hg inX9 tyX9 tyX9_ok nmX9 hown hK hP hD hS 0 rfl rfl 1 (by decide) (hg _ q_2_37) (fun _ h9 => h9) rfl (by decide +kernel) rfl rfl (Nat.le_of_ble_eq_true rfl) dX9_putOnTape_27 (fun H locs hP hD hS => ?_)
  have hP : va_P V.1 vwCl [(y 0, .inr (9, [.ref (y 1), .int 9, .ref (y 2), .ref (y 10), .ref (y 19), .ref (y 25), .ref (y 26), .ref (y 30), .ref (y 31), .ref (y 32), .null, .null, .int 0, .int 0, .int 0])), (y 1, aB V 900 f_2)] H := hP
  have hD : va_D A [(y 0, .inr (9, [.ref (y 1), .int 9, .ref (y 2), .ref (y 10), .ref (y 19), .ref (y 25), .ref (y 26), .ref (y 30), .ref (y 31), .ref (y 32), .null, .null, .int 0, .int 0, .int 0])), (y 1, aB V 900 f_2)] := hD
  refine lv_iinc (v := 16) (lv' := [(2, .int 16), (0, .ref (y 0)), (1, .int p0)]) hx hb dX9_putOnTape_30 hl (k := 0) rfl (by decide +kernel) (by decide) rfl (fun ls hl => ?_)
  refine lv_goto (tgt := 3) hx hb dX9_putOnTape_33 (by decide) ?_
  refine lv_iload_n hx hb dX9_putOnTape_3 rfl (lv_at hl 0 rfl) ?_
  refine lv_if_lt (tgt := 36) hx hb dX9_putOnTape_4 (by decide) (fun c_3 => absurd c_3 (by decide)) (fun _ => ?_)
  refine lv_aload_n hx hb dX9_putOnTape_7 rfl (lv_at hl 1 rfl) ?_
  refine va_get (ci := 9) (v := .ref (y 1)) (C := RX9) (T := TX9) (N := 15) hx hb hg inX9 hown hK hP 0 rfl rfl 0 (by decide) (hg _ q_2_36) (fun _ h9 => h9) rfl dX9_putOnTape_8 ?_
  refine lv_aload_n hx hb dX9_putOnTape_11 rfl (lv_at hl 1 rfl) ?_
  refine va_get (ci := 9) (v := .int 9) (C := RX9) (T := TX9) (N := 15) hx hb hg inX9 hown hK hP 0 rfl rfl 1 (by decide) (hg _ q_2_37) (fun _ h9 => h9) rfl dX9_putOnTape_12 ?_
  refine lv_iload_n hx hb dX9_putOnTape_15 rfl (lv_at hl 2 rfl) ?_
  refine lv_iload_n hx hb dX9_putOnTape_16 rfl (lv_at hl 0 rfl) ?_
  refine lv_iushr (v := ((p0.toUInt32 >>> ((16 : Int32).toUInt32 &&& Int32.toUInt32 31)).toInt32)) hx hb dX9_putOnTape_17 rfl ?_
  refine lv_i2b (v := (((p0.toUInt32 >>> ((16 : Int32).toUInt32 &&& Int32.toUInt32 31)).toInt32).toInt8.toInt32)) hx hb dX9_putOnTape_18 rfl ?_
  refine va_bast hx hb hK hP hD hS 1 1 rfl rfl (vin (by decide +kernel)) dX9_putOnTape_19 (fun H locs hP hD hS => ?_)
  obtain ⟨f_4, hP, hD⟩ : ∃ f_4 : Nat → Int32, va_P V.1 vwCl [(y 0, .inr (9, [.ref (y 1), .int 9, .ref (y 2), .ref (y 10), .ref (y 19), .ref (y 25), .ref (y 26), .ref (y 30), .ref (y 31), .ref (y 32), .null, .null, .int 0, .int 0, .int 0])), (y 1, aB V 900 f_4)] H ∧ va_D A [(y 0, .inr (9, [.ref (y 1), .int 9, .ref (y 2), .ref (y 10), .ref (y 19), .ref (y 25), .ref (y 26), .ref (y 30), .ref (y 31), .ref (y 32), .null, .null, .int 0, .int 0, .int 0])), (y 1, aB V 900 f_4)] := ⟨_, hP, hD⟩
  refine lv_aload_n hx hb dX9_putOnTape_20 rfl (lv_at hl 1 rfl) ?_
  refine lv_dup hx hb dX9_putOnTape_21 rfl ?_
  refine va_get (ci := 9) (v := .int 9) (C := RX9) (T := TX9) (N := 15) hx hb hg inX9 hown hK hP 0 rfl rfl 1 (by decide) (hg _ q_2_37) (fun _ h9 => h9) rfl dX9_putOnTape_22 ?_
  refine lv_iconst (v := 1) hx hb dX9_putOnTape_25 (by decide) ?_
  refine lv_iadd hx hb dX9_putOnTape_26 ?_
  refine tpi (y := 10) (by decide +kernel) ?_
  refine va_put (ci := 9) (v := .int 10) (ty := .int) (C := RX9) (T := TX9) (N := 15) hx hb hg inX9 tyX9 tyX9_ok nmX9 hown hK hP hD hS 0 rfl rfl 1 (by decide) (hg _ q_2_37) (fun _ h9 => h9) rfl (by decide +kernel) rfl rfl (Nat.le_of_ble_eq_true rfl) dX9_putOnTape_27 (fun H locs hP hD hS => ?_)
  have hP : va_P V.1 vwCl [(y 0, .inr (9, [.ref (y 1), .int 10, .ref (y 2), .ref (y 10), .ref (y 19), .ref (y 25), .ref (y 26), .ref (y 30), .ref (y 31), .ref (y 32), .null, .null, .int 0, .int 0, .int 0])), (y 1, aB V 900 f_4)] H := hP
  have hD : va_D A [(y 0, .inr (9, [.ref (y 1), .int 10, .ref (y 2), .ref (y 10), .ref (y 19), .ref (y 25), .ref (y 26), .ref (y 30), .ref (y 31), .ref (y 32), .null, .null, .int 0, .int 0, .int 0])), (y 1, aB V 900 f_4)] := hD
  refine lv_iinc (v := 8) (lv' := [(2, .int 8), (0, .ref (y 0)), (1, .int p0)]) hx hb dX9_putOnTape_30 hl (k := 0) rfl (by decide +kernel) (by decide) rfl (fun ls hl => ?_)
  refine lv_goto (tgt := 3) hx hb dX9_putOnTape_33 (by decide) ?_
  refine lv_iload_n hx hb dX9_putOnTape_3 rfl (lv_at hl 0 rfl) ?_
  refine lv_if_lt (tgt := 36) hx hb dX9_putOnTape_4 (by decide) (fun c_5 => absurd c_5 (by decide)) (fun _ => ?_)
  refine lv_aload_n hx hb dX9_putOnTape_7 rfl (lv_at hl 1 rfl) ?_
  refine va_get (ci := 9) (v := .ref (y 1)) (C := RX9) (T := TX9) (N := 15) hx hb hg inX9 hown hK hP 0 rfl rfl 0 (by decide) (hg _ q_2_36) (fun _ h9 => h9) rfl dX9_putOnTape_8 ?_
  refine lv_aload_n hx hb dX9_putOnTape_11 rfl (lv_at hl 1 rfl) ?_
  refine va_get (ci := 9) (v := .int 10) (C := RX9) (T := TX9) (N := 15) hx hb hg inX9 hown hK hP 0 rfl rfl 1 (by decide) (hg _ q_2_37) (fun _ h9 => h9) rfl dX9_putOnTape_12 ?_
  refine lv_iload_n hx hb dX9_putOnTape_15 rfl (lv_at hl 2 rfl) ?_
  refine lv_iload_n hx hb dX9_putOnTape_16 rfl (lv_at hl 0 rfl) ?_
  refine lv_iushr (v := ((p0.toUInt32 >>> ((8 : Int32).toUInt32 &&& Int32.toUInt32 31)).toInt32)) hx hb dX9_putOnTape_17 rfl ?_
  refine lv_i2b (v := (((p0.toUInt32 >>> ((8 : Int32).toUInt32 &&& Int32.toUInt32 31)).toInt32).toInt8.toInt32)) hx hb dX9_putOnTape_18 rfl ?_
  refine va_bast hx hb hK hP hD hS 1 1 rfl rfl (vin (by decide +kernel)) dX9_putOnTape_19 (fun H locs hP hD hS => ?_)
  obtain ⟨f_6, hP, hD⟩ : ∃ f_6 : Nat → Int32, va_P V.1 vwCl [(y 0, .inr (9, [.ref (y 1), .int 10, .ref (y 2), .ref (y 10), .ref (y 19), .ref (y 25), .ref (y 26), .ref (y 30), .ref (y 31), .ref (y 32), .null, .null, .int 0, .int 0, .int 0])), (y 1, aB V 900 f_6)] H ∧ va_D A [(y 0, .inr (9, [.ref (y 1), .int 10, .ref (y 2), .ref (y 10), .ref (y 19), .ref (y 25), .ref (y 26), .ref (y 30), .ref (y 31), .ref (y 32), .null, .null, .int 0, .int 0, .int 0])), (y 1, aB V 900 f_6)] := ⟨_, hP, hD⟩
  refine lv_aload_n hx hb dX9_putOnTape_20 rfl (lv_at hl 1 rfl) ?_
  refine lv_dup hx hb dX9_putOnTape_21 rfl ?_
  refine va_get (ci := 9) (v := .int 10) (C := RX9) (T := TX9) (N := 15) hx hb hg inX9 hown hK hP 0 rfl rfl 1 (by decide) (hg _ q_2_37) (fun _ h9 => h9) rfl dX9_putOnTape_22 ?_
  refine lv_iconst (v := 1) hx hb dX9_putOnTape_25 (by decide) ?_
  refine lv_iadd hx hb dX9_putOnTape_26 ?_
  refine tpi (y := 11) (by decide +kernel) ?_
  refine va_put (ci := 9) (v := .int 11) (ty := .int) (C := RX9) (T := TX9) (N := 15) hx hb hg inX9 tyX9 tyX9_ok nmX9 hown hK hP hD hS 0 rfl rfl 1 (by decide) (hg _ q_2_37) (fun _ h9 => h9) rfl (by decide +kernel) rfl rfl (Nat.le_of_ble_eq_true rfl) dX9_putOnTape_27 (fun H locs hP hD hS => ?_)
  have hP : va_P V.1 vwCl [(y 0, .inr (9, [.ref (y 1), .int 11, .ref (y 2), .ref (y 10), .ref (y 19), .ref (y 25), .ref (y 26), .ref (y 30), .ref (y 31), .ref (y 32), .null, .null, .int 0, .int 0, .int 0])), (y 1, aB V 900 f_6)] H := hP
  have hD : va_D A [(y 0, .inr (9, [.ref (y 1), .int 11, .ref (y 2), .ref (y 10), .ref (y 19), .ref (y 25), .ref (y 26), .ref (y 30), .ref (y 31), .ref (y 32), .null, .null, .int 0, .int 0, .int 0])), (y 1, aB V 900 f_6)] := hD
  refine lv_iinc (v := 0) (lv' := [(2, .int 0), (0, .ref (y 0)), (1, .int p0)]) hx hb dX9_putOnTape_30 hl (k := 0) rfl (by decide +kernel) (by decide) rfl (fun ls hl => ?_)
  refine lv_goto (tgt := 3) hx hb dX9_putOnTape_33 (by decide) ?_
  refine lv_iload_n hx hb dX9_putOnTape_3 rfl (lv_at hl 0 rfl) ?_
  refine lv_if_lt (tgt := 36) hx hb dX9_putOnTape_4 (by decide) (fun c_7 => absurd c_7 (by decide)) (fun _ => ?_)
  refine lv_aload_n hx hb dX9_putOnTape_7 rfl (lv_at hl 1 rfl) ?_
  refine va_get (ci := 9) (v := .ref (y 1)) (C := RX9) (T := TX9) (N := 15) hx hb hg inX9 hown hK hP 0 rfl rfl 0 (by decide) (hg _ q_2_36) (fun _ h9 => h9) rfl dX9_putOnTape_8 ?_
  refine lv_aload_n hx hb dX9_putOnTape_11 rfl (lv_at hl 1 rfl) ?_
  refine va_get (ci := 9) (v := .int 11) (C := RX9) (T := TX9) (N := 15) hx hb hg inX9 hown hK hP 0 rfl rfl 1 (by decide) (hg _ q_2_37) (fun _ h9 => h9) rfl dX9_putOnTape_12 ?_
  refine lv_iload_n hx hb dX9_putOnTape_15 rfl (lv_at hl 2 rfl) ?_
  refine lv_iload_n hx hb dX9_putOnTape_16 rfl (lv_at hl 0 rfl) ?_
  refine lv_iushr (v := ((p0.toUInt32 >>> ((0 : Int32).toUInt32 &&& Int32.toUInt32 31)).toInt32)) hx hb dX9_putOnTape_17 rfl ?_
  refine lv_i2b (v := (((p0.toUInt32 >>> ((0 : Int32).toUInt32 &&& Int32.toUInt32 31)).toInt32).toInt8.toInt32)) hx hb dX9_putOnTape_18 rfl ?_
  refine va_bast hx hb hK hP hD hS 1 1 rfl rfl (vin (by decide +kernel)) dX9_putOnTape_19 (fun H locs hP hD hS => ?_)
  obtain ⟨f_8, hP, hD⟩ : ∃ f_8 : Nat → Int32, va_P V.1 vwCl [(y 0, .inr (9, [.ref (y 1), .int 11, .ref (y 2), .ref (y 10), .ref (y 19), .ref (y 25), .ref (y 26), .ref (y 30), .ref (y 31), .ref (y 32), .null, .null, .int 0, .int 0, .int 0])), (y 1, aB V 900 f_8)] H ∧ va_D A [(y 0, .inr (9, [.ref (y 1), .int 11, .ref (y 2), .ref (y 10), .ref (y 19), .ref (y 25), .ref (y 26), .ref (y 30), .ref (y 31), .ref (y 32), .null, .null, .int 0, .int 0, .int 0])), (y 1, aB V 900 f_8)] := ⟨_, hP, hD⟩
  refine lv_aload_n hx hb dX9_putOnTape_20 rfl (lv_at hl 1 rfl) ?_
  refine lv_dup hx hb dX9_putOnTape_21 rfl ?_
  refine va_get (ci := 9) (v := .int 11) (C := RX9) (T := TX9) (N := 15) hx hb hg inX9 hown hK hP 0 rfl rfl 1 (by decide) (hg _ q_2_37) (fun _ h9 => h9) rfl dX9_putOnTape_22 ?_
  refine lv_iconst (v := 1) hx hb dX9_putOnTape_25 (by decide) ?_
  refine lv_iadd hx hb dX9_putOnTape_26 ?_
  refine tpi (y := 12) (by decide +kernel) ?_
  refine va_put (ci := 9) (v := .int 12) (ty := .int) (C := RX9) (T := TX9) (N := 15) hx hb hg inX9 tyX9 tyX9_ok nmX9 hown hK hP hD hS 0 rfl rfl 1 (by decide) (hg _ q_2_37) (fun _ h9 => h9) rfl (by decide +kernel) rfl rfl (Nat.le_of_ble_eq_true rfl) dX9_putOnTape_27 (fun H locs hP hD hS => ?_)
  have hP : va_P V.1 vwCl [(y 0, .inr (9, [.ref (y 1), .int 12, .ref (y 2), .ref (y 10), .ref (y 19), .ref (y 25), .ref (y 26), .ref (y 30), .ref (y 31), .ref (y 32), .null, .null, .int 0, .int 0, .int 0])), (y 1, aB V 900 f_8)] H := hP
  have hD : va_D A [(y 0, .inr (9, [.ref (y 1), .int 12, .ref (y 2), .ref (y 10), .ref (y 19), .ref (y 25), .ref (y 26), .ref (y 30), .ref (y 31), .ref (y 32), .null, .null, .int 0, .int 0, .int 0])), (y 1, aB V 900 f_8)] := hD
  refine lv_iinc (v := (-8)) (lv' := [(2, .int (-8)), (0, .ref (y 0)), (1, .int p0)]) hx hb dX9_putOnTape_30 hl (k := 0) rfl (by decide +kernel) (by decide) rfl (fun ls hl => ?_)
  refine lv_goto (tgt := 3) hx hb dX9_putOnTape_33 (by decide) ?_
  refine lv_iload_n hx hb dX9_putOnTape_3 rfl (lv_at hl 0 rfl) ?_
  refine lv_if_lt (tgt := 36) hx hb dX9_putOnTape_4 (by decide) (fun _ => ?_) (fun c_9 => absurd c_9 (by decide))
  exact fiV hx hb hr hlk hK hP hD hS dX9_putOnTape_36 (Nat.le_of_ble_eq_true rfl) (Nat.le_of_ble_eq_true rfl) (⟨f_2, f_4, f_6, f_8, rfl⟩)
set_option maxHeartbeats 4000000 in
set_option maxRecDepth 100000 in
theorem c_X9_putOnTape_3 (l : Launch) (V : GV) (y : Nat → Nat) (p0 : Int32) (f1 : Nat → Int32) : Ct l V yX9_putOnTape (.code yX9_putOnTape cX9_putOnTape 3 none) 1 [.ref (y 0), .int p0] [(y 0, .inr (9, [.ref (y 1), .int 12, .ref (y 2), .ref (y 10), .ref (y 19), .ref (y 25), .ref (y 26), .ref (y 30), .ref (y 31), .ref (y 32), .null, .null, .int 0, .int 0, .int 0])), (y 1, aB V 900 f1)] 0 0 (QV V (fun (w : va_W) => (∃ (f_2 : Nat → Int32) (f_4 : Nat → Int32) (f_6 : Nat → Int32) (f_8 : Nat → Int32), w = [(y 0, .inr (9, [.ref (y 1), .int 16, .ref (y 2), .ref (y 10), .ref (y 19), .ref (y 25), .ref (y 26), .ref (y 30), .ref (y 31), .ref (y 32), .null, .null, .int 0, .int 0, .int 0])), (y 1, aB V 900 f_8)]))) := by
  refine Ct.of (by decide) (Nat.le_of_ble_eq_true rfl) (fun p e s m below meth c A ls hx hb hr hml hown hlk hnm hg hP hK hD hE hA hS hl => ?_)
  have hl : lv_has ls 3 [(0, .ref (y 0)), (1, .int p0)] := hl
  refine lv_bipush (v := 24) hx hb dX9_putOnTape_0 (by decide) ?_
  refine lv_istore_n (lv' := [(2, .int 24), (0, .ref (y 0)), (1, .int p0)]) hx hb dX9_putOnTape_2 rfl hl (by decide) rfl (fun ls hl => ?_)
  refine lv_iload_n hx hb dX9_putOnTape_3 rfl (lv_at hl 0 rfl) ?_
  refine lv_if_lt (tgt := 36) hx hb dX9_putOnTape_4 (by decide) (fun c_1 => absurd c_1 (by decide)) (fun _ => ?_)
  refine lv_aload_n hx hb dX9_putOnTape_7 rfl (lv_at hl 1 rfl) ?_
  refine va_get (ci := 9) (v := .ref (y 1)) (C := RX9) (T := TX9) (N := 15) hx hb hg inX9 hown hK hP 0 rfl rfl 0 (by decide) (hg _ q_2_36) (fun _ h9 => h9) rfl dX9_putOnTape_8 ?_
  refine lv_aload_n hx hb dX9_putOnTape_11 rfl (lv_at hl 1 rfl) ?_
  refine va_get (ci := 9) (v := .int 12) (C := RX9) (T := TX9) (N := 15) hx hb hg inX9 hown hK hP 0 rfl rfl 1 (by decide) (hg _ q_2_37) (fun _ h9 => h9) rfl dX9_putOnTape_12 ?_
  refine lv_iload_n hx hb dX9_putOnTape_15 rfl (lv_at hl 2 rfl) ?_
  refine lv_iload_n hx hb dX9_putOnTape_16 rfl (lv_at hl 0 rfl) ?_
  refine lv_iushr (v := ((p0.toUInt32 >>> ((24 : Int32).toUInt32 &&& Int32.toUInt32 31)).toInt32)) hx hb dX9_putOnTape_17 rfl ?_
  refine lv_i2b (v := (((p0.toUInt32 >>> ((24 : Int32).toUInt32 &&& Int32.toUInt32 31)).toInt32).toInt8.toInt32)) hx hb dX9_putOnTape_18 rfl ?_
  refine va_bast hx hb hK hP hD hS 1 1 rfl rfl (vin (by decide +kernel)) dX9_putOnTape_19 (fun H locs hP hD hS => ?_)
  obtain ⟨f_2, hP, hD⟩ : ∃ f_2 : Nat → Int32, va_P V.1 vwCl [(y 0, .inr (9, [.ref (y 1), .int 12, .ref (y 2), .ref (y 10), .ref (y 19), .ref (y 25), .ref (y 26), .ref (y 30), .ref (y 31), .ref (y 32), .null, .null, .int 0, .int 0, .int 0])), (y 1, aB V 900 f_2)] H ∧ va_D A [(y 0, .inr (9, [.ref (y 1), .int 12, .ref (y 2), .ref (y 10), .ref (y 19), .ref (y 25), .ref (y 26), .ref (y 30), .ref (y 31), .ref (y 32), .null, .null, .int 0, .int 0, .int 0])), (y 1, aB V 900 f_2)] := ⟨_, hP, hD⟩
  refine lv_aload_n hx hb dX9_putOnTape_20 rfl (lv_at hl 1 rfl) ?_
  refine lv_dup hx hb dX9_putOnTape_21 rfl ?_
  refine va_get (ci := 9) (v := .int 12) (C := RX9) (T := TX9) (N := 15) hx hb hg inX9 hown hK hP 0 rfl rfl 1 (by decide) (hg _ q_2_37) (fun _ h9 => h9) rfl dX9_putOnTape_22 ?_
  refine lv_iconst (v := 1) hx hb dX9_putOnTape_25 (by decide) ?_
  refine lv_iadd hx hb dX9_putOnTape_26 ?_
  refine tpi (y := 13) (by decide +kernel) ?_
  refine va_put (ci := 9) (v := .int 13) (ty := .int) (C := RX9) (T := TX9) (N := 15) hx hb hg inX9 tyX9 tyX9_ok nmX9 hown hK hP hD hS 0 rfl rfl 1 (by decide) (hg _ q_2_37) (fun _ h9 => h9) rfl (by decide +kernel) rfl rfl (Nat.le_of_ble_eq_true rfl) dX9_putOnTape_27 (fun H locs hP hD hS => ?_)
  have hP : va_P V.1 vwCl [(y 0, .inr (9, [.ref (y 1), .int 13, .ref (y 2), .ref (y 10), .ref (y 19), .ref (y 25), .ref (y 26), .ref (y 30), .ref (y 31), .ref (y 32), .null, .null, .int 0, .int 0, .int 0])), (y 1, aB V 900 f_2)] H := hP
  have hD : va_D A [(y 0, .inr (9, [.ref (y 1), .int 13, .ref (y 2), .ref (y 10), .ref (y 19), .ref (y 25), .ref (y 26), .ref (y 30), .ref (y 31), .ref (y 32), .null, .null, .int 0, .int 0, .int 0])), (y 1, aB V 900 f_2)] := hD
  refine lv_iinc (v := 16) (lv' := [(2, .int 16), (0, .ref (y 0)), (1, .int p0)]) hx hb dX9_putOnTape_30 hl (k := 0) rfl (by decide +kernel) (by decide) rfl (fun ls hl => ?_)
  refine lv_goto (tgt := 3) hx hb dX9_putOnTape_33 (by decide) ?_
  refine lv_iload_n hx hb dX9_putOnTape_3 rfl (lv_at hl 0 rfl) ?_
  refine lv_if_lt (tgt := 36) hx hb dX9_putOnTape_4 (by decide) (fun c_3 => absurd c_3 (by decide)) (fun _ => ?_)
  refine lv_aload_n hx hb dX9_putOnTape_7 rfl (lv_at hl 1 rfl) ?_
  refine va_get (ci := 9) (v := .ref (y 1)) (C := RX9) (T := TX9) (N := 15) hx hb hg inX9 hown hK hP 0 rfl rfl 0 (by decide) (hg _ q_2_36) (fun _ h9 => h9) rfl dX9_putOnTape_8 ?_
  refine lv_aload_n hx hb dX9_putOnTape_11 rfl (lv_at hl 1 rfl) ?_
  refine va_get (ci := 9) (v := .int 13) (C := RX9) (T := TX9) (N := 15) hx hb hg inX9 hown hK hP 0 rfl rfl 1 (by decide) (hg _ q_2_37) (fun _ h9 => h9) rfl dX9_putOnTape_12 ?_
  refine lv_iload_n hx hb dX9_putOnTape_15 rfl (lv_at hl 2 rfl) ?_
  refine lv_iload_n hx hb dX9_putOnTape_16 rfl (lv_at hl 0 rfl) ?_
  refine lv_iushr (v := ((p0.toUInt32 >>> ((16 : Int32).toUInt32 &&& Int32.toUInt32 31)).toInt32)) hx hb dX9_putOnTape_17 rfl ?_
  refine lv_i2b (v := (((p0.toUInt32 >>> ((16 : Int32).toUInt32 &&& Int32.toUInt32 31)).toInt32).toInt8.toInt32)) hx hb dX9_putOnTape_18 rfl ?_
  refine va_bast hx hb hK hP hD hS 1 1 rfl rfl (vin (by decide +kernel)) dX9_putOnTape_19 (fun H locs hP hD hS => ?_)
  obtain ⟨f_4, hP, hD⟩ : ∃ f_4 : Nat → Int32, va_P V.1 vwCl [(y 0, .inr (9, [.ref (y 1), .int 13, .ref (y 2), .ref (y 10), .ref (y 19), .ref (y 25), .ref (y 26), .ref (y 30), .ref (y 31), .ref (y 32), .null, .null, .int 0, .int 0, .int 0])), (y 1, aB V 900 f_4)] H ∧ va_D A [(y 0, .inr (9, [.ref (y 1), .int 13, .ref (y 2), .ref (y 10), .ref (y 19), .ref (y 25), .ref (y 26), .ref (y 30), .ref (y 31), .ref (y 32), .null, .null, .int 0, .int 0, .int 0])), (y 1, aB V 900 f_4)] := ⟨_, hP, hD⟩
  refine lv_aload_n hx hb dX9_putOnTape_20 rfl (lv_at hl 1 rfl) ?_
  refine lv_dup hx hb dX9_putOnTape_21 rfl ?_
  refine va_get (ci := 9) (v := .int 13) (C := RX9) (T := TX9) (N := 15) hx hb hg inX9 hown hK hP 0 rfl rfl 1 (by decide) (hg _ q_2_37) (fun _ h9 => h9) rfl dX9_putOnTape_22 ?_
  refine lv_iconst (v := 1) hx hb dX9_putOnTape_25 (by decide) ?_
  refine lv_iadd hx hb dX9_putOnTape_26 ?_
  refine tpi (y := 14) (by decide +kernel) ?_
  refine va_put (ci := 9) (v := .int 14) (ty := .int) (C := RX9) (T := TX9) (N := 15) hx hb hg inX9 tyX9 tyX9_ok nmX9 hown hK hP hD hS 0 rfl rfl 1 (by decide) (hg _ q_2_37) (fun _ h9 => h9) rfl (by decide +kernel) rfl rfl (Nat.le_of_ble_eq_true rfl) dX9_putOnTape_27 (fun H locs hP hD hS => ?_)
  have hP : va_P V.1 vwCl [(y 0, .inr (9, [.ref (y 1), .int 14, .ref (y 2), .ref (y 10), .ref (y 19), .ref (y 25), .ref (y 26), .ref (y 30), .ref (y 31), .ref (y 32), .null, .null, .int 0, .int 0, .int 0])), (y 1, aB V 900 f_4)] H := hP
  have hD : va_D A [(y 0, .inr (9, [.ref (y 1), .int 14, .ref (y 2), .ref (y 10), .ref (y 19), .ref (y 25), .ref (y 26), .ref (y 30), .ref (y 31), .ref (y 32), .null, .null, .int 0, .int 0, .int 0])), (y 1, aB V 900 f_4)] := hD
  refine lv_iinc (v := 8) (lv' := [(2, .int 8), (0, .ref (y 0)), (1, .int p0)]) hx hb dX9_putOnTape_30 hl (k := 0) rfl (by decide +kernel) (by decide) rfl (fun ls hl => ?_)
  refine lv_goto (tgt := 3) hx hb dX9_putOnTape_33 (by decide) ?_
  refine lv_iload_n hx hb dX9_putOnTape_3 rfl (lv_at hl 0 rfl) ?_
  refine lv_if_lt (tgt := 36) hx hb dX9_putOnTape_4 (by decide) (fun c_5 => absurd c_5 (by decide)) (fun _ => ?_)
  refine lv_aload_n hx hb dX9_putOnTape_7 rfl (lv_at hl 1 rfl) ?_
  refine va_get (ci := 9) (v := .ref (y 1)) (C := RX9) (T := TX9) (N := 15) hx hb hg inX9 hown hK hP 0 rfl rfl 0 (by decide) (hg _ q_2_36) (fun _ h9 => h9) rfl dX9_putOnTape_8 ?_
  refine lv_aload_n hx hb dX9_putOnTape_11 rfl (lv_at hl 1 rfl) ?_
  refine va_get (ci := 9) (v := .int 14) (C := RX9) (T := TX9) (N := 15) hx hb hg inX9 hown hK hP 0 rfl rfl 1 (by decide) (hg _ q_2_37) (fun _ h9 => h9) rfl dX9_putOnTape_12 ?_
  refine lv_iload_n hx hb dX9_putOnTape_15 rfl (lv_at hl 2 rfl) ?_
  refine lv_iload_n hx hb dX9_putOnTape_16 rfl (lv_at hl 0 rfl) ?_
  refine lv_iushr (v := ((p0.toUInt32 >>> ((8 : Int32).toUInt32 &&& Int32.toUInt32 31)).toInt32)) hx hb dX9_putOnTape_17 rfl ?_
  refine lv_i2b (v := (((p0.toUInt32 >>> ((8 : Int32).toUInt32 &&& Int32.toUInt32 31)).toInt32).toInt8.toInt32)) hx hb dX9_putOnTape_18 rfl ?_
  refine va_bast hx hb hK hP hD hS 1 1 rfl rfl (vin (by decide +kernel)) dX9_putOnTape_19 (fun H locs hP hD hS => ?_)
  obtain ⟨f_6, hP, hD⟩ : ∃ f_6 : Nat → Int32, va_P V.1 vwCl [(y 0, .inr (9, [.ref (y 1), .int 14, .ref (y 2), .ref (y 10), .ref (y 19), .ref (y 25), .ref (y 26), .ref (y 30), .ref (y 31), .ref (y 32), .null, .null, .int 0, .int 0, .int 0])), (y 1, aB V 900 f_6)] H ∧ va_D A [(y 0, .inr (9, [.ref (y 1), .int 14, .ref (y 2), .ref (y 10), .ref (y 19), .ref (y 25), .ref (y 26), .ref (y 30), .ref (y 31), .ref (y 32), .null, .null, .int 0, .int 0, .int 0])), (y 1, aB V 900 f_6)] := ⟨_, hP, hD⟩
  refine lv_aload_n hx hb dX9_putOnTape_20 rfl (lv_at hl 1 rfl) ?_
  refine lv_dup hx hb dX9_putOnTape_21 rfl ?_
  refine va_get (ci := 9) (v := .int 14) (C := RX9) (T := TX9) (N := 15) hx hb hg inX9 hown hK hP 0 rfl rfl 1 (by decide) (hg _ q_2_37) (fun _ h9 => h9) rfl dX9_putOnTape_22 ?_
  refine lv_iconst (v := 1) hx hb dX9_putOnTape_25 (by decide) ?_
  refine lv_iadd hx hb dX9_putOnTape_26 ?_
  refine tpi (y := 15) (by decide +kernel) ?_
  refine va_put (ci := 9) (v := .int 15) (ty := .int) (C := RX9) (T := TX9) (N := 15) hx hb hg inX9 tyX9 tyX9_ok nmX9 hown hK hP hD hS 0 rfl rfl 1 (by decide) (hg _ q_2_37) (fun _ h9 => h9) rfl (by decide +kernel) rfl rfl (Nat.le_of_ble_eq_true rfl) dX9_putOnTape_27 (fun H locs hP hD hS => ?_)
  have hP : va_P V.1 vwCl [(y 0, .inr (9, [.ref (y 1), .int 15, .ref (y 2), .ref (y 10), .ref (y 19), .ref (y 25), .ref (y 26), .ref (y 30), .ref (y 31), .ref (y 32), .null, .null, .int 0, .int 0, .int 0])), (y 1, aB V 900 f_6)] H := hP
  have hD : va_D A [(y 0, .inr (9, [.ref (y 1), .int 15, .ref (y 2), .ref (y 10), .ref (y 19), .ref (y 25), .ref (y 26), .ref (y 30), .ref (y 31), .ref (y 32), .null, .null, .int 0, .int 0, .int 0])), (y 1, aB V 900 f_6)] := hD
  refine lv_iinc (v := 0) (lv' := [(2, .int 0), (0, .ref (y 0)), (1, .int p0)]) hx hb dX9_putOnTape_30 hl (k := 0) rfl (by decide +kernel) (by decide) rfl (fun ls hl => ?_)
  refine lv_goto (tgt := 3) hx hb dX9_putOnTape_33 (by decide) ?_
  refine lv_iload_n hx hb dX9_putOnTape_3 rfl (lv_at hl 0 rfl) ?_
  refine lv_if_lt (tgt := 36) hx hb dX9_putOnTape_4 (by decide) (fun c_7 => absurd c_7 (by decide)) (fun _ => ?_)
  refine lv_aload_n hx hb dX9_putOnTape_7 rfl (lv_at hl 1 rfl) ?_
  refine va_get (ci := 9) (v := .ref (y 1)) (C := RX9) (T := TX9) (N := 15) hx hb hg inX9 hown hK hP 0 rfl rfl 0 (by decide) (hg _ q_2_36) (fun _ h9 => h9) rfl dX9_putOnTape_8 ?_
  refine lv_aload_n hx hb dX9_putOnTape_11 rfl (lv_at hl 1 rfl) ?_
  refine va_get (ci := 9) (v := .int 15) (C := RX9) (T := TX9) (N := 15) hx hb hg inX9 hown hK hP 0 rfl rfl 1 (by decide) (hg _ q_2_37) (fun _ h9 => h9) rfl dX9_putOnTape_12 ?_
  refine lv_iload_n hx hb dX9_putOnTape_15 rfl (lv_at hl 2 rfl) ?_
  refine lv_iload_n hx hb dX9_putOnTape_16 rfl (lv_at hl 0 rfl) ?_
  refine lv_iushr (v := ((p0.toUInt32 >>> ((0 : Int32).toUInt32 &&& Int32.toUInt32 31)).toInt32)) hx hb dX9_putOnTape_17 rfl ?_
  refine lv_i2b (v := (((p0.toUInt32 >>> ((0 : Int32).toUInt32 &&& Int32.toUInt32 31)).toInt32).toInt8.toInt32)) hx hb dX9_putOnTape_18 rfl ?_
  refine va_bast hx hb hK hP hD hS 1 1 rfl rfl (vin (by decide +kernel)) dX9_putOnTape_19 (fun H locs hP hD hS => ?_)
  obtain ⟨f_8, hP, hD⟩ : ∃ f_8 : Nat → Int32, va_P V.1 vwCl [(y 0, .inr (9, [.ref (y 1), .int 15, .ref (y 2), .ref (y 10), .ref (y 19), .ref (y 25), .ref (y 26), .ref (y 30), .ref (y 31), .ref (y 32), .null, .null, .int 0, .int 0, .int 0])), (y 1, aB V 900 f_8)] H ∧ va_D A [(y 0, .inr (9, [.ref (y 1), .int 15, .ref (y 2), .ref (y 10), .ref (y 19), .ref (y 25), .ref (y 26), .ref (y 30), .ref (y 31), .ref (y 32), .null, .null, .int 0, .int 0, .int 0])), (y 1, aB V 900 f_8)] := ⟨_, hP, hD⟩
  refine lv_aload_n hx hb dX9_putOnTape_20 rfl (lv_at hl 1 rfl) ?_
  refine lv_dup hx hb dX9_putOnTape_21 rfl ?_
  refine va_get (ci := 9) (v := .int 15) (C := RX9) (T := TX9) (N := 15) hx hb hg inX9 hown hK hP 0 rfl rfl 1 (by decide) (hg _ q_2_37) (fun _ h9 => h9) rfl dX9_putOnTape_22 ?_
  refine lv_iconst (v := 1) hx hb dX9_putOnTape_25 (by decide) ?_
  refine lv_iadd hx hb dX9_putOnTape_26 ?_
  refine tpi (y := 16) (by decide +kernel) ?_
  refine va_put (ci := 9) (v := .int 16) (ty := .int) (C := RX9) (T := TX9) (N := 15) hx hb hg inX9 tyX9 tyX9_ok nmX9 hown hK hP hD hS 0 rfl rfl 1 (by decide) (hg _ q_2_37) (fun _ h9 => h9) rfl (by decide +kernel) rfl rfl (Nat.le_of_ble_eq_true rfl) dX9_putOnTape_27 (fun H locs hP hD hS => ?_)
  have hP : va_P V.1 vwCl [(y 0, .inr (9, [.ref (y 1), .int 16, .ref (y 2), .ref (y 10), .ref (y 19), .ref (y 25), .ref (y 26), .ref (y 30), .ref (y 31), .ref (y 32), .null, .null, .int 0, .int 0, .int 0])), (y 1, aB V 900 f_8)] H := hP
  have hD : va_D A [(y 0, .inr (9, [.ref (y 1), .int 16, .ref (y 2), .ref (y 10), .ref (y 19), .ref (y 25), .ref (y 26), .ref (y 30), .ref (y 31), .ref (y 32), .null, .null, .int 0, .int 0, .int 0])), (y 1, aB V 900 f_8)] := hD
  refine lv_iinc (v := (-8)) (lv' := [(2, .int (-8)), (0, .ref (y 0)), (1, .int p0)]) hx hb dX9_putOnTape_30 hl (k := 0) rfl (by decide +kernel) (by decide) rfl (fun ls hl => ?_)
  refine lv_goto (tgt := 3) hx hb dX9_putOnTape_33 (by decide) ?_
  refine lv_iload_n hx hb dX9_putOnTape_3 rfl (lv_at hl 0 rfl) ?_
  refine lv_if_lt (tgt := 36) hx hb dX9_putOnTape_4 (by decide) (fun _ => ?_) (fun c_9 => absurd c_9 (by decide))
  exact fiV hx hb hr hlk hK hP hD hS dX9_putOnTape_36 (Nat.le_of_ble_eq_true rfl) (Nat.le_of_ble_eq_true rfl) (⟨f_2, f_4, f_6, f_8, rfl⟩)
set_option maxHeartbeats 4000000 in
set_option maxRecDepth 100000 in
theorem c_X9_putOnTape_4 (l : Launch) (V : GV) (y : Nat → Nat) (p0 : Int32) (f1 : Nat → Int32) : Ct l V yX9_putOnTape (.code yX9_putOnTape cX9_putOnTape 3 none) 1 [.ref (y 0), .int p0] [(y 0, .inr (9, [.ref (y 1), .int 16, .ref (y 2), .ref (y 10), .ref (y 19), .ref (y 25), .ref (y 26), .ref (y 30), .ref (y 31), .ref (y 32), .null, .null, .int 0, .int 0, .int 0])), (y 1, aB V 900 f1)] 0 0 (QV V (fun (w : va_W) => (∃ (f_2 : Nat → Int32) (f_4 : Nat → Int32) (f_6 : Nat → Int32) (f_8 : Nat → Int32), w = [(y 0, .inr (9, [.ref (y 1), .int 20, .ref (y 2), .ref (y 10), .ref (y 19), .ref (y 25), .ref (y 26), .ref (y 30), .ref (y 31), .ref (y 32), .null, .null, .int 0, .int 0, .int 0])), (y 1, aB V 900 f_8)]))) := by
  refine Ct.of (by decide) (Nat.le_of_ble_eq_true rfl) (fun p e s m below meth c A ls hx hb hr hml hown hlk hnm hg hP hK hD hE hA hS hl => ?_)
  have hl : lv_has ls 3 [(0, .ref (y 0)), (1, .int p0)] := hl
  refine lv_bipush (v := 24) hx hb dX9_putOnTape_0 (by decide) ?_
  refine lv_istore_n (lv' := [(2, .int 24), (0, .ref (y 0)), (1, .int p0)]) hx hb dX9_putOnTape_2 rfl hl (by decide) rfl (fun ls hl => ?_)
  refine lv_iload_n hx hb dX9_putOnTape_3 rfl (lv_at hl 0 rfl) ?_
  refine lv_if_lt (tgt := 36) hx hb dX9_putOnTape_4 (by decide) (fun c_1 => absurd c_1 (by decide)) (fun _ => ?_)
  refine lv_aload_n hx hb dX9_putOnTape_7 rfl (lv_at hl 1 rfl) ?_
  refine va_get (ci := 9) (v := .ref (y 1)) (C := RX9) (T := TX9) (N := 15) hx hb hg inX9 hown hK hP 0 rfl rfl 0 (by decide) (hg _ q_2_36) (fun _ h9 => h9) rfl dX9_putOnTape_8 ?_
  refine lv_aload_n hx hb dX9_putOnTape_11 rfl (lv_at hl 1 rfl) ?_
  refine va_get (ci := 9) (v := .int 16) (C := RX9) (T := TX9) (N := 15) hx hb hg inX9 hown hK hP 0 rfl rfl 1 (by decide) (hg _ q_2_37) (fun _ h9 => h9) rfl dX9_putOnTape_12 ?_
  refine lv_iload_n hx hb dX9_putOnTape_15 rfl (lv_at hl 2 rfl) ?_
  refine lv_iload_n hx hb dX9_putOnTape_16 rfl (lv_at hl 0 rfl) ?_
  refine lv_iushr (v := ((p0.toUInt32 >>> ((24 : Int32).toUInt32 &&& Int32.toUInt32 31)).toInt32)) hx hb dX9_putOnTape_17 rfl ?_
  refine lv_i2b (v := (((p0.toUInt32 >>> ((24 : Int32).toUInt32 &&& Int32.toUInt32 31)).toInt32).toInt8.toInt32)) hx hb dX9_putOnTape_18 rfl ?_
  refine va_bast hx hb hK hP hD hS 1 1 rfl rfl (vin (by decide +kernel)) dX9_putOnTape_19 (fun H locs hP hD hS => ?_)
  obtain ⟨f_2, hP, hD⟩ : ∃ f_2 : Nat → Int32, va_P V.1 vwCl [(y 0, .inr (9, [.ref (y 1), .int 16, .ref (y 2), .ref (y 10), .ref (y 19), .ref (y 25), .ref (y 26), .ref (y 30), .ref (y 31), .ref (y 32), .null, .null, .int 0, .int 0, .int 0])), (y 1, aB V 900 f_2)] H ∧ va_D A [(y 0, .inr (9, [.ref (y 1), .int 16, .ref (y 2), .ref (y 10), .ref (y 19), .ref (y 25), .ref (y 26), .ref (y 30), .ref (y 31), .ref (y 32), .null, .null, .int 0, .int 0, .int 0])), (y 1, aB V 900 f_2)] := ⟨_, hP, hD⟩
  refine lv_aload_n hx hb dX9_putOnTape_20 rfl (lv_at hl 1 rfl) ?_
  refine lv_dup hx hb dX9_putOnTape_21 rfl ?_
  refine va_get (ci := 9) (v := .int 16) (C := RX9) (T := TX9) (N := 15) hx hb hg inX9 hown hK hP 0 rfl rfl 1 (by decide) (hg _ q_2_37) (fun _ h9 => h9) rfl dX9_putOnTape_22 ?_
  refine lv_iconst (v := 1) hx hb dX9_putOnTape_25 (by decide) ?_
  refine lv_iadd hx hb dX9_putOnTape_26 ?_
  refine tpi (y := 17) (by decide +kernel) ?_
  refine va_put (ci := 9) (v := .int 17) (ty := .int) (C := RX9) (T := TX9) (N := 15) hx hb hg inX9 tyX9 tyX9_ok nmX9 hown hK hP hD hS 0 rfl rfl 1 (by decide) (hg _ q_2_37) (fun _ h9 => h9) rfl (by decide +kernel) rfl rfl (Nat.le_of_ble_eq_true rfl) dX9_putOnTape_27 (fun H locs hP hD hS => ?_)
  have hP : va_P V.1 vwCl [(y 0, .inr (9, [.ref (y 1), .int 17, .ref (y 2), .ref (y 10), .ref (y 19), .ref (y 25), .ref (y 26), .ref (y 30), .ref (y 31), .ref (y 32), .null, .null, .int 0, .int 0, .int 0])), (y 1, aB V 900 f_2)] H := hP
  have hD : va_D A [(y 0, .inr (9, [.ref (y 1), .int 17, .ref (y 2), .ref (y 10), .ref (y 19), .ref (y 25), .ref (y 26), .ref (y 30), .ref (y 31), .ref (y 32), .null, .null, .int 0, .int 0, .int 0])), (y 1, aB V 900 f_2)] := hD
  refine lv_iinc (v := 16) (lv' := [(2, .int 16), (0, .ref (y 0)), (1, .int p0)]) hx hb dX9_putOnTape_30 hl (k := 0) rfl (by decide +kernel) (by decide) rfl (fun ls hl => ?_)
  refine lv_goto (tgt := 3) hx hb dX9_putOnTape_33 (by decide) ?_
  refine lv_iload_n hx hb dX9_putOnTape_3 rfl (lv_at hl 0 rfl) ?_
  refine lv_if_lt (tgt := 36) hx hb dX9_putOnTape_4 (by decide) (fun c_3 => absurd c_3 (by decide)) (fun _ => ?_)
  refine lv_aload_n hx hb dX9_putOnTape_7 rfl (lv_at hl 1 rfl) ?_
  refine va_get (ci := 9) (v := .ref (y 1)) (C := RX9) (T := TX9) (N := 15) hx hb hg inX9 hown hK hP 0 rfl rfl 0 (by decide) (hg _ q_2_36) (fun _ h9 => h9) rfl dX9_putOnTape_8 ?_
  refine lv_aload_n hx hb dX9_putOnTape_11 rfl (lv_at hl 1 rfl) ?_
  refine va_get (ci := 9) (v := .int 17) (C := RX9) (T := TX9) (N := 15) hx hb hg inX9 hown hK hP 0 rfl rfl 1 (by decide) (hg _ q_2_37) (fun _ h9 => h9) rfl dX9_putOnTape_12 ?_
  refine lv_iload_n hx hb dX9_putOnTape_15 rfl (lv_at hl 2 rfl) ?_
  refine lv_iload_n hx hb dX9_putOnTape_16 rfl (lv_at hl 0 rfl) ?_
  refine lv_iushr (v := ((p0.toUInt32 >>> ((16 : Int32).toUInt32 &&& Int32.toUInt32 31)).toInt32)) hx hb dX9_putOnTape_17 rfl ?_
  refine lv_i2b (v := (((p0.toUInt32 >>> ((16 : Int32).toUInt32 &&& Int32.toUInt32 31)).toInt32).toInt8.toInt32)) hx hb dX9_putOnTape_18 rfl ?_
  refine va_bast hx hb hK hP hD hS 1 1 rfl rfl (vin (by decide +kernel)) dX9_putOnTape_19 (fun H locs hP hD hS => ?_)
  obtain ⟨f_4, hP, hD⟩ : ∃ f_4 : Nat → Int32, va_P V.1 vwCl [(y 0, .inr (9, [.ref (y 1), .int 17, .ref (y 2), .ref (y 10), .ref (y 19), .ref (y 25), .ref (y 26), .ref (y 30), .ref (y 31), .ref (y 32), .null, .null, .int 0, .int 0, .int 0])), (y 1, aB V 900 f_4)] H ∧ va_D A [(y 0, .inr (9, [.ref (y 1), .int 17, .ref (y 2), .ref (y 10), .ref (y 19), .ref (y 25), .ref (y 26), .ref (y 30), .ref (y 31), .ref (y 32), .null, .null, .int 0, .int 0, .int 0])), (y 1, aB V 900 f_4)] := ⟨_, hP, hD⟩
  refine lv_aload_n hx hb dX9_putOnTape_20 rfl (lv_at hl 1 rfl) ?_
  refine lv_dup hx hb dX9_putOnTape_21 rfl ?_
  refine va_get (ci := 9) (v := .int 17) (C := RX9) (T := TX9) (N := 15) hx hb hg inX9 hown hK hP 0 rfl rfl 1 (by decide) (hg _ q_2_37) (fun _ h9 => h9) rfl dX9_putOnTape_22 ?_
  refine lv_iconst (v := 1) hx hb dX9_putOnTape_25 (by decide) ?_
  refine lv_iadd hx hb dX9_putOnTape_26 ?_
  refine tpi (y := 18) (by decide +kernel) ?_
  refine va_put (ci := 9) (v := .int 18) (ty := .int) (C := RX9) (T := TX9) (N := 15) hx hb hg inX9 tyX9 tyX9_ok nmX9 hown hK hP hD hS 0 rfl rfl 1 (by decide) (hg _ q_2_37) (fun _ h9 => h9) rfl (by decide +kernel) rfl rfl (Nat.le_of_ble_eq_true rfl) dX9_putOnTape_27 (fun H locs hP hD hS => ?_)
  have hP : va_P V.1 vwCl [(y 0, .inr (9, [.ref (y 1), .int 18, .ref (y 2), .ref (y 10), .ref (y 19), .ref (y 25), .ref (y 26), .ref (y 30), .ref (y 31), .ref (y 32), .null, .null, .int 0, .int 0, .int 0])), (y 1, aB V 900 f_4)] H := hP
  have hD : va_D A [(y 0, .inr (9, [.ref (y 1), .int 18, .ref (y 2), .ref (y 10), .ref (y 19), .ref (y 25), .ref (y 26), .ref (y 30), .ref (y 31), .ref (y 32), .null, .null, .int 0, .int 0, .int 0])), (y 1, aB V 900 f_4)] := hD
  refine lv_iinc (v := 8) (lv' := [(2, .int 8), (0, .ref (y 0)), (1, .int p0)]) hx hb dX9_putOnTape_30 hl (k := 0) rfl (by decide +kernel) (by decide) rfl (fun ls hl => ?_)
  refine lv_goto (tgt := 3) hx hb dX9_putOnTape_33 (by decide) ?_
  refine lv_iload_n hx hb dX9_putOnTape_3 rfl (lv_at hl 0 rfl) ?_
  refine lv_if_lt (tgt := 36) hx hb dX9_putOnTape_4 (by decide) (fun c_5 => absurd c_5 (by decide)) (fun _ => ?_)
  refine lv_aload_n hx hb dX9_putOnTape_7 rfl (lv_at hl 1 rfl) ?_
  refine va_get (ci := 9) (v := .ref (y 1)) (C := RX9) (T := TX9) (N := 15) hx hb hg inX9 hown hK hP 0 rfl rfl 0 (by decide) (hg _ q_2_36) (fun _ h9 => h9) rfl dX9_putOnTape_8 ?_
  refine lv_aload_n hx hb dX9_putOnTape_11 rfl (lv_at hl 1 rfl) ?_
  refine va_get (ci := 9) (v := .int 18) (C := RX9) (T := TX9) (N := 15) hx hb hg inX9 hown hK hP 0 rfl rfl 1 (by decide) (hg _ q_2_37) (fun _ h9 => h9) rfl dX9_putOnTape_12 ?_
  refine lv_iload_n hx hb dX9_putOnTape_15 rfl (lv_at hl 2 rfl) ?_
  refine lv_iload_n hx hb dX9_putOnTape_16 rfl (lv_at hl 0 rfl) ?_
  refine lv_iushr (v := ((p0.toUInt32 >>> ((8 : Int32).toUInt32 &&& Int32.toUInt32 31)).toInt32)) hx hb dX9_putOnTape_17 rfl ?_
  refine lv_i2b (v := (((p0.toUInt32 >>> ((8 : Int32).toUInt32 &&& Int32.toUInt32 31)).toInt32).toInt8.toInt32)) hx hb dX9_putOnTape_18 rfl ?_
  refine va_bast hx hb hK hP hD hS 1 1 rfl rfl (vin (by decide +kernel)) dX9_putOnTape_19 (fun H locs hP hD hS => ?_)
  obtain ⟨f_6, hP, hD⟩ : ∃ f_6 : Nat → Int32, va_P V.1 vwCl [(y 0, .inr (9, [.ref (y 1), .int 18, .ref (y 2), .ref (y 10), .ref (y 19), .ref (y 25), .ref (y 26), .ref (y 30), .ref (y 31), .ref (y 32), .null, .null, .int 0, .int 0, .int 0])), (y 1, aB V 900 f_6)] H ∧ va_D A [(y 0, .inr (9, [.ref (y 1), .int 18, .ref (y 2), .ref (y 10), .ref (y 19), .ref (y 25), .ref (y 26), .ref (y 30), .ref (y 31), .ref (y 32), .null, .null, .int 0, .int 0, .int 0])), (y 1, aB V 900 f_6)] := ⟨_, hP, hD⟩
  refine lv_aload_n hx hb dX9_putOnTape_20 rfl (lv_at hl 1 rfl) ?_
  refine lv_dup hx hb dX9_putOnTape_21 rfl ?_
  refine va_get (ci := 9) (v := .int 18) (C := RX9) (T := TX9) (N := 15) hx hb hg inX9 hown hK hP 0 rfl rfl 1 (by decide) (hg _ q_2_37) (fun _ h9 => h9) rfl dX9_putOnTape_22 ?_
  refine lv_iconst (v := 1) hx hb dX9_putOnTape_25 (by decide) ?_
  refine lv_iadd hx hb dX9_putOnTape_26 ?_
  refine tpi (y := 19) (by decide +kernel) ?_
  refine va_put (ci := 9) (v := .int 19) (ty := .int) (C := RX9) (T := TX9) (N := 15) hx hb hg inX9 tyX9 tyX9_ok nmX9 hown hK hP hD hS 0 rfl rfl 1 (by decide) (hg _ q_2_37) (fun _ h9 => h9) rfl (by decide +kernel) rfl rfl (Nat.le_of_ble_eq_true rfl) dX9_putOnTape_27 (fun H locs hP hD hS => ?_)
  have hP : va_P V.1 vwCl [(y 0, .inr (9, [.ref (y 1), .int 19, .ref (y 2), .ref (y 10), .ref (y 19), .ref (y 25), .ref (y 26), .ref (y 30), .ref (y 31), .ref (y 32), .null, .null, .int 0, .int 0, .int 0])), (y 1, aB V 900 f_6)] H := hP
  have hD : va_D A [(y 0, .inr (9, [.ref (y 1), .int 19, .ref (y 2), .ref (y 10), .ref (y 19), .ref (y 25), .ref (y 26), .ref (y 30), .ref (y 31), .ref (y 32), .null, .null, .int 0, .int 0, .int 0])), (y 1, aB V 900 f_6)] := hD
  refine lv_iinc (v := 0) (lv' := [(2, .int 0), (0, .ref (y 0)), (1, .int p0)]) hx hb dX9_putOnTape_30 hl (k := 0) rfl (by decide +kernel) (by decide) rfl (fun ls hl => ?_)
  refine lv_goto (tgt := 3) hx hb dX9_putOnTape_33 (by decide) ?_
  refine lv_iload_n hx hb dX9_putOnTape_3 rfl (lv_at hl 0 rfl) ?_
  refine lv_if_lt (tgt := 36) hx hb dX9_putOnTape_4 (by decide) (fun c_7 => absurd c_7 (by decide)) (fun _ => ?_)
  refine lv_aload_n hx hb dX9_putOnTape_7 rfl (lv_at hl 1 rfl) ?_
  refine va_get (ci := 9) (v := .ref (y 1)) (C := RX9) (T := TX9) (N := 15) hx hb hg inX9 hown hK hP 0 rfl rfl 0 (by decide) (hg _ q_2_36) (fun _ h9 => h9) rfl dX9_putOnTape_8 ?_
  refine lv_aload_n hx hb dX9_putOnTape_11 rfl (lv_at hl 1 rfl) ?_
  refine va_get (ci := 9) (v := .int 19) (C := RX9) (T := TX9) (N := 15) hx hb hg inX9 hown hK hP 0 rfl rfl 1 (by decide) (hg _ q_2_37) (fun _ h9 => h9) rfl dX9_putOnTape_12 ?_
  refine lv_iload_n hx hb dX9_putOnTape_15 rfl (lv_at hl 2 rfl) ?_
  refine lv_iload_n hx hb dX9_putOnTape_16 rfl (lv_at hl 0 rfl) ?_
  refine lv_iushr (v := ((p0.toUInt32 >>> ((0 : Int32).toUInt32 &&& Int32.toUInt32 31)).toInt32)) hx hb dX9_putOnTape_17 rfl ?_
  refine lv_i2b (v := (((p0.toUInt32 >>> ((0 : Int32).toUInt32 &&& Int32.toUInt32 31)).toInt32).toInt8.toInt32)) hx hb dX9_putOnTape_18 rfl ?_
  refine va_bast hx hb hK hP hD hS 1 1 rfl rfl (vin (by decide +kernel)) dX9_putOnTape_19 (fun H locs hP hD hS => ?_)
  obtain ⟨f_8, hP, hD⟩ : ∃ f_8 : Nat → Int32, va_P V.1 vwCl [(y 0, .inr (9, [.ref (y 1), .int 19, .ref (y 2), .ref (y 10), .ref (y 19), .ref (y 25), .ref (y 26), .ref (y 30), .ref (y 31), .ref (y 32), .null, .null, .int 0, .int 0, .int 0])), (y 1, aB V 900 f_8)] H ∧ va_D A [(y 0, .inr (9, [.ref (y 1), .int 19, .ref (y 2), .ref (y 10), .ref (y 19), .ref (y 25), .ref (y 26), .ref (y 30), .ref (y 31), .ref (y 32), .null, .null, .int 0, .int 0, .int 0])), (y 1, aB V 900 f_8)] := ⟨_, hP, hD⟩
  refine lv_aload_n hx hb dX9_putOnTape_20 rfl (lv_at hl 1 rfl) ?_
  refine lv_dup hx hb dX9_putOnTape_21 rfl ?_
  refine va_get (ci := 9) (v := .int 19) (C := RX9) (T := TX9) (N := 15) hx hb hg inX9 hown hK hP 0 rfl rfl 1 (by decide) (hg _ q_2_37) (fun _ h9 => h9) rfl dX9_putOnTape_22 ?_
  refine lv_iconst (v := 1) hx hb dX9_putOnTape_25 (by decide) ?_
  refine lv_iadd hx hb dX9_putOnTape_26 ?_
  refine tpi (y := 20) (by decide +kernel) ?_
  refine va_put (ci := 9) (v := .int 20) (ty := .int) (C := RX9) (T := TX9) (N := 15) hx hb hg inX9 tyX9 tyX9_ok nmX9 hown hK hP hD hS 0 rfl rfl 1 (by decide) (hg _ q_2_37) (fun _ h9 => h9) rfl (by decide +kernel) rfl rfl (Nat.le_of_ble_eq_true rfl) dX9_putOnTape_27 (fun H locs hP hD hS => ?_)
  have hP : va_P V.1 vwCl [(y 0, .inr (9, [.ref (y 1), .int 20, .ref (y 2), .ref (y 10), .ref (y 19), .ref (y 25), .ref (y 26), .ref (y 30), .ref (y 31), .ref (y 32), .null, .null, .int 0, .int 0, .int 0])), (y 1, aB V 900 f_8)] H := hP
  have hD : va_D A [(y 0, .inr (9, [.ref (y 1), .int 20, .ref (y 2), .ref (y 10), .ref (y 19), .ref (y 25), .ref (y 26), .ref (y 30), .ref (y 31), .ref (y 32), .null, .null, .int 0, .int 0, .int 0])), (y 1, aB V 900 f_8)] := hD
  refine lv_iinc (v := (-8)) (lv' := [(2, .int (-8)), (0, .ref (y 0)), (1, .int p0)]) hx hb dX9_putOnTape_30 hl (k := 0) rfl (by decide +kernel) (by decide) rfl (fun ls hl => ?_)
  refine lv_goto (tgt := 3) hx hb dX9_putOnTape_33 (by decide) ?_
  refine lv_iload_n hx hb dX9_putOnTape_3 rfl (lv_at hl 0 rfl) ?_
  refine lv_if_lt (tgt := 36) hx hb dX9_putOnTape_4 (by decide) (fun _ => ?_) (fun c_9 => absurd c_9 (by decide))
  exact fiV hx hb hr hlk hK hP hD hS dX9_putOnTape_36 (Nat.le_of_ble_eq_true rfl) (Nat.le_of_ble_eq_true rfl) (⟨f_2, f_4, f_6, f_8, rfl⟩)
theorem dX9_feed_0 : decode cX9_feed 0 = .ok (.aload_n 0, 1) := by decide +kernel
theorem dX9_feed_1 : decode cX9_feed 1 = .ok (.getfield 70, 3) := by decide +kernel
theorem dX9_feed_4 : decode cX9_feed 4 = .ok (.bipush 20, 2) := by decide +kernel
theorem dX9_feed_6 : decode cX9_feed 6 = .ok (.iadd, 1) := by decide +kernel
theorem dX9_feed_7 : decode cX9_feed 7 = .ok (.sipush 900, 3) := by decide +kernel
theorem dX9_feed_10 : decode cX9_feed 10 = .ok (.if_icmp .le 6, 3) := by decide +kernel
theorem dX9_feed_16 : decode cX9_feed 16 = .ok (.aload_n 0, 1) := by decide +kernel
theorem dX9_feed_17 : decode cX9_feed 17 = .ok (.iload_n 1, 1) := by decide +kernel
theorem q_2_89 : Cond.code yX9_putOnTape prog_1_method_3_code 3 none ∈ gw := gw_2 (i := 89) (rfl) rfl
theorem q_1_1 : Cond.initialized "BeaconDelay" ∈ gw := gw_1 (i := 1) (by decide +kernel) rfl
theorem q_2_88 : Cond.instanceMethod yX9_putOnTape ∈ gw := gw_2 (i := 88) (by decide +kernel) rfl
theorem q_s_0 : Cond.selects "BeaconDelay" yX9_putOnTape yX9_putOnTape ∈ gw := gw_s (i := 0) (by decide +kernel) rfl
theorem mt_X9_putOnTape : MtV yX9_putOnTape cX9_putOnTape 3 none 1 := ⟨⟨q_2_89, q_1_1, by decide +kernel, by decide +kernel, by decide +kernel⟩, q_2_88, q_s_0⟩
theorem q_2_86 : Cond.methodLink "BeaconDelay" 74 yX9_putOnTape ∈ gw := gw_2 (i := 86) (by decide +kernel) rfl
theorem dX9_feed_18 : decode cX9_feed 18 = .ok (.invokevirtual 74, 3) := by decide +kernel
theorem dX9_feed_21 : decode cX9_feed 21 = .ok (.aload_n 0, 1) := by decide +kernel
theorem dX9_feed_22 : decode cX9_feed 22 = .ok (.iload_n 2, 1) := by decide +kernel
theorem dX9_feed_23 : decode cX9_feed 23 = .ok (.invokevirtual 74, 3) := by decide +kernel
theorem dX9_feed_26 : decode cX9_feed 26 = .ok (.aload_n 0, 1) := by decide +kernel
theorem dX9_feed_27 : decode cX9_feed 27 = .ok (.iload_n 3, 1) := by decide +kernel
theorem dX9_feed_28 : decode cX9_feed 28 = .ok (.invokevirtual 74, 3) := by decide +kernel
theorem dX9_feed_31 : decode cX9_feed 31 = .ok (.aload_n 0, 1) := by decide +kernel
theorem dX9_feed_32 : decode cX9_feed 32 = .ok (.iload 4, 2) := by decide +kernel
theorem dX9_feed_34 : decode cX9_feed 34 = .ok (.invokevirtual 74, 3) := by decide +kernel
theorem dX9_feed_37 : decode cX9_feed 37 = .ok (.aload_n 0, 1) := by decide +kernel
theorem dX9_feed_38 : decode cX9_feed 38 = .ok (.iload 5, 2) := by decide +kernel
theorem dX9_feed_40 : decode cX9_feed 40 = .ok (.invokevirtual 74, 3) := by decide +kernel
theorem dX9_feed_43 : decode cX9_feed 43 = .ok (.aload_n 0, 1) := by decide +kernel
theorem dX9_feed_44 : decode cX9_feed 44 = .ok (.getfield 70, 3) := by decide +kernel
theorem dX9_feed_47 : decode cX9_feed 47 = .ok (.ireturn, 1) := by decide +kernel
set_option maxHeartbeats 4000000 in
set_option maxRecDepth 100000 in
theorem c_X9_feed_0 (l : Launch) (V : GV) (y : Nat → Nat) (p0 : Int32) (p1 : Int32) (p2 : Int32) (p3 : Int32) (p4 : Int32) : Ct l V yX9_feed (.code yX9_feed cX9_feed 6 (some .int)) 2 [.ref (y 0), .int p0, .int p1, .int p2, .int p3, .int p4] [(y 0, .inr (9, [.ref (y 1), .int 0, .ref (y 2), .ref (y 10), .ref (y 19), .ref (y 25), .ref (y 26), .ref (y 30), .ref (y 31), .ref (y 32), .null, .null, .int 0, .int 0, .int 0])), (y 1, aB V 900 (fun _ => 0))] 0 0 (QI V (fun (r : Int32) (w : va_W) => (∃ (f_2 : Nat → Int32) (f_3 : Nat → Int32) (f_4 : Nat → Int32) (f_5 : Nat → Int32) (f_6 : Nat → Int32) (f_7 : Nat → Int32) (f_8 : Nat → Int32) (f_9 : Nat → Int32) (f_10 : Nat → Int32) (f_11 : Nat → Int32) (f_12 : Nat → Int32) (f_13 : Nat → Int32) (f_14 : Nat → Int32) (f_15 : Nat → Int32) (f_16 : Nat → Int32) (f_17 : Nat → Int32) (f_18 : Nat → Int32) (f_19 : Nat → Int32) (f_20 : Nat → Int32) (f_21 : Nat → Int32), r = 20 ∧ w = [(y 0, .inr (9, [.ref (y 1), .int 20, .ref (y 2), .ref (y 10), .ref (y 19), .ref (y 25), .ref (y 26), .ref (y 30), .ref (y 31), .ref (y 32), .null, .null, .int 0, .int 0, .int 0])), (y 1, aB V 900 f_21)]))) := by
  refine Ct.of (by decide) (Nat.le_of_ble_eq_true rfl) (fun p e s m below meth c A ls hx hb hr hml hown hlk hnm hg hP hK hD hE hA hS hl => ?_)
  have hl : lv_has ls 6 [(0, .ref (y 0)), (1, .int p0), (2, .int p1), (3, .int p2), (4, .int p3), (5, .int p4)] := hl
  refine lv_aload_n hx hb dX9_feed_0 rfl (lv_at hl 0 rfl) ?_
  refine va_get (ci := 9) (v := .int 0) (C := RX9) (T := TX9) (N := 15) hx hb hg inX9 hown hK hP 0 rfl rfl 1 (by decide) (hg _ q_2_37) (fun _ h9 => h9) rfl dX9_feed_1 ?_
  refine lv_bipush (v := 20) hx hb dX9_feed_4 (by decide) ?_
  refine lv_iadd hx hb dX9_feed_6 ?_
  refine tpi (y := 20) (by decide +kernel) ?_
  refine lv_sipush (v := 900) hx hb dX9_feed_7 (by decide) ?_
  refine lv_icmp_le (tgt := 16) hx hb dX9_feed_10 (by decide) (fun _ => ?_) (fun c_1 => absurd c_1 (by decide))
  refine lv_aload_n hx hb dX9_feed_16 rfl (lv_at hl 0 rfl) ?_
  refine lv_iload_n hx hb dX9_feed_17 rfl (lv_at hl 1 rfl) ?_
  refine jnV (wr := []) (rnV (rest := []) ⟨hx, hb, hml, hown, hg⟩ (c_X9_putOnTape_0 l V y p0) mt_X9_putOnTape q_2_86 ⟨Nat.le_of_ble_eq_true rfl, Nat.le_of_ble_eq_true rfl⟩ hK hP hD hS hA hE [0, 1] rfl rfl 0 rfl rfl rfl rfl hl.1 rfl (Nat.le_of_ble_eq_true rfl) dX9_feed_18 ⟨Nat.le_of_ble_eq_true rfl, Nat.le_of_ble_eq_true rfl⟩) hP hD hS hA [0, 1] [] rfl rfl rfl (by decide) (fun  w H locs hw hP hD hS => ?_)
  obtain ⟨f_2, f_3, f_4, f_5, rfl⟩ := hw
  have hP : va_P V.1 vwCl [(y 0, .inr (9, [.ref (y 1), .int 4, .ref (y 2), .ref (y 10), .ref (y 19), .ref (y 25), .ref (y 26), .ref (y 30), .ref (y 31), .ref (y 32), .null, .null, .int 0, .int 0, .int 0])), (y 1, aB V 900 f_5)] H := hP
  have hD : va_D A [(y 0, .inr (9, [.ref (y 1), .int 4, .ref (y 2), .ref (y 10), .ref (y 19), .ref (y 25), .ref (y 26), .ref (y 30), .ref (y 31), .ref (y 32), .null, .null, .int 0, .int 0, .int 0])), (y 1, aB V 900 f_5)] := hD
  refine lv_aload_n hx hb dX9_feed_21 rfl (lv_at hl 0 rfl) ?_
  refine lv_iload_n hx hb dX9_feed_22 rfl (lv_at hl 2 rfl) ?_
  refine jnV (wr := []) (rnV (rest := []) ⟨hx, hb, hml, hown, hg⟩ (c_X9_putOnTape_1 l V y p1 f_5) mt_X9_putOnTape q_2_86 ⟨Nat.le_of_ble_eq_true rfl, Nat.le_of_ble_eq_true rfl⟩ hK hP hD hS hA hE [0, 1] rfl rfl 0 rfl rfl rfl rfl hl.1 rfl (Nat.le_of_ble_eq_true rfl) dX9_feed_23 ⟨Nat.le_of_ble_eq_true rfl, Nat.le_of_ble_eq_true rfl⟩) hP hD hS hA [0, 1] [] rfl rfl rfl (by decide) (fun  w H locs hw hP hD hS => ?_)
  obtain ⟨f_6, f_7, f_8, f_9, rfl⟩ := hw
  have hP : va_P V.1 vwCl [(y 0, .inr (9, [.ref (y 1), .int 8, .ref (y 2), .ref (y 10), .ref (y 19), .ref (y 25), .ref (y 26), .ref (y 30), .ref (y 31), .ref (y 32), .null, .null, .int 0, .int 0, .int 0])), (y 1, aB V 900 f_9)] H := hP
  have hD : va_D A [(y 0, .inr (9, [.ref (y 1), .int 8, .ref (y 2), .ref (y 10), .ref (y 19), .ref (y 25), .ref (y 26), .ref (y 30), .ref (y 31), .ref (y 32), .null, .null, .int 0, .int 0, .int 0])), (y 1, aB V 900 f_9)] := hD
  refine lv_aload_n hx hb dX9_feed_26 rfl (lv_at hl 0 rfl) ?_
  refine lv_iload_n hx hb dX9_feed_27 rfl (lv_at hl 3 rfl) ?_
  refine jnV (wr := []) (rnV (rest := []) ⟨hx, hb, hml, hown, hg⟩ (c_X9_putOnTape_2 l V y p2 f_9) mt_X9_putOnTape q_2_86 ⟨Nat.le_of_ble_eq_true rfl, Nat.le_of_ble_eq_true rfl⟩ hK hP hD hS hA hE [0, 1] rfl rfl 0 rfl rfl rfl rfl hl.1 rfl (Nat.le_of_ble_eq_true rfl) dX9_feed_28 ⟨Nat.le_of_ble_eq_true rfl, Nat.le_of_ble_eq_true rfl⟩) hP hD hS hA [0, 1] [] rfl rfl rfl (by decide) (fun  w H locs hw hP hD hS => ?_)
  obtain ⟨f_10, f_11, f_12, f_13, rfl⟩ := hw
  have hP : va_P V.1 vwCl [(y 0, .inr (9, [.ref (y 1), .int 12, .ref (y 2), .ref (y 10), .ref (y 19), .ref (y 25), .ref (y 26), .ref (y 30), .ref (y 31), .ref (y 32), .null, .null, .int 0, .int 0, .int 0])), (y 1, aB V 900 f_13)] H := hP
  have hD : va_D A [(y 0, .inr (9, [.ref (y 1), .int 12, .ref (y 2), .ref (y 10), .ref (y 19), .ref (y 25), .ref (y 26), .ref (y 30), .ref (y 31), .ref (y 32), .null, .null, .int 0, .int 0, .int 0])), (y 1, aB V 900 f_13)] := hD
  refine lv_aload_n hx hb dX9_feed_31 rfl (lv_at hl 0 rfl) ?_
  refine lv_iload hx hb dX9_feed_32 (lv_at hl 4 rfl) ?_
  refine jnV (wr := []) (rnV (rest := []) ⟨hx, hb, hml, hown, hg⟩ (c_X9_putOnTape_3 l V y p3 f_13) mt_X9_putOnTape q_2_86 ⟨Nat.le_of_ble_eq_true rfl, Nat.le_of_ble_eq_true rfl⟩ hK hP hD hS hA hE [0, 1] rfl rfl 0 rfl rfl rfl rfl hl.1 rfl (Nat.le_of_ble_eq_true rfl) dX9_feed_34 ⟨Nat.le_of_ble_eq_true rfl, Nat.le_of_ble_eq_true rfl⟩) hP hD hS hA [0, 1] [] rfl rfl rfl (by decide) (fun  w H locs hw hP hD hS => ?_)
  obtain ⟨f_14, f_15, f_16, f_17, rfl⟩ := hw
  have hP : va_P V.1 vwCl [(y 0, .inr (9, [.ref (y 1), .int 16, .ref (y 2), .ref (y 10), .ref (y 19), .ref (y 25), .ref (y 26), .ref (y 30), .ref (y 31), .ref (y 32), .null, .null, .int 0, .int 0, .int 0])), (y 1, aB V 900 f_17)] H := hP
  have hD : va_D A [(y 0, .inr (9, [.ref (y 1), .int 16, .ref (y 2), .ref (y 10), .ref (y 19), .ref (y 25), .ref (y 26), .ref (y 30), .ref (y 31), .ref (y 32), .null, .null, .int 0, .int 0, .int 0])), (y 1, aB V 900 f_17)] := hD
  refine lv_aload_n hx hb dX9_feed_37 rfl (lv_at hl 0 rfl) ?_
  refine lv_iload hx hb dX9_feed_38 (lv_at hl 5 rfl) ?_
  refine jnV (wr := []) (rnV (rest := []) ⟨hx, hb, hml, hown, hg⟩ (c_X9_putOnTape_4 l V y p4 f_17) mt_X9_putOnTape q_2_86 ⟨Nat.le_of_ble_eq_true rfl, Nat.le_of_ble_eq_true rfl⟩ hK hP hD hS hA hE [0, 1] rfl rfl 0 rfl rfl rfl rfl hl.1 rfl (Nat.le_of_ble_eq_true rfl) dX9_feed_40 ⟨Nat.le_of_ble_eq_true rfl, Nat.le_of_ble_eq_true rfl⟩) hP hD hS hA [0, 1] [] rfl rfl rfl (by decide) (fun  w H locs hw hP hD hS => ?_)
  obtain ⟨f_18, f_19, f_20, f_21, rfl⟩ := hw
  have hP : va_P V.1 vwCl [(y 0, .inr (9, [.ref (y 1), .int 20, .ref (y 2), .ref (y 10), .ref (y 19), .ref (y 25), .ref (y 26), .ref (y 30), .ref (y 31), .ref (y 32), .null, .null, .int 0, .int 0, .int 0])), (y 1, aB V 900 f_21)] H := hP
  have hD : va_D A [(y 0, .inr (9, [.ref (y 1), .int 20, .ref (y 2), .ref (y 10), .ref (y 19), .ref (y 25), .ref (y 26), .ref (y 30), .ref (y 31), .ref (y 32), .null, .null, .int 0, .int 0, .int 0])), (y 1, aB V 900 f_21)] := hD
  refine lv_aload_n hx hb dX9_feed_43 rfl (lv_at hl 0 rfl) ?_
  refine va_get (ci := 9) (v := .int 20) (C := RX9) (T := TX9) (N := 15) hx hb hg inX9 hown hK hP 0 rfl rfl 1 (by decide) (hg _ q_2_37) (fun _ h9 => h9) rfl dX9_feed_44 ?_
  exact fiI hx hb hr hlk hK hP hD hS dX9_feed_47 (Nat.le_of_ble_eq_true rfl) (Nat.le_of_ble_eq_true rfl) (⟨f_2, f_3, f_4, f_5, f_6, f_7, f_8, f_9, f_10, f_11, f_12, f_13, f_14, f_15, f_16, f_17, f_18, f_19, f_20, f_21, rfl, rfl⟩)
theorem dX10_within_0 : decode cX10_within 0 = .ok (.lload_n 0, 1) := by decide +kernel
theorem dX10_within_1 : decode cX10_within 1 = .ok (.lload_n 2, 1) := by decide +kernel
theorem dX10_within_2 : decode cX10_within 2 = .ok (.lcmp, 1) := by decide +kernel
theorem dX10_within_3 : decode cX10_within 3 = .ok (.ifCond .lt 14, 3) := by decide +kernel
theorem dX10_within_17 : decode cX10_within 17 = .ok (.iconst 0, 1) := by decide +kernel
theorem dX10_within_18 : decode cX10_within 18 = .ok (.ireturn, 1) := by decide +kernel
theorem dX10_within_6 : decode cX10_within 6 = .ok (.lload_n 0, 1) := by decide +kernel
theorem dX10_within_7 : decode cX10_within 7 = .ok (.lload 4, 2) := by decide +kernel
theorem dX10_within_9 : decode cX10_within 9 = .ok (.lcmp, 1) := by decide +kernel
theorem dX10_within_10 : decode cX10_within 10 = .ok (.ifCond .gt 7, 3) := by decide +kernel
theorem dX10_within_13 : decode cX10_within 13 = .ok (.iconst 1, 1) := by decide +kernel
theorem dX10_within_14 : decode cX10_within 14 = .ok (.goto 4, 3) := by decide +kernel
set_option maxHeartbeats 4000000 in
set_option maxRecDepth 100000 in
theorem c_X10_within_0 (l : Launch) (V : GV) (j0 : Int64) (j1 : Int64) (j2 : Int64) : Ct l V yX10_within (.code yX10_within cX10_within 6 (some .boolean)) 1 [.long j0, .long j1, .long j2] [] 0 0 (QI V (fun (r : Int32) (w : va_W) => (j0 < j1 ∧ r = 0 ∧ w = []) ∨ ((¬ j0 < j1) ∧ j2 < j0 ∧ r = 0 ∧ w = []) ∨ ((¬ j0 < j1) ∧ (¬ j2 < j0) ∧ r = 1 ∧ w = []))) := by
  refine Ct.of (by decide) (Nat.le_of_ble_eq_true rfl) (fun p e s m below meth c A ls hx hb hr hml hown hlk hnm hg hP hK hD hE hA hS hl => ?_)
  have hl : lv_has ls 6 [(0, .long j0), (2, .long j1), (4, .long j2)] := hl
  refine lv_lload_n hx hb dX10_within_0 rfl (lv_at hl 0 rfl) ?_
  refine lv_lload_n hx hb dX10_within_1 rfl (lv_at hl 1 rfl) ?_
  refine W.lcmp hx hb dX10_within_2 ?_
  refine lv_if_lt (tgt := 17) hx hb dX10_within_3 (by decide) (fun c_1 => ?_) (fun c_1 => ?_)
  · replace c_1 : j0 < j1 := (lg_cmp_lt _ _).mp c_1
    refine lv_iconst (v := 0) hx hb dX10_within_17 (by decide) ?_
    exact fiZ rfl hx hb hr hlk hK hP hD hS dX10_within_18 (Nat.le_of_ble_eq_true rfl) (Nat.le_of_ble_eq_true rfl) (Or.inl ⟨c_1, rfl, rfl⟩)
  · replace c_1 : ¬ j0 < j1 := fun z => c_1 ((lg_cmp_lt _ _).mpr z)
    refine lv_lload_n hx hb dX10_within_6 rfl (lv_at hl 0 rfl) ?_
    refine lv_lload hx hb dX10_within_7 (lv_at hl 2 rfl) ?_
    refine W.lcmp hx hb dX10_within_9 ?_
    refine lv_if_gt (tgt := 17) hx hb dX10_within_10 (by decide) (fun c_2 => ?_) (fun c_2 => ?_)
    · replace c_2 : j2 < j0 := (lg_cmp_gt _ _).mp c_2
      refine lv_iconst (v := 0) hx hb dX10_within_17 (by decide) ?_
      exact fiZ rfl hx hb hr hlk hK hP hD hS dX10_within_18 (Nat.le_of_ble_eq_true rfl) (Nat.le_of_ble_eq_true rfl) (Or.inr (Or.inl ⟨c_1, c_2, rfl, rfl⟩))
    · replace c_2 : ¬ j2 < j0 := fun z => c_2 ((lg_cmp_gt _ _).mpr z)
      refine lv_iconst (v := 1) hx hb dX10_within_13 (by decide) ?_
      refine lv_goto (tgt := 18) hx hb dX10_within_14 (by decide) ?_
      exact fiZ rfl hx hb hr hlk hK hP hD hS dX10_within_18 (Nat.le_of_ble_eq_true rfl) (Nat.le_of_ble_eq_true rfl) (Or.inr (Or.inr (⟨c_1, c_2, rfl, rfl⟩)))
set_option maxHeartbeats 4000000 in
set_option maxRecDepth 100000 in
theorem c_X10_plain_1 (l : Launch) (V : GV) (z : Nat → Nat) : Ct l V yX10_plain (.code yX10_plain cX10_plain 2 none) 1 [.ref (z 4)] [(z 4, aI V 1025 (fun _ => 0))] 0 0 (QV V (fun (w : va_W) => (w = [(z 4, aI V 1025 (fun _ => 0))]))) := by
  refine Ct.of (by decide) (Nat.le_of_ble_eq_true rfl) (fun p e s m below meth c A ls hx hb hr hml hown hlk hnm hg hP hK hD hE hA hS hl => ?_)
  have hl : lv_has ls 2 [(0, .ref (z 4))] := hl
  refine lv_iconst (v := 0) hx hb dX10_plain_0 (by decide) ?_
  refine lv_istore_n (lv' := [(1, .int 0), (0, .ref (z 4))]) hx hb dX10_plain_1 rfl hl (by decide) rfl (fun ls hl => ?_)
  refine loopW 1025 (X := fun (i_1 : Nat) (H : Heap) (locs : List Loc) (ls : Array Slot) => 0 ≤ i_1 ∧ va_P V.1 vwCl [(z 4, aI V 1025 (fun _ => 0))] H ∧ va_D A [(z 4, aI V 1025 (fun _ => 0))] ∧ va_S A s.heap H locs ∧ lv_has ls 2 [(1, .int (nI i_1)), (0, .ref (z 4))]) (g := fun ls => F0 m 2 ls []) (fun i_1 H locs ls hi_i_1 hX ih_i_1 => ?_) 0 (Nat.le_of_ble_eq_true rfl) ⟨Nat.le_refl _, hP, hD, hS, lv_sub hl [0, 1] rfl⟩
  obtain ⟨hlo_i_1, hP, hD, hS, hl⟩ := hX
  refine lv_iload_n hx hb dX10_plain_2 rfl (lv_at hl 0 rfl) ?_
  refine lv_sipush (v := 1025) hx hb dX10_plain_3 (by decide) ?_
  refine lv_icmp_ge (tgt := 19) hx hb dX10_plain_6 (by decide) (fun c_2 => ?_) (fun c_2 => ?_)
  · have e_3 : i_1 = 1025 := by have q9 := (nI_leI (a := 1025) (b := i_1) (by omega) (by omega)).mp c_2; omega
    rw [e_3] at hl
    have hl : lv_has ls 2 [(1, .int 1025), (0, .ref (z 4))] := hl
    exact fiV hx hb hr hlk hK hP hD hS dX10_plain_19 (Nat.le_of_ble_eq_true rfl) (Nat.le_of_ble_eq_true rfl) (rfl)
  · have e_3 : i_1 < 1025 := by rcases Nat.lt_or_ge i_1 1025 with q9 | q9; exact q9; exact absurd (nI_le q9 (by omega)) c_2
    refine lv_aload_n hx hb dX10_plain_9 rfl (lv_at hl 1 rfl) ?_
    refine lv_iload_n hx hb dX10_plain_10 rfl (lv_at hl 0 rfl) ?_
    refine lv_iconst (v := 0) hx hb dX10_plain_11 (by decide) ?_
    refine va_iast hx hb hK hP hD hS 0 0 rfl rfl (vp_in_nI (by omega) (by decide)) dX10_plain_12 (fun H locs hP hD hS => ?_)
    have hP : va_P V.1 vwCl [(z 4, aI V 1025 (upd (fun _ => 0) (nI i_1).toNatClampNeg 0))] H := hP
    have hD : va_D A [(z 4, aI V 1025 (upd (fun _ => 0) (nI i_1).toNatClampNeg 0))] := hD
    have hP : va_P V.1 vwCl [(z 4, aI V 1025 (fun _ => 0))] H := by rw [upd0] at hP; exact hP
    have hD : va_D A [(z 4, aI V 1025 (fun _ => 0))] := by rw [upd0] at hD; exact hD
    refine lv_iinc (v := nI (i_1 + 1)) (lv' := [(1, .int (nI (i_1 + 1))), (0, .ref (z 4))]) hx hb dX10_plain_13 hl (k := 0) rfl (nI_add i_1 1) (by decide) rfl (fun ls hl => ?_)
    refine lv_goto (tgt := 2) hx hb dX10_plain_16 (by decide) ?_
    exact ih_i_1 e_3 _ _ _ ⟨(by omega), hP, hD, hS, lv_sub hl [0, 1] rfl⟩
theorem dX10_see_0 : decode cX10_see 0 = .ok (.iload_n 1, 1) := by decide +kernel
theorem dX10_see_1 : decode cX10_see 1 = .ok (.aload_n 0, 1) := by decide +kernel
theorem q_5_232 : Cond.fieldLink "BeaconDelayModel" 100 "BeaconDelayModel" "size" "I" ∈ gw := gw_5 (i := 232) (by decide +kernel) rfl
theorem dX10_see_2 : decode cX10_see 2 = .ok (.getfield 100, 3) := by decide +kernel
theorem dX10_see_5 : decode cX10_see 5 = .ok (.if_icmp .ge 12, 3) := by decide +kernel
theorem dX10_see_17 : decode cX10_see 17 = .ok (.iconst (-1), 1) := by decide +kernel
theorem dX10_see_18 : decode cX10_see 18 = .ok (.ireturn, 1) := by decide +kernel
set_option maxHeartbeats 4000000 in
set_option maxRecDepth 100000 in
theorem c_X10_see_0 (l : Launch) (V : GV) (z : Nat → Nat) : Ct l V yX10_see (.code yX10_see cX10_see 2 (some .int)) 1 [.ref (z 0), .int 0] [(z 0, .inr (10, mo z 0 0 0 0 0 0 0 0 0 0 (-1) 0 0 0 0 0))] 0 0 (QI V (fun (r : Int32) (w : va_W) => (r = (-1) ∧ w = [(z 0, .inr (10, mo z 0 0 0 0 0 0 0 0 0 0 (-1) 0 0 0 0 0))]))) := by
  refine Ct.of (by decide) (Nat.le_of_ble_eq_true rfl) (fun p e s m below meth c A ls hx hb hr hml hown hlk hnm hg hP hK hD hE hA hS hl => ?_)
  have hl : lv_has ls 2 [(0, .ref (z 0)), (1, .int 0)] := hl
  refine lv_iload_n hx hb dX10_see_0 rfl (lv_at hl 1 rfl) ?_
  refine lv_aload_n hx hb dX10_see_1 rfl (lv_at hl 0 rfl) ?_
  refine va_get (ci := 10) (v := .int 0) (C := RX10) (T := TX10) (N := 40) hx hb hg inX10 hown hK hP 0 rfl rfl 8 (by decide) (hg _ q_5_232) (fun _ h9 => h9) rfl dX10_see_2 ?_
  refine lv_icmp_ge (tgt := 17) hx hb dX10_see_5 (by decide) (fun _ => ?_) (fun c_1 => absurd c_1 (by decide))
  refine lv_iconst (v := (-1)) hx hb dX10_see_17 (by decide) ?_
  exact fiI hx hb hr hlk hK hP hD hS dX10_see_18 (Nat.le_of_ble_eq_true rfl) (Nat.le_of_ble_eq_true rfl) (⟨rfl, rfl⟩)
theorem dX10_next_0 : decode cX10_next 0 = .ok (.aload_n 0, 1) := by decide +kernel
theorem dX10_next_1 : decode cX10_next 1 = .ok (.aload_n 0, 1) := by decide +kernel
theorem q_5_231 : Cond.fieldLink "BeaconDelayModel" 118 "BeaconDelayModel" "behind" "I" ∈ gw := gw_5 (i := 231) (by decide +kernel) rfl
theorem dX10_next_2 : decode cX10_next 2 = .ok (.getfield 118, 3) := by decide +kernel
theorem q_5_230 : Cond.fieldLink "BeaconDelayModel" 115 "BeaconDelayModel" "at" "I" ∈ gw := gw_5 (i := 230) (by decide +kernel) rfl
theorem dX10_next_5 : decode cX10_next 5 = .ok (.putfield 115, 3) := by decide +kernel
theorem dX10_next_8 : decode cX10_next 8 = .ok (.aload_n 0, 1) := by decide +kernel
theorem dX10_next_9 : decode cX10_next 9 = .ok (.aload_n 0, 1) := by decide +kernel
theorem dX10_next_10 : decode cX10_next 10 = .ok (.getfield 115, 3) := by decide +kernel
theorem q_6_124 : Cond.code yX10_see prog_12_method_6_code 2 (some FieldType.int) ∈ gw := gw_6 (i := 124) (rfl) rfl
theorem q_6_123 : Cond.instanceMethod yX10_see ∈ gw := gw_6 (i := 123) (by decide +kernel) rfl
theorem q_s_55 : Cond.selects "BeaconDelayModel" yX10_see yX10_see ∈ gw := gw_s (i := 55) (by decide +kernel) rfl
theorem mt_X10_see : MtV yX10_see cX10_see 2 (some .int) 1 := ⟨⟨q_6_124, q_1_9, by decide +kernel, by decide +kernel, by decide +kernel⟩, q_6_123, q_s_55⟩
theorem q_6_121 : Cond.methodLink "BeaconDelayModel" 121 yX10_see ∈ gw := gw_6 (i := 121) (by decide +kernel) rfl
theorem dX10_next_13 : decode cX10_next 13 = .ok (.invokevirtual 121, 3) := by decide +kernel
theorem dX10_next_16 : decode cX10_next 16 = .ok (.bipush 10, 2) := by decide +kernel
theorem dX10_next_18 : decode cX10_next 18 = .ok (.if_icmp .eq 16, 3) := by decide +kernel
theorem dX10_next_21 : decode cX10_next 21 = .ok (.aload_n 0, 1) := by decide +kernel
theorem dX10_next_22 : decode cX10_next 22 = .ok (.aload_n 0, 1) := by decide +kernel
theorem dX10_next_23 : decode cX10_next 23 = .ok (.getfield 115, 3) := by decide +kernel
theorem dX10_next_26 : decode cX10_next 26 = .ok (.invokevirtual 121, 3) := by decide +kernel
theorem dX10_next_29 : decode cX10_next 29 = .ok (.bipush 32, 2) := by decide +kernel
theorem dX10_next_31 : decode cX10_next 31 = .ok (.if_icmp .ne 16, 3) := by decide +kernel
theorem dX10_next_47 : decode cX10_next 47 = .ok (.aload_n 0, 1) := by decide +kernel
theorem dX10_next_48 : decode cX10_next 48 = .ok (.aload_n 0, 1) := by decide +kernel
theorem dX10_next_49 : decode cX10_next 49 = .ok (.getfield 115, 3) := by decide +kernel
theorem dX10_next_52 : decode cX10_next 52 = .ok (.putfield 118, 3) := by decide +kernel
theorem dX10_next_55 : decode cX10_next 55 = .ok (.aload_n 0, 1) := by decide +kernel
theorem dX10_next_56 : decode cX10_next 56 = .ok (.getfield 115, 3) := by decide +kernel
theorem dX10_next_59 : decode cX10_next 59 = .ok (.aload_n 0, 1) := by decide +kernel
theorem dX10_next_60 : decode cX10_next 60 = .ok (.getfield 100, 3) := by decide +kernel
theorem dX10_next_63 : decode cX10_next 63 = .ok (.if_icmp .lt 12, 3) := by decide +kernel
theorem dX10_next_66 : decode cX10_next 66 = .ok (.aload_n 0, 1) := by decide +kernel
theorem dX10_next_67 : decode cX10_next 67 = .ok (.bipush 24, 2) := by decide +kernel
theorem q_5_233 : Cond.fieldLink "BeaconDelayModel" 125 "BeaconDelayModel" "kind" "I" ∈ gw := gw_5 (i := 233) (by decide +kernel) rfl
theorem dX10_next_69 : decode cX10_next 69 = .ok (.putfield 125, 3) := by decide +kernel
theorem dX10_next_72 : decode cX10_next 72 = .ok (.goto 222, 3) := by decide +kernel
theorem dX10_next_294 : decode cX10_next 294 = .ok (.return_, 1) := by decide +kernel
set_option maxHeartbeats 4000000 in
set_option maxRecDepth 100000 in
theorem c_X10_next_0 (l : Launch) (V : GV) (z : Nat → Nat) : Ct l V yX10_next (.code yX10_next cX10_next 2 none) 2 [.ref (z 0)] [(z 0, .inr (10, mo z 0 0 0 0 0 0 0 0 0 0 (-1) 0 0 0 0 0))] 0 0 (QV V (fun (w : va_W) => (w = [(z 0, .inr (10, mo z 0 0 0 0 0 24 0 0 0 0 (-1) 0 0 0 0 0))]))) := by
  refine Ct.of (by decide) (Nat.le_of_ble_eq_true rfl) (fun p e s m below meth c A ls hx hb hr hml hown hlk hnm hg hP hK hD hE hA hS hl => ?_)
  have hl : lv_has ls 2 [(0, .ref (z 0))] := hl
  refine lv_aload_n hx hb dX10_next_0 rfl (lv_at hl 0 rfl) ?_
  refine lv_aload_n hx hb dX10_next_1 rfl (lv_at hl 0 rfl) ?_
  refine va_get (ci := 10) (v := .int 0) (C := RX10) (T := TX10) (N := 40) hx hb hg inX10 hown hK hP 0 rfl rfl 7 (by decide) (hg _ q_5_231) (fun _ h9 => h9) rfl dX10_next_2 ?_
  refine va_put (ci := 10) (v := .int 0) (ty := .int) (C := RX10) (T := TX10) (N := 40) hx hb hg inX10 tyX10 tyX10_ok nmX10 hown hK hP hD hS 0 rfl rfl 6 (by decide) (hg _ q_5_230) (fun _ h9 => h9) rfl (by decide +kernel) rfl rfl (Nat.le_of_ble_eq_true rfl) dX10_next_5 (fun H locs hP hD hS => ?_)
  have hP : va_P V.1 vwCl [(z 0, .inr (10, mo z 0 0 0 0 0 0 0 0 0 0 (-1) 0 0 0 0 0))] H := hP
  have hD : va_D A [(z 0, .inr (10, mo z 0 0 0 0 0 0 0 0 0 0 (-1) 0 0 0 0 0))] := hD
  refine lv_aload_n hx hb dX10_next_8 rfl (lv_at hl 0 rfl) ?_
  refine lv_aload_n hx hb dX10_next_9 rfl (lv_at hl 0 rfl) ?_
  refine va_get (ci := 10) (v := .int 0) (C := RX10) (T := TX10) (N := 40) hx hb hg inX10 hown hK hP 0 rfl rfl 6 (by decide) (hg _ q_5_230) (fun _ h9 => h9) rfl dX10_next_10 ?_
  refine jnI (wr := []) (rnV (rest := []) ⟨hx, hb, hml, hown, hg⟩ (c_X10_see_0 l V z) mt_X10_see q_6_121 ⟨Nat.le_of_ble_eq_true rfl, Nat.le_of_ble_eq_true rfl⟩ hK hP hD hS hA hE [0] rfl rfl 0 rfl rfl rfl rfl hl.1 rfl (Nat.le_of_ble_eq_true rfl) dX10_next_13 ⟨Nat.le_of_ble_eq_true rfl, Nat.le_of_ble_eq_true rfl⟩) hP hD hS hA [0] [] rfl rfl rfl (by decide) (fun r_1 w H locs hw hP hD hS => ?_)
  obtain ⟨rfl, rfl⟩ := hw
  have hP : va_P V.1 vwCl [(z 0, .inr (10, mo z 0 0 0 0 0 0 0 0 0 0 (-1) 0 0 0 0 0))] H := hP
  have hD : va_D A [(z 0, .inr (10, mo z 0 0 0 0 0 0 0 0 0 0 (-1) 0 0 0 0 0))] := hD
  refine lv_bipush (v := 10) hx hb dX10_next_16 (by decide) ?_
  refine lv_icmp_eq (tgt := 34) hx hb dX10_next_18 (by decide) (fun c_2 => absurd c_2 (by decide)) (fun _ => ?_)
  refine lv_aload_n hx hb dX10_next_21 rfl (lv_at hl 0 rfl) ?_
  refine lv_aload_n hx hb dX10_next_22 rfl (lv_at hl 0 rfl) ?_
  refine va_get (ci := 10) (v := .int 0) (C := RX10) (T := TX10) (N := 40) hx hb hg inX10 hown hK hP 0 rfl rfl 6 (by decide) (hg _ q_5_230) (fun _ h9 => h9) rfl dX10_next_23 ?_
  refine jnI (wr := []) (rnV (rest := []) ⟨hx, hb, hml, hown, hg⟩ (c_X10_see_0 l V z) mt_X10_see q_6_121 ⟨Nat.le_of_ble_eq_true rfl, Nat.le_of_ble_eq_true rfl⟩ hK hP hD hS hA hE [0] rfl rfl 0 rfl rfl rfl rfl hl.1 rfl (Nat.le_of_ble_eq_true rfl) dX10_next_26 ⟨Nat.le_of_ble_eq_true rfl, Nat.le_of_ble_eq_true rfl⟩) hP hD hS hA [0] [] rfl rfl rfl (by decide) (fun r_3 w H locs hw hP hD hS => ?_)
  obtain ⟨rfl, rfl⟩ := hw
  have hP : va_P V.1 vwCl [(z 0, .inr (10, mo z 0 0 0 0 0 0 0 0 0 0 (-1) 0 0 0 0 0))] H := hP
  have hD : va_D A [(z 0, .inr (10, mo z 0 0 0 0 0 0 0 0 0 0 (-1) 0 0 0 0 0))] := hD
  refine lv_bipush (v := 32) hx hb dX10_next_29 (by decide) ?_
  refine lv_icmp_ne (tgt := 47) hx hb dX10_next_31 (by decide) (fun _ => ?_) (fun c_4 => absurd c_4 (by decide))
  refine lv_aload_n hx hb dX10_next_47 rfl (lv_at hl 0 rfl) ?_
  refine lv_aload_n hx hb dX10_next_48 rfl (lv_at hl 0 rfl) ?_
  refine va_get (ci := 10) (v := .int 0) (C := RX10) (T := TX10) (N := 40) hx hb hg inX10 hown hK hP 0 rfl rfl 6 (by decide) (hg _ q_5_230) (fun _ h9 => h9) rfl dX10_next_49 ?_
  refine va_put (ci := 10) (v := .int 0) (ty := .int) (C := RX10) (T := TX10) (N := 40) hx hb hg inX10 tyX10 tyX10_ok nmX10 hown hK hP hD hS 0 rfl rfl 7 (by decide) (hg _ q_5_231) (fun _ h9 => h9) rfl (by decide +kernel) rfl rfl (Nat.le_of_ble_eq_true rfl) dX10_next_52 (fun H locs hP hD hS => ?_)
  have hP : va_P V.1 vwCl [(z 0, .inr (10, mo z 0 0 0 0 0 0 0 0 0 0 (-1) 0 0 0 0 0))] H := hP
  have hD : va_D A [(z 0, .inr (10, mo z 0 0 0 0 0 0 0 0 0 0 (-1) 0 0 0 0 0))] := hD
  refine lv_aload_n hx hb dX10_next_55 rfl (lv_at hl 0 rfl) ?_
  refine va_get (ci := 10) (v := .int 0) (C := RX10) (T := TX10) (N := 40) hx hb hg inX10 hown hK hP 0 rfl rfl 6 (by decide) (hg _ q_5_230) (fun _ h9 => h9) rfl dX10_next_56 ?_
  refine lv_aload_n hx hb dX10_next_59 rfl (lv_at hl 0 rfl) ?_
  refine va_get (ci := 10) (v := .int 0) (C := RX10) (T := TX10) (N := 40) hx hb hg inX10 hown hK hP 0 rfl rfl 8 (by decide) (hg _ q_5_232) (fun _ h9 => h9) rfl dX10_next_60 ?_
  refine lv_icmp_lt (tgt := 75) hx hb dX10_next_63 (by decide) (fun c_5 => absurd c_5 (by decide)) (fun _ => ?_)
  refine lv_aload_n hx hb dX10_next_66 rfl (lv_at hl 0 rfl) ?_
  refine lv_bipush (v := 24) hx hb dX10_next_67 (by decide) ?_
  refine va_put (ci := 10) (v := .int 24) (ty := .int) (C := RX10) (T := TX10) (N := 40) hx hb hg inX10 tyX10 tyX10_ok nmX10 hown hK hP hD hS 0 rfl rfl 9 (by decide) (hg _ q_5_233) (fun _ h9 => h9) rfl (by decide +kernel) rfl rfl (Nat.le_of_ble_eq_true rfl) dX10_next_69 (fun H locs hP hD hS => ?_)
  have hP : va_P V.1 vwCl [(z 0, .inr (10, mo z 0 0 0 0 0 24 0 0 0 0 (-1) 0 0 0 0 0))] H := hP
  have hD : va_D A [(z 0, .inr (10, mo z 0 0 0 0 0 24 0 0 0 0 (-1) 0 0 0 0 0))] := hD
  refine lv_goto (tgt := 294) hx hb dX10_next_72 (by decide) ?_
  exact fiV hx hb hr hlk hK hP hD hS dX10_next_294 (Nat.le_of_ble_eq_true rfl) (Nat.le_of_ble_eq_true rfl) (rfl)
theorem dX10_is_0 : decode cX10_is 0 = .ok (.aload_n 0, 1) := by decide +kernel
theorem q_5_235 : Cond.fieldLink "BeaconDelayModel" 143 "BeaconDelayModel" "wrong" "I" ∈ gw := gw_5 (i := 235) (by decide +kernel) rfl
theorem dX10_is_1 : decode cX10_is 1 = .ok (.getfield 143, 3) := by decide +kernel
theorem dX10_is_4 : decode cX10_is 4 = .ok (.ifCond .ne 15, 3) := by decide +kernel
theorem dX10_is_7 : decode cX10_is 7 = .ok (.aload_n 0, 1) := by decide +kernel
theorem dX10_is_8 : decode cX10_is 8 = .ok (.getfield 125, 3) := by decide +kernel
theorem dX10_is_11 : decode cX10_is 11 = .ok (.iload_n 1, 1) := by decide +kernel
theorem dX10_is_12 : decode cX10_is 12 = .ok (.if_icmp .ne 7, 3) := by decide +kernel
theorem dX10_is_19 : decode cX10_is 19 = .ok (.iconst 0, 1) := by decide +kernel
theorem dX10_is_20 : decode cX10_is 20 = .ok (.ireturn, 1) := by decide +kernel
set_option maxHeartbeats 4000000 in
set_option maxRecDepth 100000 in
theorem c_X10_is_0 (l : Launch) (V : GV) (z : Nat → Nat) : Ct l V yX10_is (.code yX10_is cX10_is 2 (some .boolean)) 1 [.ref (z 0), .int 0] [(z 0, .inr (10, mo z 0 0 0 0 0 24 0 0 0 0 (-1) 0 0 0 0 0))] 0 0 (QI V (fun (r : Int32) (w : va_W) => (r = 0 ∧ w = [(z 0, .inr (10, mo z 0 0 0 0 0 24 0 0 0 0 (-1) 0 0 0 0 0))]))) := by
  refine Ct.of (by decide) (Nat.le_of_ble_eq_true rfl) (fun p e s m below meth c A ls hx hb hr hml hown hlk hnm hg hP hK hD hE hA hS hl => ?_)
  have hl : lv_has ls 2 [(0, .ref (z 0)), (1, .int 0)] := hl
  refine lv_aload_n hx hb dX10_is_0 rfl (lv_at hl 0 rfl) ?_
  refine va_get (ci := 10) (v := .int 0) (C := RX10) (T := TX10) (N := 40) hx hb hg inX10 hown hK hP 0 rfl rfl 11 (by decide) (hg _ q_5_235) (fun _ h9 => h9) rfl dX10_is_1 ?_
  refine lv_if_ne (tgt := 19) hx hb dX10_is_4 (by decide) (fun c_1 => absurd c_1 (by decide)) (fun _ => ?_)
  refine lv_aload_n hx hb dX10_is_7 rfl (lv_at hl 0 rfl) ?_
  refine va_get (ci := 10) (v := .int 24) (C := RX10) (T := TX10) (N := 40) hx hb hg inX10 hown hK hP 0 rfl rfl 9 (by decide) (hg _ q_5_233) (fun _ h9 => h9) rfl dX10_is_8 ?_
  refine lv_iload_n hx hb dX10_is_11 rfl (lv_at hl 1 rfl) ?_
  refine lv_icmp_ne (tgt := 19) hx hb dX10_is_12 (by decide) (fun _ => ?_) (fun c_2 => absurd c_2 (by decide))
  refine lv_iconst (v := 0) hx hb dX10_is_19 (by decide) ?_
  exact fiZ rfl hx hb hr hlk hK hP hD hS dX10_is_20 (Nat.le_of_ble_eq_true rfl) (Nat.le_of_ble_eq_true rfl) (⟨rfl, rfl⟩)
theorem dX10_eats_0 : decode cX10_eats 0 = .ok (.aload_n 0, 1) := by decide +kernel
theorem dX10_eats_1 : decode cX10_eats 1 = .ok (.iload_n 1, 1) := by decide +kernel
theorem q_6_146 : Cond.code yX10_is prog_12_method_12_code 2 (some FieldType.boolean) ∈ gw := gw_6 (i := 146) (rfl) rfl
theorem q_6_145 : Cond.instanceMethod yX10_is ∈ gw := gw_6 (i := 145) (by decide +kernel) rfl
theorem q_s_58 : Cond.selects "BeaconDelayModel" yX10_is yX10_is ∈ gw := gw_s (i := 58) (by decide +kernel) rfl
theorem mt_X10_is : MtV yX10_is cX10_is 2 (some .boolean) 1 := ⟨⟨q_6_146, q_1_9, by decide +kernel, by decide +kernel, by decide +kernel⟩, q_6_145, q_s_58⟩
theorem q_6_143 : Cond.methodLink "BeaconDelayModel" 149 yX10_is ∈ gw := gw_6 (i := 143) (by decide +kernel) rfl
theorem dX10_eats_2 : decode cX10_eats 2 = .ok (.invokevirtual 149, 3) := by decide +kernel
theorem dX10_eats_5 : decode cX10_eats 5 = .ok (.ifCond .ne 5, 3) := by decide +kernel
theorem dX10_eats_8 : decode cX10_eats 8 = .ok (.iconst 0, 1) := by decide +kernel
theorem dX10_eats_9 : decode cX10_eats 9 = .ok (.ireturn, 1) := by decide +kernel
set_option maxHeartbeats 4000000 in
set_option maxRecDepth 100000 in
theorem c_X10_eats_0 (l : Launch) (V : GV) (z : Nat → Nat) : Ct l V yX10_eats (.code yX10_eats cX10_eats 2 (some .boolean)) 2 [.ref (z 0), .int 0] [(z 0, .inr (10, mo z 0 0 0 0 0 24 0 0 0 0 (-1) 0 0 0 0 0))] 0 0 (QI V (fun (r : Int32) (w : va_W) => (r = 0 ∧ w = [(z 0, .inr (10, mo z 0 0 0 0 0 24 0 0 0 0 (-1) 0 0 0 0 0))]))) := by
  refine Ct.of (by decide) (Nat.le_of_ble_eq_true rfl) (fun p e s m below meth c A ls hx hb hr hml hown hlk hnm hg hP hK hD hE hA hS hl => ?_)
  have hl : lv_has ls 2 [(0, .ref (z 0)), (1, .int 0)] := hl
  refine lv_aload_n hx hb dX10_eats_0 rfl (lv_at hl 0 rfl) ?_
  refine lv_iload_n hx hb dX10_eats_1 rfl (lv_at hl 1 rfl) ?_
  refine jnI (wr := []) (rnV (rest := []) ⟨hx, hb, hml, hown, hg⟩ (c_X10_is_0 l V z) mt_X10_is q_6_143 ⟨Nat.le_of_ble_eq_true rfl, Nat.le_of_ble_eq_true rfl⟩ hK hP hD hS hA hE [0] rfl rfl 0 rfl rfl rfl rfl hl.1 rfl (Nat.le_of_ble_eq_true rfl) dX10_eats_2 ⟨Nat.le_of_ble_eq_true rfl, Nat.le_of_ble_eq_true rfl⟩) hP hD hS hA [0] [] rfl rfl rfl (by decide) (fun r_1 w H locs hw hP hD hS => ?_)
  obtain ⟨rfl, rfl⟩ := hw
  have hP : va_P V.1 vwCl [(z 0, .inr (10, mo z 0 0 0 0 0 24 0 0 0 0 (-1) 0 0 0 0 0))] H := hP
  have hD : va_D A [(z 0, .inr (10, mo z 0 0 0 0 0 24 0 0 0 0 (-1) 0 0 0 0 0))] := hD
  refine lv_if_ne (tgt := 10) hx hb dX10_eats_5 (by decide) (fun c_2 => absurd c_2 (by decide)) (fun _ => ?_)
  refine lv_iconst (v := 0) hx hb dX10_eats_8 (by decide) ?_
  exact fiZ rfl hx hb hr hlk hK hP hD hS dX10_eats_9 (Nat.le_of_ble_eq_true rfl) (Nat.le_of_ble_eq_true rfl) (⟨rfl, rfl⟩)
theorem dX10_fails_0 : decode cX10_fails 0 = .ok (.aload_n 0, 1) := by decide +kernel
theorem dX10_fails_1 : decode cX10_fails 1 = .ok (.getfield 143, 3) := by decide +kernel
theorem dX10_fails_4 : decode cX10_fails 4 = .ok (.ifCond .eq 4, 3) := by decide +kernel
theorem dX10_fails_8 : decode cX10_fails 8 = .ok (.aload_n 0, 1) := by decide +kernel
theorem dX10_fails_9 : decode cX10_fails 9 = .ok (.aload_n 0, 1) := by decide +kernel
theorem dX10_fails_10 : decode cX10_fails 10 = .ok (.getfield 125, 3) := by decide +kernel
theorem dX10_fails_13 : decode cX10_fails 13 = .ok (.bipush 25, 2) := by decide +kernel
theorem dX10_fails_15 : decode cX10_fails 15 = .ok (.if_icmp .ne 7, 3) := by decide +kernel
theorem dX10_fails_22 : decode cX10_fails 22 = .ok (.iload_n 1, 1) := by decide +kernel
theorem dX10_fails_23 : decode cX10_fails 23 = .ok (.putfield 143, 3) := by decide +kernel
theorem dX10_fails_26 : decode cX10_fails 26 = .ok (.aload_n 0, 1) := by decide +kernel
theorem dX10_fails_27 : decode cX10_fails 27 = .ok (.aload_n 0, 1) := by decide +kernel
theorem dX10_fails_28 : decode cX10_fails 28 = .ok (.getfield 115, 3) := by decide +kernel
theorem q_5_236 : Cond.fieldLink "BeaconDelayModel" 146 "BeaconDelayModel" "wrongAt" "I" ∈ gw := gw_5 (i := 236) (by decide +kernel) rfl
theorem dX10_fails_31 : decode cX10_fails 31 = .ok (.putfield 146, 3) := by decide +kernel
theorem dX10_fails_34 : decode cX10_fails 34 = .ok (.return_, 1) := by decide +kernel
set_option maxHeartbeats 4000000 in
set_option maxRecDepth 100000 in
theorem c_X10_fails_0 (l : Launch) (V : GV) (z : Nat → Nat) : Ct l V yX10_fails (.code yX10_fails cX10_fails 2 none) 1 [.ref (z 0), .int 2] [(z 0, .inr (10, mo z 0 0 0 0 0 24 0 0 0 0 (-1) 0 0 0 0 0))] 0 0 (QV V (fun (w : va_W) => (w = [(z 0, .inr (10, mo z 0 0 0 0 0 24 0 2 0 0 (-1) 0 0 0 0 0))]))) := by
  refine Ct.of (by decide) (Nat.le_of_ble_eq_true rfl) (fun p e s m below meth c A ls hx hb hr hml hown hlk hnm hg hP hK hD hE hA hS hl => ?_)
  have hl : lv_has ls 2 [(0, .ref (z 0)), (1, .int 2)] := hl
  refine lv_aload_n hx hb dX10_fails_0 rfl (lv_at hl 0 rfl) ?_
  refine va_get (ci := 10) (v := .int 0) (C := RX10) (T := TX10) (N := 40) hx hb hg inX10 hown hK hP 0 rfl rfl 11 (by decide) (hg _ q_5_235) (fun _ h9 => h9) rfl dX10_fails_1 ?_
  refine lv_if_eq (tgt := 8) hx hb dX10_fails_4 (by decide) (fun _ => ?_) (fun c_1 => absurd c_1 (by decide))
  refine lv_aload_n hx hb dX10_fails_8 rfl (lv_at hl 0 rfl) ?_
  refine lv_aload_n hx hb dX10_fails_9 rfl (lv_at hl 0 rfl) ?_
  refine va_get (ci := 10) (v := .int 24) (C := RX10) (T := TX10) (N := 40) hx hb hg inX10 hown hK hP 0 rfl rfl 9 (by decide) (hg _ q_5_233) (fun _ h9 => h9) rfl dX10_fails_10 ?_
  refine lv_bipush (v := 25) hx hb dX10_fails_13 (by decide) ?_
  refine lv_icmp_ne (tgt := 22) hx hb dX10_fails_15 (by decide) (fun _ => ?_) (fun c_2 => absurd c_2 (by decide))
  refine lv_iload_n hx hb dX10_fails_22 rfl (lv_at hl 1 rfl) ?_
  refine va_put (ci := 10) (v := .int 2) (ty := .int) (C := RX10) (T := TX10) (N := 40) hx hb hg inX10 tyX10 tyX10_ok nmX10 hown hK hP hD hS 0 rfl rfl 11 (by decide) (hg _ q_5_235) (fun _ h9 => h9) rfl (by decide +kernel) rfl rfl (Nat.le_of_ble_eq_true rfl) dX10_fails_23 (fun H locs hP hD hS => ?_)
  have hP : va_P V.1 vwCl [(z 0, .inr (10, mo z 0 0 0 0 0 24 0 2 0 0 (-1) 0 0 0 0 0))] H := hP
  have hD : va_D A [(z 0, .inr (10, mo z 0 0 0 0 0 24 0 2 0 0 (-1) 0 0 0 0 0))] := hD
  refine lv_aload_n hx hb dX10_fails_26 rfl (lv_at hl 0 rfl) ?_
  refine lv_aload_n hx hb dX10_fails_27 rfl (lv_at hl 0 rfl) ?_
  refine va_get (ci := 10) (v := .int 0) (C := RX10) (T := TX10) (N := 40) hx hb hg inX10 hown hK hP 0 rfl rfl 6 (by decide) (hg _ q_5_230) (fun _ h9 => h9) rfl dX10_fails_28 ?_
  refine va_put (ci := 10) (v := .int 0) (ty := .int) (C := RX10) (T := TX10) (N := 40) hx hb hg inX10 tyX10 tyX10_ok nmX10 hown hK hP hD hS 0 rfl rfl 12 (by decide) (hg _ q_5_236) (fun _ h9 => h9) rfl (by decide +kernel) rfl rfl (Nat.le_of_ble_eq_true rfl) dX10_fails_31 (fun H locs hP hD hS => ?_)
  have hP : va_P V.1 vwCl [(z 0, .inr (10, mo z 0 0 0 0 0 24 0 2 0 0 (-1) 0 0 0 0 0))] H := hP
  have hD : va_D A [(z 0, .inr (10, mo z 0 0 0 0 0 24 0 2 0 0 (-1) 0 0 0 0 0))] := hD
  exact fiV hx hb hr hlk hK hP hD hS dX10_fails_34 (Nat.le_of_ble_eq_true rfl) (Nat.le_of_ble_eq_true rfl) (rfl)
set_option maxHeartbeats 4000000 in
set_option maxRecDepth 100000 in
theorem c_X10_is_1 (l : Launch) (V : GV) (z : Nat → Nat) : Ct l V yX10_is (.code yX10_is cX10_is 2 (some .boolean)) 1 [.ref (z 0), .int 1] [(z 0, .inr (10, mo z 0 0 0 0 0 24 0 2 0 0 (-1) 0 0 0 0 0))] 0 0 (QI V (fun (r : Int32) (w : va_W) => (r = 0 ∧ w = [(z 0, .inr (10, mo z 0 0 0 0 0 24 0 2 0 0 (-1) 0 0 0 0 0))]))) := by
  refine Ct.of (by decide) (Nat.le_of_ble_eq_true rfl) (fun p e s m below meth c A ls hx hb hr hml hown hlk hnm hg hP hK hD hE hA hS hl => ?_)
  have hl : lv_has ls 2 [(0, .ref (z 0)), (1, .int 1)] := hl
  refine lv_aload_n hx hb dX10_is_0 rfl (lv_at hl 0 rfl) ?_
  refine va_get (ci := 10) (v := .int 2) (C := RX10) (T := TX10) (N := 40) hx hb hg inX10 hown hK hP 0 rfl rfl 11 (by decide) (hg _ q_5_235) (fun _ h9 => h9) rfl dX10_is_1 ?_
  refine lv_if_ne (tgt := 19) hx hb dX10_is_4 (by decide) (fun _ => ?_) (fun c_1 => absurd c_1 (by decide))
  refine lv_iconst (v := 0) hx hb dX10_is_19 (by decide) ?_
  exact fiZ rfl hx hb hr hlk hK hP hD hS dX10_is_20 (Nat.le_of_ble_eq_true rfl) (Nat.le_of_ble_eq_true rfl) (⟨rfl, rfl⟩)
set_option maxHeartbeats 4000000 in
set_option maxRecDepth 100000 in
theorem c_X10_eats_1 (l : Launch) (V : GV) (z : Nat → Nat) : Ct l V yX10_eats (.code yX10_eats cX10_eats 2 (some .boolean)) 2 [.ref (z 0), .int 1] [(z 0, .inr (10, mo z 0 0 0 0 0 24 0 2 0 0 (-1) 0 0 0 0 0))] 0 0 (QI V (fun (r : Int32) (w : va_W) => (r = 0 ∧ w = [(z 0, .inr (10, mo z 0 0 0 0 0 24 0 2 0 0 (-1) 0 0 0 0 0))]))) := by
  refine Ct.of (by decide) (Nat.le_of_ble_eq_true rfl) (fun p e s m below meth c A ls hx hb hr hml hown hlk hnm hg hP hK hD hE hA hS hl => ?_)
  have hl : lv_has ls 2 [(0, .ref (z 0)), (1, .int 1)] := hl
  refine lv_aload_n hx hb dX10_eats_0 rfl (lv_at hl 0 rfl) ?_
  refine lv_iload_n hx hb dX10_eats_1 rfl (lv_at hl 1 rfl) ?_
  refine jnI (wr := []) (rnV (rest := []) ⟨hx, hb, hml, hown, hg⟩ (c_X10_is_1 l V z) mt_X10_is q_6_143 ⟨Nat.le_of_ble_eq_true rfl, Nat.le_of_ble_eq_true rfl⟩ hK hP hD hS hA hE [0] rfl rfl 0 rfl rfl rfl rfl hl.1 rfl (Nat.le_of_ble_eq_true rfl) dX10_eats_2 ⟨Nat.le_of_ble_eq_true rfl, Nat.le_of_ble_eq_true rfl⟩) hP hD hS hA [0] [] rfl rfl rfl (by decide) (fun r_1 w H locs hw hP hD hS => ?_)
  obtain ⟨rfl, rfl⟩ := hw
  have hP : va_P V.1 vwCl [(z 0, .inr (10, mo z 0 0 0 0 0 24 0 2 0 0 (-1) 0 0 0 0 0))] H := hP
  have hD : va_D A [(z 0, .inr (10, mo z 0 0 0 0 0 24 0 2 0 0 (-1) 0 0 0 0 0))] := hD
  refine lv_if_ne (tgt := 10) hx hb dX10_eats_5 (by decide) (fun c_2 => absurd c_2 (by decide)) (fun _ => ?_)
  refine lv_iconst (v := 0) hx hb dX10_eats_8 (by decide) ?_
  exact fiZ rfl hx hb hr hlk hK hP hD hS dX10_eats_9 (Nat.le_of_ble_eq_true rfl) (Nat.le_of_ble_eq_true rfl) (⟨rfl, rfl⟩)
theorem dX10_fails_7 : decode cX10_fails 7 = .ok (.return_, 1) := by decide +kernel
set_option maxHeartbeats 4000000 in
set_option maxRecDepth 100000 in
theorem c_X10_fails_1 (l : Launch) (V : GV) (z : Nat → Nat) : Ct l V yX10_fails (.code yX10_fails cX10_fails 2 none) 1 [.ref (z 0), .int 2] [(z 0, .inr (10, mo z 0 0 0 0 0 24 0 2 0 0 (-1) 0 0 0 0 0))] 0 0 (QV V (fun (w : va_W) => (w = [(z 0, .inr (10, mo z 0 0 0 0 0 24 0 2 0 0 (-1) 0 0 0 0 0))]))) := by
  refine Ct.of (by decide) (Nat.le_of_ble_eq_true rfl) (fun p e s m below meth c A ls hx hb hr hml hown hlk hnm hg hP hK hD hE hA hS hl => ?_)
  have hl : lv_has ls 2 [(0, .ref (z 0)), (1, .int 2)] := hl
  refine lv_aload_n hx hb dX10_fails_0 rfl (lv_at hl 0 rfl) ?_
  refine va_get (ci := 10) (v := .int 2) (C := RX10) (T := TX10) (N := 40) hx hb hg inX10 hown hK hP 0 rfl rfl 11 (by decide) (hg _ q_5_235) (fun _ h9 => h9) rfl dX10_fails_1 ?_
  refine lv_if_eq (tgt := 8) hx hb dX10_fails_4 (by decide) (fun c_1 => absurd c_1 (by decide)) (fun _ => ?_)
  exact fiV hx hb hr hlk hK hP hD hS dX10_fails_7 (Nat.le_of_ble_eq_true rfl) (Nat.le_of_ble_eq_true rfl) (rfl)
set_option maxHeartbeats 4000000 in
set_option maxRecDepth 100000 in
theorem c_X10_is_2 (l : Launch) (V : GV) (z : Nat → Nat) : Ct l V yX10_is (.code yX10_is cX10_is 2 (some .boolean)) 1 [.ref (z 0), .int 23] [(z 0, .inr (10, mo z 0 0 0 0 0 24 0 2 0 0 (-1) 0 0 0 0 0))] 0 0 (QI V (fun (r : Int32) (w : va_W) => (r = 0 ∧ w = [(z 0, .inr (10, mo z 0 0 0 0 0 24 0 2 0 0 (-1) 0 0 0 0 0))]))) := by
  refine Ct.of (by decide) (Nat.le_of_ble_eq_true rfl) (fun p e s m below meth c A ls hx hb hr hml hown hlk hnm hg hP hK hD hE hA hS hl => ?_)
  have hl : lv_has ls 2 [(0, .ref (z 0)), (1, .int 23)] := hl
  refine lv_aload_n hx hb dX10_is_0 rfl (lv_at hl 0 rfl) ?_
  refine va_get (ci := 10) (v := .int 2) (C := RX10) (T := TX10) (N := 40) hx hb hg inX10 hown hK hP 0 rfl rfl 11 (by decide) (hg _ q_5_235) (fun _ h9 => h9) rfl dX10_is_1 ?_
  refine lv_if_ne (tgt := 19) hx hb dX10_is_4 (by decide) (fun _ => ?_) (fun c_1 => absurd c_1 (by decide))
  refine lv_iconst (v := 0) hx hb dX10_is_19 (by decide) ?_
  exact fiZ rfl hx hb hr hlk hK hP hD hS dX10_is_20 (Nat.le_of_ble_eq_true rfl) (Nat.le_of_ble_eq_true rfl) (⟨rfl, rfl⟩)
theorem dX10_takesOne_0 : decode cX10_takesOne 0 = .ok (.aload_n 0, 1) := by decide +kernel
theorem dX10_takesOne_1 : decode cX10_takesOne 1 = .ok (.bipush 23, 2) := by decide +kernel
theorem dX10_takesOne_3 : decode cX10_takesOne 3 = .ok (.invokevirtual 149, 3) := by decide +kernel
theorem dX10_takesOne_6 : decode cX10_takesOne 6 = .ok (.ifCond .ne 11, 3) := by decide +kernel
theorem dX10_takesOne_9 : decode cX10_takesOne 9 = .ok (.aload_n 0, 1) := by decide +kernel
theorem dX10_takesOne_10 : decode cX10_takesOne 10 = .ok (.iconst 2, 1) := by decide +kernel
theorem q_6_150 : Cond.code yX10_fails prog_12_method_11_code 2 none ∈ gw := gw_6 (i := 150) (rfl) rfl
theorem q_6_149 : Cond.instanceMethod yX10_fails ∈ gw := gw_6 (i := 149) (by decide +kernel) rfl
theorem q_s_59 : Cond.selects "BeaconDelayModel" yX10_fails yX10_fails ∈ gw := gw_s (i := 59) (by decide +kernel) rfl
theorem mt_X10_fails : MtV yX10_fails cX10_fails 2 none 1 := ⟨⟨q_6_150, q_1_9, by decide +kernel, by decide +kernel, by decide +kernel⟩, q_6_149, q_s_59⟩
theorem q_6_147 : Cond.methodLink "BeaconDelayModel" 155 yX10_fails ∈ gw := gw_6 (i := 147) (by decide +kernel) rfl
theorem dX10_takesOne_11 : decode cX10_takesOne 11 = .ok (.invokevirtual 155, 3) := by decide +kernel
theorem dX10_takesOne_14 : decode cX10_takesOne 14 = .ok (.goto 23, 3) := by decide +kernel
theorem dX10_takesOne_37 : decode cX10_takesOne 37 = .ok (.aload_n 0, 1) := by decide +kernel
theorem q_5_234 : Cond.fieldLink "BeaconDelayModel" 138 "BeaconDelayModel" "number" "I" ∈ gw := gw_5 (i := 234) (by decide +kernel) rfl
theorem dX10_takesOne_38 : decode cX10_takesOne 38 = .ok (.getfield 138, 3) := by decide +kernel
theorem dX10_takesOne_41 : decode cX10_takesOne 41 = .ok (.istore_n 3, 1) := by decide +kernel
theorem dX10_takesOne_42 : decode cX10_takesOne 42 = .ok (.aload_n 0, 1) := by decide +kernel
theorem dX10_takesOne_43 : decode cX10_takesOne 43 = .ok (.getfield 143, 3) := by decide +kernel
theorem dX10_takesOne_46 : decode cX10_takesOne 46 = .ok (.ifCond .ne 7, 3) := by decide +kernel
theorem dX10_takesOne_53 : decode cX10_takesOne 53 = .ok (.iload_n 3, 1) := by decide +kernel
theorem dX10_takesOne_54 : decode cX10_takesOne 54 = .ok (.ireturn, 1) := by decide +kernel
set_option maxHeartbeats 4000000 in
set_option maxRecDepth 100000 in
theorem c_X10_takesOne_0 (l : Launch) (V : GV) (z : Nat → Nat) : Ct l V yX10_takesOne (.code yX10_takesOne cX10_takesOne 4 (some .int)) 2 [.ref (z 0), .int 0, .int 9] [(z 0, .inr (10, mo z 0 0 0 0 0 24 0 2 0 0 (-1) 0 0 0 0 0))] 0 0 (QI V (fun (r : Int32) (w : va_W) => (r = 0 ∧ w = [(z 0, .inr (10, mo z 0 0 0 0 0 24 0 2 0 0 (-1) 0 0 0 0 0))]))) := by
  refine Ct.of (by decide) (Nat.le_of_ble_eq_true rfl) (fun p e s m below meth c A ls hx hb hr hml hown hlk hnm hg hP hK hD hE hA hS hl => ?_)
  have hl : lv_has ls 4 [(0, .ref (z 0)), (1, .int 0), (2, .int 9)] := hl
  refine lv_aload_n hx hb dX10_takesOne_0 rfl (lv_at hl 0 rfl) ?_
  refine lv_bipush (v := 23) hx hb dX10_takesOne_1 (by decide) ?_
  refine jnI (wr := []) (rnV (rest := []) ⟨hx, hb, hml, hown, hg⟩ (c_X10_is_2 l V z) mt_X10_is q_6_143 ⟨Nat.le_of_ble_eq_true rfl, Nat.le_of_ble_eq_true rfl⟩ hK hP hD hS hA hE [0] rfl rfl 0 rfl rfl rfl rfl hl.1 rfl (Nat.le_of_ble_eq_true rfl) dX10_takesOne_3 ⟨Nat.le_of_ble_eq_true rfl, Nat.le_of_ble_eq_true rfl⟩) hP hD hS hA [0] [] rfl rfl rfl (by decide) (fun r_1 w H locs hw hP hD hS => ?_)
  obtain ⟨rfl, rfl⟩ := hw
  have hP : va_P V.1 vwCl [(z 0, .inr (10, mo z 0 0 0 0 0 24 0 2 0 0 (-1) 0 0 0 0 0))] H := hP
  have hD : va_D A [(z 0, .inr (10, mo z 0 0 0 0 0 24 0 2 0 0 (-1) 0 0 0 0 0))] := hD
  refine lv_if_ne (tgt := 17) hx hb dX10_takesOne_6 (by decide) (fun c_2 => absurd c_2 (by decide)) (fun _ => ?_)
  refine lv_aload_n hx hb dX10_takesOne_9 rfl (lv_at hl 0 rfl) ?_
  refine lv_iconst (v := 2) hx hb dX10_takesOne_10 (by decide) ?_
  refine jnV (wr := []) (rnV (rest := []) ⟨hx, hb, hml, hown, hg⟩ (c_X10_fails_1 l V z) mt_X10_fails q_6_147 ⟨Nat.le_of_ble_eq_true rfl, Nat.le_of_ble_eq_true rfl⟩ hK hP hD hS hA hE [0] rfl rfl 0 rfl rfl rfl rfl hl.1 rfl (Nat.le_of_ble_eq_true rfl) dX10_takesOne_11 ⟨Nat.le_of_ble_eq_true rfl, Nat.le_of_ble_eq_true rfl⟩) hP hD hS hA [0] [] rfl rfl rfl (by decide) (fun  w H locs hw hP hD hS => ?_)
  subst hw
  have hP : va_P V.1 vwCl [(z 0, .inr (10, mo z 0 0 0 0 0 24 0 2 0 0 (-1) 0 0 0 0 0))] H := hP
  have hD : va_D A [(z 0, .inr (10, mo z 0 0 0 0 0 24 0 2 0 0 (-1) 0 0 0 0 0))] := hD
  refine lv_goto (tgt := 37) hx hb dX10_takesOne_14 (by decide) ?_
  refine lv_aload_n hx hb dX10_takesOne_37 rfl (lv_at hl 0 rfl) ?_
  refine va_get (ci := 10) (v := .int 0) (C := RX10) (T := TX10) (N := 40) hx hb hg inX10 hown hK hP 0 rfl rfl 10 (by decide) (hg _ q_5_234) (fun _ h9 => h9) rfl dX10_takesOne_38 ?_
  refine lv_istore_n (lv' := [(3, .int 0), (0, .ref (z 0)), (1, .int 0), (2, .int 9)]) hx hb dX10_takesOne_41 rfl hl (by decide) rfl (fun ls hl => ?_)
  refine lv_aload_n hx hb dX10_takesOne_42 rfl (lv_at hl 1 rfl) ?_
  refine va_get (ci := 10) (v := .int 2) (C := RX10) (T := TX10) (N := 40) hx hb hg inX10 hown hK hP 0 rfl rfl 11 (by decide) (hg _ q_5_235) (fun _ h9 => h9) rfl dX10_takesOne_43 ?_
  refine lv_if_ne (tgt := 53) hx hb dX10_takesOne_46 (by decide) (fun _ => ?_) (fun c_3 => absurd c_3 (by decide))
  refine lv_iload_n hx hb dX10_takesOne_53 rfl (lv_at hl 0 rfl) ?_
  exact fiI hx hb hr hlk hK hP hD hS dX10_takesOne_54 (Nat.le_of_ble_eq_true rfl) (Nat.le_of_ble_eq_true rfl) (⟨rfl, rfl⟩)
theorem dX10_named_0 : decode cX10_named 0 = .ok (.aload_n 0, 1) := by decide +kernel
theorem dX10_named_1 : decode cX10_named 1 = .ok (.iload_n 1, 1) := by decide +kernel
theorem q_6_142 : Cond.code yX10_eats prog_12_method_13_code 2 (some FieldType.boolean) ∈ gw := gw_6 (i := 142) (rfl) rfl
theorem q_6_141 : Cond.instanceMethod yX10_eats ∈ gw := gw_6 (i := 141) (by decide +kernel) rfl
theorem q_s_57 : Cond.selects "BeaconDelayModel" yX10_eats yX10_eats ∈ gw := gw_s (i := 57) (by decide +kernel) rfl
theorem mt_X10_eats : MtV yX10_eats cX10_eats 2 (some .boolean) 1 := ⟨⟨q_6_142, q_1_9, by decide +kernel, by decide +kernel, by decide +kernel⟩, q_6_141, q_s_57⟩
theorem q_6_139 : Cond.methodLink "BeaconDelayModel" 175 yX10_eats ∈ gw := gw_6 (i := 139) (by decide +kernel) rfl
theorem dX10_named_2 : decode cX10_named 2 = .ok (.invokevirtual 175, 3) := by decide +kernel
theorem dX10_named_5 : decode cX10_named 5 = .ok (.ifCond .ne 8, 3) := by decide +kernel
theorem dX10_named_8 : decode cX10_named 8 = .ok (.aload_n 0, 1) := by decide +kernel
theorem dX10_named_9 : decode cX10_named 9 = .ok (.iconst 2, 1) := by decide +kernel
theorem dX10_named_10 : decode cX10_named 10 = .ok (.invokevirtual 155, 3) := by decide +kernel
theorem dX10_named_13 : decode cX10_named 13 = .ok (.aload_n 0, 1) := by decide +kernel
theorem dX10_named_14 : decode cX10_named 14 = .ok (.iload_n 2, 1) := by decide +kernel
theorem dX10_named_15 : decode cX10_named 15 = .ok (.iload_n 3, 1) := by decide +kernel
theorem q_6_158 : Cond.code yX10_takesOne prog_12_method_14_code 4 (some FieldType.int) ∈ gw := gw_6 (i := 158) (rfl) rfl
theorem q_6_157 : Cond.instanceMethod yX10_takesOne ∈ gw := gw_6 (i := 157) (by decide +kernel) rfl
theorem q_s_61 : Cond.selects "BeaconDelayModel" yX10_takesOne yX10_takesOne ∈ gw := gw_s (i := 61) (by decide +kernel) rfl
theorem mt_X10_takesOne : MtV yX10_takesOne cX10_takesOne 4 (some .int) 2 := ⟨⟨q_6_158, q_1_9, by decide +kernel, by decide +kernel, by decide +kernel⟩, q_6_157, q_s_61⟩
theorem q_6_155 : Cond.methodLink "BeaconDelayModel" 196 yX10_takesOne ∈ gw := gw_6 (i := 155) (by decide +kernel) rfl
theorem dX10_named_16 : decode cX10_named 16 = .ok (.invokevirtual 196, 3) := by decide +kernel
theorem dX10_named_19 : decode cX10_named 19 = .ok (.ireturn, 1) := by decide +kernel
set_option maxHeartbeats 4000000 in
set_option maxRecDepth 100000 in
theorem c_X10_named_0 (l : Launch) (V : GV) (z : Nat → Nat) : Ct l V yX10_named (.code yX10_named cX10_named 4 (some .int)) 3 [.ref (z 0), .int 1, .int 0, .int 9] [(z 0, .inr (10, mo z 0 0 0 0 0 24 0 2 0 0 (-1) 0 0 0 0 0))] 0 0 (QI V (fun (r : Int32) (w : va_W) => (r = 0 ∧ w = [(z 0, .inr (10, mo z 0 0 0 0 0 24 0 2 0 0 (-1) 0 0 0 0 0))]))) := by
  refine Ct.of (by decide) (Nat.le_of_ble_eq_true rfl) (fun p e s m below meth c A ls hx hb hr hml hown hlk hnm hg hP hK hD hE hA hS hl => ?_)
  have hl : lv_has ls 4 [(0, .ref (z 0)), (1, .int 1), (2, .int 0), (3, .int 9)] := hl
  refine lv_aload_n hx hb dX10_named_0 rfl (lv_at hl 0 rfl) ?_
  refine lv_iload_n hx hb dX10_named_1 rfl (lv_at hl 1 rfl) ?_
  refine jnI (wr := []) (rnV (rest := []) ⟨hx, hb, hml, hown, hg⟩ (c_X10_eats_1 l V z) mt_X10_eats q_6_139 ⟨Nat.le_of_ble_eq_true rfl, Nat.le_of_ble_eq_true rfl⟩ hK hP hD hS hA hE [0] rfl rfl 0 rfl rfl rfl rfl hl.1 rfl (Nat.le_of_ble_eq_true rfl) dX10_named_2 ⟨Nat.le_of_ble_eq_true rfl, Nat.le_of_ble_eq_true rfl⟩) hP hD hS hA [0] [] rfl rfl rfl (by decide) (fun r_1 w H locs hw hP hD hS => ?_)
  obtain ⟨rfl, rfl⟩ := hw
  have hP : va_P V.1 vwCl [(z 0, .inr (10, mo z 0 0 0 0 0 24 0 2 0 0 (-1) 0 0 0 0 0))] H := hP
  have hD : va_D A [(z 0, .inr (10, mo z 0 0 0 0 0 24 0 2 0 0 (-1) 0 0 0 0 0))] := hD
  refine lv_if_ne (tgt := 13) hx hb dX10_named_5 (by decide) (fun c_2 => absurd c_2 (by decide)) (fun _ => ?_)
  refine lv_aload_n hx hb dX10_named_8 rfl (lv_at hl 0 rfl) ?_
  refine lv_iconst (v := 2) hx hb dX10_named_9 (by decide) ?_
  refine jnV (wr := []) (rnV (rest := []) ⟨hx, hb, hml, hown, hg⟩ (c_X10_fails_1 l V z) mt_X10_fails q_6_147 ⟨Nat.le_of_ble_eq_true rfl, Nat.le_of_ble_eq_true rfl⟩ hK hP hD hS hA hE [0] rfl rfl 0 rfl rfl rfl rfl hl.1 rfl (Nat.le_of_ble_eq_true rfl) dX10_named_10 ⟨Nat.le_of_ble_eq_true rfl, Nat.le_of_ble_eq_true rfl⟩) hP hD hS hA [0] [] rfl rfl rfl (by decide) (fun  w H locs hw hP hD hS => ?_)
  subst hw
  have hP : va_P V.1 vwCl [(z 0, .inr (10, mo z 0 0 0 0 0 24 0 2 0 0 (-1) 0 0 0 0 0))] H := hP
  have hD : va_D A [(z 0, .inr (10, mo z 0 0 0 0 0 24 0 2 0 0 (-1) 0 0 0 0 0))] := hD
  refine lv_aload_n hx hb dX10_named_13 rfl (lv_at hl 0 rfl) ?_
  refine lv_iload_n hx hb dX10_named_14 rfl (lv_at hl 2 rfl) ?_
  refine lv_iload_n hx hb dX10_named_15 rfl (lv_at hl 3 rfl) ?_
  refine jnI (wr := []) (rnV (rest := []) ⟨hx, hb, hml, hown, hg⟩ (c_X10_takesOne_0 l V z) mt_X10_takesOne q_6_155 ⟨Nat.le_of_ble_eq_true rfl, Nat.le_of_ble_eq_true rfl⟩ hK hP hD hS hA hE [0] rfl rfl 0 rfl rfl rfl rfl hl.1 rfl (Nat.le_of_ble_eq_true rfl) dX10_named_16 ⟨Nat.le_of_ble_eq_true rfl, Nat.le_of_ble_eq_true rfl⟩) hP hD hS hA [0] [] rfl rfl rfl (by decide) (fun r_3 w H locs hw hP hD hS => ?_)
  obtain ⟨rfl, rfl⟩ := hw
  have hP : va_P V.1 vwCl [(z 0, .inr (10, mo z 0 0 0 0 0 24 0 2 0 0 (-1) 0 0 0 0 0))] H := hP
  have hD : va_D A [(z 0, .inr (10, mo z 0 0 0 0 0 24 0 2 0 0 (-1) 0 0 0 0 0))] := hD
  exact fiI hx hb hr hlk hK hP hD hS dX10_named_19 (Nat.le_of_ble_eq_true rfl) (Nat.le_of_ble_eq_true rfl) (⟨rfl, rfl⟩)
set_option maxHeartbeats 4000000 in
set_option maxRecDepth 100000 in
theorem c_X10_is_3 (l : Launch) (V : GV) (z : Nat → Nat) : Ct l V yX10_is (.code yX10_is cX10_is 2 (some .boolean)) 1 [.ref (z 0), .int 30] [(z 0, .inr (10, mo z 0 0 0 0 0 24 0 2 0 0 (-1) 0 0 0 0 0))] 0 0 (QI V (fun (r : Int32) (w : va_W) => (r = 0 ∧ w = [(z 0, .inr (10, mo z 0 0 0 0 0 24 0 2 0 0 (-1) 0 0 0 0 0))]))) := by
  refine Ct.of (by decide) (Nat.le_of_ble_eq_true rfl) (fun p e s m below meth c A ls hx hb hr hml hown hlk hnm hg hP hK hD hE hA hS hl => ?_)
  have hl : lv_has ls 2 [(0, .ref (z 0)), (1, .int 30)] := hl
  refine lv_aload_n hx hb dX10_is_0 rfl (lv_at hl 0 rfl) ?_
  refine va_get (ci := 10) (v := .int 2) (C := RX10) (T := TX10) (N := 40) hx hb hg inX10 hown hK hP 0 rfl rfl 11 (by decide) (hg _ q_5_235) (fun _ h9 => h9) rfl dX10_is_1 ?_
  refine lv_if_ne (tgt := 19) hx hb dX10_is_4 (by decide) (fun _ => ?_) (fun c_1 => absurd c_1 (by decide))
  refine lv_iconst (v := 0) hx hb dX10_is_19 (by decide) ?_
  exact fiZ rfl hx hb hr hlk hK hP hD hS dX10_is_20 (Nat.le_of_ble_eq_true rfl) (Nat.le_of_ble_eq_true rfl) (⟨rfl, rfl⟩)
set_option maxHeartbeats 4000000 in
set_option maxRecDepth 100000 in
theorem c_X10_eats_2 (l : Launch) (V : GV) (z : Nat → Nat) : Ct l V yX10_eats (.code yX10_eats cX10_eats 2 (some .boolean)) 2 [.ref (z 0), .int 30] [(z 0, .inr (10, mo z 0 0 0 0 0 24 0 2 0 0 (-1) 0 0 0 0 0))] 0 0 (QI V (fun (r : Int32) (w : va_W) => (r = 0 ∧ w = [(z 0, .inr (10, mo z 0 0 0 0 0 24 0 2 0 0 (-1) 0 0 0 0 0))]))) := by
  refine Ct.of (by decide) (Nat.le_of_ble_eq_true rfl) (fun p e s m below meth c A ls hx hb hr hml hown hlk hnm hg hP hK hD hE hA hS hl => ?_)
  have hl : lv_has ls 2 [(0, .ref (z 0)), (1, .int 30)] := hl
  refine lv_aload_n hx hb dX10_eats_0 rfl (lv_at hl 0 rfl) ?_
  refine lv_iload_n hx hb dX10_eats_1 rfl (lv_at hl 1 rfl) ?_
  refine jnI (wr := []) (rnV (rest := []) ⟨hx, hb, hml, hown, hg⟩ (c_X10_is_3 l V z) mt_X10_is q_6_143 ⟨Nat.le_of_ble_eq_true rfl, Nat.le_of_ble_eq_true rfl⟩ hK hP hD hS hA hE [0] rfl rfl 0 rfl rfl rfl rfl hl.1 rfl (Nat.le_of_ble_eq_true rfl) dX10_eats_2 ⟨Nat.le_of_ble_eq_true rfl, Nat.le_of_ble_eq_true rfl⟩) hP hD hS hA [0] [] rfl rfl rfl (by decide) (fun r_1 w H locs hw hP hD hS => ?_)
  obtain ⟨rfl, rfl⟩ := hw
  have hP : va_P V.1 vwCl [(z 0, .inr (10, mo z 0 0 0 0 0 24 0 2 0 0 (-1) 0 0 0 0 0))] H := hP
  have hD : va_D A [(z 0, .inr (10, mo z 0 0 0 0 0 24 0 2 0 0 (-1) 0 0 0 0 0))] := hD
  refine lv_if_ne (tgt := 10) hx hb dX10_eats_5 (by decide) (fun c_2 => absurd c_2 (by decide)) (fun _ => ?_)
  refine lv_iconst (v := 0) hx hb dX10_eats_8 (by decide) ?_
  exact fiZ rfl hx hb hr hlk hK hP hD hS dX10_eats_9 (Nat.le_of_ble_eq_true rfl) (Nat.le_of_ble_eq_true rfl) (⟨rfl, rfl⟩)
theorem dX10_closes_0 : decode cX10_closes 0 = .ok (.aload_n 0, 1) := by decide +kernel
theorem dX10_closes_1 : decode cX10_closes 1 = .ok (.bipush 30, 2) := by decide +kernel
theorem dX10_closes_3 : decode cX10_closes 3 = .ok (.invokevirtual 175, 3) := by decide +kernel
theorem dX10_closes_6 : decode cX10_closes 6 = .ok (.ifCond .ne 8, 3) := by decide +kernel
theorem dX10_closes_9 : decode cX10_closes 9 = .ok (.aload_n 0, 1) := by decide +kernel
theorem dX10_closes_10 : decode cX10_closes 10 = .ok (.iconst 2, 1) := by decide +kernel
theorem dX10_closes_11 : decode cX10_closes 11 = .ok (.invokevirtual 155, 3) := by decide +kernel
theorem dX10_closes_14 : decode cX10_closes 14 = .ok (.aload_n 0, 1) := by decide +kernel
theorem dX10_closes_15 : decode cX10_closes 15 = .ok (.getfield 24, 3) := by decide +kernel
theorem dX10_closes_18 : decode cX10_closes 18 = .ok (.iconst 0, 1) := by decide +kernel
theorem dX10_closes_19 : decode cX10_closes 19 = .ok (.dup2, 1) := by decide +kernel
theorem dX10_closes_20 : decode cX10_closes 20 = .ok (.iaload, 1) := by decide +kernel
theorem dX10_closes_21 : decode cX10_closes 21 = .ok (.iconst 1, 1) := by decide +kernel
theorem dX10_closes_22 : decode cX10_closes 22 = .ok (.iadd, 1) := by decide +kernel
theorem dX10_closes_23 : decode cX10_closes 23 = .ok (.iastore, 1) := by decide +kernel
theorem dX10_closes_24 : decode cX10_closes 24 = .ok (.return_, 1) := by decide +kernel
set_option maxHeartbeats 4000000 in
set_option maxRecDepth 100000 in
theorem c_X10_closes_0 (l : Launch) (V : GV) (z : Nat → Nat) : Ct l V yX10_closes (.code yX10_closes cX10_closes 1 none) 3 [.ref (z 0)] [(z 4, aI V 1025 (fun _ => 0)), (z 0, .inr (10, mo z 0 0 0 0 0 24 0 2 0 0 (-1) 0 0 0 0 0))] 0 0 (QV V (fun (w : va_W) => (w = [(z 4, aI V 1025 (upd (fun _ => 0) 0 1)), (z 0, .inr (10, mo z 0 0 0 0 0 24 0 2 0 0 (-1) 0 0 0 0 0))]))) := by
  refine Ct.of (by decide) (Nat.le_of_ble_eq_true rfl) (fun p e s m below meth c A ls hx hb hr hml hown hlk hnm hg hP hK hD hE hA hS hl => ?_)
  have hl : lv_has ls 1 [(0, .ref (z 0))] := hl
  refine lv_aload_n hx hb dX10_closes_0 rfl (lv_at hl 0 rfl) ?_
  refine lv_bipush (v := 30) hx hb dX10_closes_1 (by decide) ?_
  refine jnI (wr := [(z 4, aI V 1025 (fun _ => 0))]) (rnV (rest := []) ⟨hx, hb, hml, hown, hg⟩ (c_X10_eats_2 l V z) mt_X10_eats q_6_139 ⟨Nat.le_of_ble_eq_true rfl, Nat.le_of_ble_eq_true rfl⟩ hK hP hD hS hA hE [1] rfl rfl 1 rfl rfl rfl rfl hl.1 rfl (Nat.le_of_ble_eq_true rfl) dX10_closes_3 ⟨Nat.le_of_ble_eq_true rfl, Nat.le_of_ble_eq_true rfl⟩) hP hD hS hA [1] [0] rfl rfl rfl (by decide) (fun r_1 w H locs hw hP hD hS => ?_)
  obtain ⟨rfl, rfl⟩ := hw
  have hP : va_P V.1 vwCl [(z 4, aI V 1025 (fun _ => 0)), (z 0, .inr (10, mo z 0 0 0 0 0 24 0 2 0 0 (-1) 0 0 0 0 0))] H := hP
  have hD : va_D A [(z 4, aI V 1025 (fun _ => 0)), (z 0, .inr (10, mo z 0 0 0 0 0 24 0 2 0 0 (-1) 0 0 0 0 0))] := hD
  refine lv_if_ne (tgt := 14) hx hb dX10_closes_6 (by decide) (fun c_2 => absurd c_2 (by decide)) (fun _ => ?_)
  refine lv_aload_n hx hb dX10_closes_9 rfl (lv_at hl 0 rfl) ?_
  refine lv_iconst (v := 2) hx hb dX10_closes_10 (by decide) ?_
  refine jnV (wr := [(z 4, aI V 1025 (fun _ => 0))]) (rnV (rest := []) ⟨hx, hb, hml, hown, hg⟩ (c_X10_fails_1 l V z) mt_X10_fails q_6_147 ⟨Nat.le_of_ble_eq_true rfl, Nat.le_of_ble_eq_true rfl⟩ hK hP hD hS hA hE [1] rfl rfl 1 rfl rfl rfl rfl hl.1 rfl (Nat.le_of_ble_eq_true rfl) dX10_closes_11 ⟨Nat.le_of_ble_eq_true rfl, Nat.le_of_ble_eq_true rfl⟩) hP hD hS hA [1] [0] rfl rfl rfl (by decide) (fun  w H locs hw hP hD hS => ?_)
  subst hw
  have hP : va_P V.1 vwCl [(z 4, aI V 1025 (fun _ => 0)), (z 0, .inr (10, mo z 0 0 0 0 0 24 0 2 0 0 (-1) 0 0 0 0 0))] H := hP
  have hD : va_D A [(z 4, aI V 1025 (fun _ => 0)), (z 0, .inr (10, mo z 0 0 0 0 0 24 0 2 0 0 (-1) 0 0 0 0 0))] := hD
  refine lv_aload_n hx hb dX10_closes_14 rfl (lv_at hl 0 rfl) ?_
  refine va_get (ci := 10) (v := .ref (z 4)) (C := RX10) (T := TX10) (N := 40) hx hb hg inX10 hown hK hP 1 rfl rfl 4 (by decide) (hg _ q_5_228) (fun _ h9 => h9) rfl dX10_closes_15 ?_
  refine lv_iconst (v := 0) hx hb dX10_closes_18 (by decide) ?_
  refine lv_dup2_11 hx hb dX10_closes_19 rfl rfl ?_
  refine va_iald hx hb hK hP 0 0 rfl rfl (vin (by decide +kernel)) dX10_closes_20 ?_
  refine tpi (y := 0) (rfl) ?_
  refine lv_iconst (v := 1) hx hb dX10_closes_21 (by decide) ?_
  refine lv_iadd hx hb dX10_closes_22 ?_
  refine tpi (y := 1) (by decide +kernel) ?_
  refine va_iast hx hb hK hP hD hS 0 0 rfl rfl (vin (by decide +kernel)) dX10_closes_23 (fun H locs hP hD hS => ?_)
  have hP : va_P V.1 vwCl [(z 4, aI V 1025 (upd (fun _ => 0) 0 1)), (z 0, .inr (10, mo z 0 0 0 0 0 24 0 2 0 0 (-1) 0 0 0 0 0))] H := hP
  have hD : va_D A [(z 4, aI V 1025 (upd (fun _ => 0) 0 1)), (z 0, .inr (10, mo z 0 0 0 0 0 24 0 2 0 0 (-1) 0 0 0 0 0))] := hD
  exact fiV hx hb hr hlk hK hP hD hS dX10_closes_24 (Nat.le_of_ble_eq_true rfl) (Nat.le_of_ble_eq_true rfl) (rfl)
