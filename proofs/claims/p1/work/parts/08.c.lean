theorem dX10_rests_0 : decode cX10_rests 0 = .ok (.aload_n 0, 1) := by decide +kernel
theorem dX10_rests_1 : decode cX10_rests 1 = .ok (.iconst 0, 1) := by decide +kernel
theorem dX10_rests_2 : decode cX10_rests 2 = .ok (.putfield 1, 3) := by decide +kernel
theorem dX10_rests_5 : decode cX10_rests 5 = .ok (.iconst 1, 1) := by decide +kernel
theorem dX10_rests_6 : decode cX10_rests 6 = .ok (.istore_n 1, 1) := by decide +kernel
theorem dX10_rests_7 : decode cX10_rests 7 = .ok (.iconst 0, 1) := by decide +kernel
theorem dX10_rests_8 : decode cX10_rests 8 = .ok (.istore_n 2, 1) := by decide +kernel
theorem dX10_rests_9 : decode cX10_rests 9 = .ok (.iload_n 2, 1) := by decide +kernel
theorem dX10_rests_10 : decode cX10_rests 10 = .ok (.aload_n 0, 1) := by decide +kernel
theorem dX10_rests_11 : decode cX10_rests 11 = .ok (.getfield 13, 3) := by decide +kernel
theorem dX10_rests_14 : decode cX10_rests 14 = .ok (.iconst 1, 1) := by decide +kernel
theorem dX10_rests_15 : decode cX10_rests 15 = .ok (.iaload, 1) := by decide +kernel
theorem dX10_rests_16 : decode cX10_rests 16 = .ok (.if_icmp .ge 13, 3) := by decide +kernel
theorem dX10_rests_29 : decode cX10_rests 29 = .ok (.iconst 0, 1) := by decide +kernel
theorem dX10_rests_30 : decode cX10_rests 30 = .ok (.istore_n 2, 1) := by decide +kernel
theorem dX10_rests_31 : decode cX10_rests 31 = .ok (.iconst 0, 1) := by decide +kernel
theorem dX10_rests_32 : decode cX10_rests 32 = .ok (.istore_n 3, 1) := by decide +kernel
theorem dX10_rests_33 : decode cX10_rests 33 = .ok (.iload_n 3, 1) := by decide +kernel
theorem dX10_rests_34 : decode cX10_rests 34 = .ok (.iconst 1, 1) := by decide +kernel
theorem dX10_rests_35 : decode cX10_rests 35 = .ok (.aload_n 0, 1) := by decide +kernel
theorem dX10_rests_36 : decode cX10_rests 36 = .ok (.getfield 13, 3) := by decide +kernel
theorem dX10_rests_39 : decode cX10_rests 39 = .ok (.iconst 1, 1) := by decide +kernel
theorem dX10_rests_40 : decode cX10_rests 40 = .ok (.iaload, 1) := by decide +kernel
theorem dX10_rests_41 : decode cX10_rests 41 = .ok (.ishl, 1) := by decide +kernel
theorem dX10_rests_42 : decode cX10_rests 42 = .ok (.if_icmp .ge 63, 3) := by decide +kernel
theorem dX10_rests_45 : decode cX10_rests 45 = .ok (.iconst 0, 1) := by decide +kernel
theorem dX10_rests_46 : decode cX10_rests 46 = .ok (.istore 4, 2) := by decide +kernel
theorem dX10_rests_48 : decode cX10_rests 48 = .ok (.iload 4, 2) := by decide +kernel
theorem dX10_rests_50 : decode cX10_rests 50 = .ok (.iload_n 1, 1) := by decide +kernel
theorem dX10_rests_51 : decode cX10_rests 51 = .ok (.if_icmp .ge 48, 3) := by decide +kernel
theorem dX10_rests_54 : decode cX10_rests 54 = .ok (.iload_n 2, 1) := by decide +kernel
theorem dX10_rests_55 : decode cX10_rests 55 = .ok (.aload_n 0, 1) := by decide +kernel
theorem dX10_rests_56 : decode cX10_rests 56 = .ok (.sipush 625, 3) := by decide +kernel
theorem dX10_rests_59 : decode cX10_rests 59 = .ok (.iload_n 3, 1) := by decide +kernel
theorem dX10_rests_60 : decode cX10_rests 60 = .ok (.imul, 1) := by decide +kernel
theorem dX10_rests_61 : decode cX10_rests 61 = .ok (.iload 4, 2) := by decide +kernel
theorem dX10_rests_63 : decode cX10_rests 63 = .ok (.iadd, 1) := by decide +kernel
theorem dX10_rests_64 : decode cX10_rests 64 = .ok (.iconst 0, 1) := by decide +kernel
theorem dX10_rests_65 : decode cX10_rests 65 = .ok (.aload_n 0, 1) := by decide +kernel
theorem dX10_rests_66 : decode cX10_rests 66 = .ok (.getfield 13, 3) := by decide +kernel
theorem dX10_rests_69 : decode cX10_rests 69 = .ok (.bipush 51, 2) := by decide +kernel
theorem dX10_rests_71 : decode cX10_rests 71 = .ok (.iaload, 1) := by decide +kernel
theorem dX10_rests_72 : decode cX10_rests 72 = .ok (.invokevirtual 272, 3) := by decide +kernel
theorem dX10_rests_75 : decode cX10_rests 75 = .ok (.sipush 625, 3) := by decide +kernel
theorem dX10_rests_78 : decode cX10_rests 78 = .ok (.iload_n 3, 1) := by decide +kernel
theorem dX10_rests_79 : decode cX10_rests 79 = .ok (.imul, 1) := by decide +kernel
theorem dX10_rests_80 : decode cX10_rests 80 = .ok (.iload 4, 2) := by decide +kernel
theorem dX10_rests_82 : decode cX10_rests 82 = .ok (.iadd, 1) := by decide +kernel
theorem dX10_rests_83 : decode cX10_rests 83 = .ok (.if_icmp .ne 7, 3) := by decide +kernel
theorem dX10_rests_86 : decode cX10_rests 86 = .ok (.iconst 1, 1) := by decide +kernel
theorem dX10_rests_87 : decode cX10_rests 87 = .ok (.goto 4, 3) := by decide +kernel
theorem dX10_rests_91 : decode cX10_rests 91 = .ok (.iadd, 1) := by decide +kernel
theorem dX10_rests_92 : decode cX10_rests 92 = .ok (.istore_n 2, 1) := by decide +kernel
theorem dX10_rests_93 : decode cX10_rests 93 = .ok (.iinc 4 1, 3) := by decide +kernel
theorem dX10_rests_96 : decode cX10_rests 96 = .ok (.goto (-48), 3) := by decide +kernel
theorem dX10_rests_99 : decode cX10_rests 99 = .ok (.iinc 3 1, 3) := by decide +kernel
theorem dX10_rests_102 : decode cX10_rests 102 = .ok (.goto (-69), 3) := by decide +kernel
theorem dX10_rests_105 : decode cX10_rests 105 = .ok (.iload_n 2, 1) := by decide +kernel
theorem dX10_rests_106 : decode cX10_rests 106 = .ok (.ireturn, 1) := by decide +kernel
set_option maxHeartbeats 4000000 in
set_option maxRecDepth 100000 in
theorem c_X10_rests_0 (l : Launch) (V : GV) (z : Nat → Nat) : Ct l V yX10_rests (.code yX10_rests cX10_rests 5 (some .int)) 2 [.ref (z 0)] [(z 0, .inr (10, mo z 0 0 0 0 0 0 0 0 0 0 (-1) 0 0 0 0 0)), (z 1, aI V 3075 (fun _ => 0))] 0 0 (QI V (fun (r : Int32) (w : va_W) => (r = 1 ∧ w = [(z 0, .inr (10, mo z 0 0 0 0 0 0 0 0 0 0 (-1) 0 0 0 0 0)), (z 1, aI V 3075 (fun _ => 0))]))) := by
  refine Ct.of (by decide) (Nat.le_of_ble_eq_true rfl) (fun p e s m below meth c A ls hx hb hr hml hown hlk hnm hg hP hK hD hE hA hS hl => ?_)
  have hl : lv_has ls 5 [(0, .ref (z 0))] := hl
  refine lv_aload_n hx hb dX10_rests_0 rfl (lv_at hl 0 rfl) ?_
  refine lv_iconst (v := 0) hx hb dX10_rests_1 (by decide) ?_
  refine va_put (ci := 10) (v := .int 0) (ty := .int) (C := RX10) (T := TX10) (N := 40) hx hb hg inX10 tyX10 tyX10_ok nmX10 hown hK hP hD hS 0 rfl rfl 0 (by decide) (hg _ q_5_224) (fun _ h9 => h9) rfl (by decide +kernel) rfl rfl (Nat.le_of_ble_eq_true rfl) dX10_rests_2 (fun H locs hP hD hS => ?_)
  have hP : va_P V.1 vwCl [(z 0, .inr (10, mo z 0 0 0 0 0 0 0 0 0 0 (-1) 0 0 0 0 0)), (z 1, aI V 3075 (fun _ => 0))] H := hP
  have hD : va_D A [(z 0, .inr (10, mo z 0 0 0 0 0 0 0 0 0 0 (-1) 0 0 0 0 0)), (z 1, aI V 3075 (fun _ => 0))] := hD
  refine lv_iconst (v := 1) hx hb dX10_rests_5 (by decide) ?_
  refine lv_istore_n (lv' := [(1, .int 1), (0, .ref (z 0))]) hx hb dX10_rests_6 rfl hl (by decide) rfl (fun ls hl => ?_)
  refine lv_iconst (v := 0) hx hb dX10_rests_7 (by decide) ?_
  refine lv_istore_n (lv' := [(2, .int 0), (1, .int 1), (0, .ref (z 0))]) hx hb dX10_rests_8 rfl hl (by decide) rfl (fun ls hl => ?_)
  refine lv_iload_n hx hb dX10_rests_9 rfl (lv_at hl 0 rfl) ?_
  refine lv_aload_n hx hb dX10_rests_10 rfl (lv_at hl 2 rfl) ?_
  refine va_get (ci := 10) (v := .ref (z 1)) (C := RX10) (T := TX10) (N := 40) hx hb hg inX10 hown hK hP 0 rfl rfl 1 (by decide) (hg _ q_5_225) (fun _ h9 => h9) rfl dX10_rests_11 ?_
  refine lv_iconst (v := 1) hx hb dX10_rests_14 (by decide) ?_
  refine va_iald hx hb hK hP 1 0 rfl rfl (vin (by decide +kernel)) dX10_rests_15 ?_
  refine tpi (y := 0) (rfl) ?_
  refine lv_icmp_ge (tgt := 29) hx hb dX10_rests_16 (by decide) (fun _ => ?_) (fun c_1 => absurd c_1 (by decide))
  refine lv_iconst (v := 0) hx hb dX10_rests_29 (by decide) ?_
  refine lv_istore_n (lv' := [(2, .int 0), (1, .int 1), (0, .ref (z 0))]) hx hb dX10_rests_30 rfl hl (by decide) rfl (fun ls hl => ?_)
  refine lv_iconst (v := 0) hx hb dX10_rests_31 (by decide) ?_
  refine lv_istore_n (lv' := [(3, .int 0), (2, .int 0), (1, .int 1), (0, .ref (z 0))]) hx hb dX10_rests_32 rfl hl (by decide) rfl (fun ls hl => ?_)
  refine lv_iload_n hx hb dX10_rests_33 rfl (lv_at hl 0 rfl) ?_
  refine lv_iconst (v := 1) hx hb dX10_rests_34 (by decide) ?_
  refine lv_aload_n hx hb dX10_rests_35 rfl (lv_at hl 3 rfl) ?_
  refine va_get (ci := 10) (v := .ref (z 1)) (C := RX10) (T := TX10) (N := 40) hx hb hg inX10 hown hK hP 0 rfl rfl 1 (by decide) (hg _ q_5_225) (fun _ h9 => h9) rfl dX10_rests_36 ?_
  refine lv_iconst (v := 1) hx hb dX10_rests_39 (by decide) ?_
  refine va_iald hx hb hK hP 1 0 rfl rfl (vin (by decide +kernel)) dX10_rests_40 ?_
  refine tpi (y := 0) (rfl) ?_
  refine lv_ishl hx hb dX10_rests_41 ?_
  refine tpi (y := 1) (by decide +kernel) ?_
  refine lv_icmp_ge (tgt := 105) hx hb dX10_rests_42 (by decide) (fun c_2 => absurd c_2 (by decide)) (fun _ => ?_)
  refine lv_iconst (v := 0) hx hb dX10_rests_45 (by decide) ?_
  refine lv_istore (lv' := [(4, .int 0), (3, .int 0), (2, .int 0), (1, .int 1), (0, .ref (z 0))]) hx hb dX10_rests_46 hl (by decide) rfl (fun ls hl => ?_)
  refine lv_iload hx hb dX10_rests_48 (lv_at hl 0 rfl) ?_
  refine lv_iload_n hx hb dX10_rests_50 rfl (lv_at hl 3 rfl) ?_
  refine lv_icmp_ge (tgt := 99) hx hb dX10_rests_51 (by decide) (fun c_3 => absurd c_3 (by decide)) (fun _ => ?_)
  refine lv_iload_n hx hb dX10_rests_54 rfl (lv_at hl 2 rfl) ?_
  refine lv_aload_n hx hb dX10_rests_55 rfl (lv_at hl 4 rfl) ?_
  refine lv_sipush (v := 625) hx hb dX10_rests_56 (by decide) ?_
  refine lv_iload_n hx hb dX10_rests_59 rfl (lv_at hl 1 rfl) ?_
  refine lv_imul hx hb dX10_rests_60 ?_
  refine tpi (y := 0) (by decide +kernel) ?_
  refine lv_iload hx hb dX10_rests_61 (lv_at hl 0 rfl) ?_
  refine lv_iadd hx hb dX10_rests_63 ?_
  refine tpi (y := 0) (by decide +kernel) ?_
  refine lv_iconst (v := 0) hx hb dX10_rests_64 (by decide) ?_
  refine lv_aload_n hx hb dX10_rests_65 rfl (lv_at hl 4 rfl) ?_
  refine va_get (ci := 10) (v := .ref (z 1)) (C := RX10) (T := TX10) (N := 40) hx hb hg inX10 hown hK hP 0 rfl rfl 1 (by decide) (hg _ q_5_225) (fun _ h9 => h9) rfl dX10_rests_66 ?_
  refine lv_bipush (v := 51) hx hb dX10_rests_69 (by decide) ?_
  refine va_iald hx hb hK hP 1 0 rfl rfl (vin (by decide +kernel)) dX10_rests_71 ?_
  refine tpi (y := 0) (rfl) ?_
  refine jnI (wr := []) (rnV (rest := [.int 0]) ⟨hx, hb, hml, hown, hg⟩ (c_X10_nightTo_1 l V z) mt_X10_nightTo q_7_18 ⟨Nat.le_of_ble_eq_true rfl, Nat.le_of_ble_eq_true rfl⟩ hK hP hD hS hA hE [0, 1] rfl rfl 0 rfl rfl rfl rfl hl.1 rfl (Nat.le_of_ble_eq_true rfl) dX10_rests_72 ⟨Nat.le_of_ble_eq_true rfl, Nat.le_of_ble_eq_true rfl⟩) hP hD hS hA [0, 1] [] rfl rfl rfl (by decide) (fun r_4 w H locs hw hP hD hS => ?_)
  obtain ⟨rfl, rfl⟩ := hw
  have hP : va_P V.1 vwCl [(z 0, .inr (10, mo z 0 0 0 0 0 0 0 0 0 0 (-1) 0 0 0 0 0)), (z 1, aI V 3075 (fun _ => 0))] H := hP
  have hD : va_D A [(z 0, .inr (10, mo z 0 0 0 0 0 0 0 0 0 0 (-1) 0 0 0 0 0)), (z 1, aI V 3075 (fun _ => 0))] := hD
  refine lv_sipush (v := 625) hx hb dX10_rests_75 (by decide) ?_
  refine lv_iload_n hx hb dX10_rests_78 rfl (lv_at hl 1 rfl) ?_
  refine lv_imul hx hb dX10_rests_79 ?_
  refine tpi (y := 0) (by decide +kernel) ?_
  refine lv_iload hx hb dX10_rests_80 (lv_at hl 0 rfl) ?_
  refine lv_iadd hx hb dX10_rests_82 ?_
  refine tpi (y := 0) (by decide +kernel) ?_
  refine lv_icmp_ne (tgt := 90) hx hb dX10_rests_83 (by decide) (fun c_5 => absurd c_5 (by decide)) (fun _ => ?_)
  refine lv_iconst (v := 1) hx hb dX10_rests_86 (by decide) ?_
  refine lv_goto (tgt := 91) hx hb dX10_rests_87 (by decide) ?_
  refine lv_iadd hx hb dX10_rests_91 ?_
  refine tpi (y := 1) (by decide +kernel) ?_
  refine lv_istore_n (lv' := [(2, .int 1), (4, .int 0), (3, .int 0), (1, .int 1), (0, .ref (z 0))]) hx hb dX10_rests_92 rfl hl (by decide) rfl (fun ls hl => ?_)
  refine lv_iinc (v := 1) (lv' := [(4, .int 1), (2, .int 1), (3, .int 0), (1, .int 1), (0, .ref (z 0))]) hx hb dX10_rests_93 hl (k := 1) rfl (by decide +kernel) (by decide) rfl (fun ls hl => ?_)
  refine lv_goto (tgt := 48) hx hb dX10_rests_96 (by decide) ?_
  refine lv_iload hx hb dX10_rests_48 (lv_at hl 0 rfl) ?_
  refine lv_iload_n hx hb dX10_rests_50 rfl (lv_at hl 3 rfl) ?_
  refine lv_icmp_ge (tgt := 99) hx hb dX10_rests_51 (by decide) (fun _ => ?_) (fun c_6 => absurd c_6 (by decide))
  refine lv_iinc (v := 1) (lv' := [(3, .int 1), (4, .int 1), (2, .int 1), (1, .int 1), (0, .ref (z 0))]) hx hb dX10_rests_99 hl (k := 2) rfl (by decide +kernel) (by decide) rfl (fun ls hl => ?_)
  refine lv_goto (tgt := 33) hx hb dX10_rests_102 (by decide) ?_
  refine lv_iload_n hx hb dX10_rests_33 rfl (lv_at hl 0 rfl) ?_
  refine lv_iconst (v := 1) hx hb dX10_rests_34 (by decide) ?_
  refine lv_aload_n hx hb dX10_rests_35 rfl (lv_at hl 4 rfl) ?_
  refine va_get (ci := 10) (v := .ref (z 1)) (C := RX10) (T := TX10) (N := 40) hx hb hg inX10 hown hK hP 0 rfl rfl 1 (by decide) (hg _ q_5_225) (fun _ h9 => h9) rfl dX10_rests_36 ?_
  refine lv_iconst (v := 1) hx hb dX10_rests_39 (by decide) ?_
  refine va_iald hx hb hK hP 1 0 rfl rfl (vin (by decide +kernel)) dX10_rests_40 ?_
  refine tpi (y := 0) (rfl) ?_
  refine lv_ishl hx hb dX10_rests_41 ?_
  refine tpi (y := 1) (by decide +kernel) ?_
  refine lv_icmp_ge (tgt := 105) hx hb dX10_rests_42 (by decide) (fun _ => ?_) (fun c_7 => absurd c_7 (by decide))
  refine lv_iload_n hx hb dX10_rests_105 rfl (lv_at hl 2 rfl) ?_
  exact fiI hx hb hr hlk hK hP hD hS dX10_rests_106 (Nat.le_of_ble_eq_true rfl) (Nat.le_of_ble_eq_true rfl) (⟨rfl, rfl⟩)
theorem dJ7_fill_53178_0 : decode cJ7_fill_53178 0 = .ok (.iconst 0, 1) := by decide +kernel
theorem dJ7_fill_53178_1 : decode cJ7_fill_53178 1 = .ok (.istore_n 2, 1) := by decide +kernel
theorem dJ7_fill_53178_2 : decode cJ7_fill_53178 2 = .ok (.aload_n 0, 1) := by decide +kernel
theorem dJ7_fill_53178_3 : decode cJ7_fill_53178 3 = .ok (.arraylength, 1) := by decide +kernel
theorem dJ7_fill_53178_4 : decode cJ7_fill_53178 4 = .ok (.istore_n 3, 1) := by decide +kernel
theorem dJ7_fill_53178_5 : decode cJ7_fill_53178 5 = .ok (.iload_n 2, 1) := by decide +kernel
theorem dJ7_fill_53178_6 : decode cJ7_fill_53178 6 = .ok (.iload_n 3, 1) := by decide +kernel
theorem dJ7_fill_53178_7 : decode cJ7_fill_53178 7 = .ok (.if_icmp .ge 13, 3) := by decide +kernel
theorem dJ7_fill_53178_10 : decode cJ7_fill_53178 10 = .ok (.aload_n 0, 1) := by decide +kernel
theorem dJ7_fill_53178_11 : decode cJ7_fill_53178 11 = .ok (.iload_n 2, 1) := by decide +kernel
theorem dJ7_fill_53178_12 : decode cJ7_fill_53178 12 = .ok (.iload_n 1, 1) := by decide +kernel
theorem dJ7_fill_53178_13 : decode cJ7_fill_53178 13 = .ok (.iastore, 1) := by decide +kernel
theorem dJ7_fill_53178_14 : decode cJ7_fill_53178 14 = .ok (.iinc 2 1, 3) := by decide +kernel
theorem dJ7_fill_53178_17 : decode cJ7_fill_53178 17 = .ok (.goto (-12), 3) := by decide +kernel
theorem dJ7_fill_53178_20 : decode cJ7_fill_53178 20 = .ok (.return_, 1) := by decide +kernel
set_option maxHeartbeats 4000000 in
set_option maxRecDepth 100000 in
theorem c_J7_fill_53178_0 (l : Launch) (V : GV) (y : Nat → Nat) : Ct l V yJ7_fill_53178 (.code yJ7_fill_53178 cJ7_fill_53178 4 none) 1 [.ref (y 23), .int 0] [(y 23, aI V 10 (fun _ => 0))] 0 0 (QV V (fun (w : va_W) => (w = [(y 23, aI V 10 (fun _ => 0))]))) := by
  refine Ct.of (by decide) (Nat.le_of_ble_eq_true rfl) (fun p e s m below meth c A ls hx hb hr hml hown hlk hnm hg hP hK hD hE hA hS hl => ?_)
  have hl : lv_has ls 4 [(0, .ref (y 23)), (1, .int 0)] := hl
  refine lv_iconst (v := 0) hx hb dJ7_fill_53178_0 (by decide) ?_
  refine lv_istore_n (lv' := [(2, .int 0), (0, .ref (y 23)), (1, .int 0)]) hx hb dJ7_fill_53178_1 rfl hl (by decide) rfl (fun ls hl => ?_)
  refine lv_aload_n hx hb dJ7_fill_53178_2 rfl (lv_at hl 1 rfl) ?_
  refine va_alen (v := 10) hx hb hK hP 0 0 rfl rfl (by decide) dJ7_fill_53178_3 ?_
  refine lv_istore_n (lv' := [(3, .int 10), (2, .int 0), (0, .ref (y 23)), (1, .int 0)]) hx hb dJ7_fill_53178_4 rfl hl (by decide) rfl (fun ls hl => ?_)
  refine lv_iload_n hx hb dJ7_fill_53178_5 rfl (lv_at hl 1 rfl) ?_
  refine lv_iload_n hx hb dJ7_fill_53178_6 rfl (lv_at hl 0 rfl) ?_
  refine lv_icmp_ge (tgt := 20) hx hb dJ7_fill_53178_7 (by decide) (fun c_1 => absurd c_1 (by decide)) (fun _ => ?_)
  refine lv_aload_n hx hb dJ7_fill_53178_10 rfl (lv_at hl 2 rfl) ?_
  refine lv_iload_n hx hb dJ7_fill_53178_11 rfl (lv_at hl 1 rfl) ?_
  refine lv_iload_n hx hb dJ7_fill_53178_12 rfl (lv_at hl 3 rfl) ?_
  refine va_iast hx hb hK hP hD hS 0 0 rfl rfl (vin (by decide +kernel)) dJ7_fill_53178_13 (fun H locs hP hD hS => ?_)
  have hP : va_P V.1 vwCl [(y 23, aI V 10 (upd (fun _ => 0) 0 0))] H := hP
  have hD : va_D A [(y 23, aI V 10 (upd (fun _ => 0) 0 0))] := hD
  have hP : va_P V.1 vwCl [(y 23, aI V 10 (fun _ => 0))] H := by rw [upd0] at hP; exact hP
  have hD : va_D A [(y 23, aI V 10 (fun _ => 0))] := by rw [upd0] at hD; exact hD
  refine lv_iinc (v := 1) (lv' := [(2, .int 1), (3, .int 10), (0, .ref (y 23)), (1, .int 0)]) hx hb dJ7_fill_53178_14 hl (k := 1) rfl (by decide +kernel) (by decide) rfl (fun ls hl => ?_)
  refine lv_goto (tgt := 5) hx hb dJ7_fill_53178_17 (by decide) ?_
  refine lv_iload_n hx hb dJ7_fill_53178_5 rfl (lv_at hl 0 rfl) ?_
  refine lv_iload_n hx hb dJ7_fill_53178_6 rfl (lv_at hl 1 rfl) ?_
  refine lv_icmp_ge (tgt := 20) hx hb dJ7_fill_53178_7 (by decide) (fun c_2 => absurd c_2 (by decide)) (fun _ => ?_)
  refine lv_aload_n hx hb dJ7_fill_53178_10 rfl (lv_at hl 2 rfl) ?_
  refine lv_iload_n hx hb dJ7_fill_53178_11 rfl (lv_at hl 0 rfl) ?_
  refine lv_iload_n hx hb dJ7_fill_53178_12 rfl (lv_at hl 3 rfl) ?_
  refine va_iast hx hb hK hP hD hS 0 0 rfl rfl (vin (by decide +kernel)) dJ7_fill_53178_13 (fun H locs hP hD hS => ?_)
  have hP : va_P V.1 vwCl [(y 23, aI V 10 (upd (fun _ => 0) 1 0))] H := hP
  have hD : va_D A [(y 23, aI V 10 (upd (fun _ => 0) 1 0))] := hD
  have hP : va_P V.1 vwCl [(y 23, aI V 10 (fun _ => 0))] H := by rw [upd0] at hP; exact hP
  have hD : va_D A [(y 23, aI V 10 (fun _ => 0))] := by rw [upd0] at hD; exact hD
  refine lv_iinc (v := 2) (lv' := [(2, .int 2), (3, .int 10), (0, .ref (y 23)), (1, .int 0)]) hx hb dJ7_fill_53178_14 hl (k := 0) rfl (by decide +kernel) (by decide) rfl (fun ls hl => ?_)
  refine lv_goto (tgt := 5) hx hb dJ7_fill_53178_17 (by decide) ?_
  refine lv_iload_n hx hb dJ7_fill_53178_5 rfl (lv_at hl 0 rfl) ?_
  refine lv_iload_n hx hb dJ7_fill_53178_6 rfl (lv_at hl 1 rfl) ?_
  refine lv_icmp_ge (tgt := 20) hx hb dJ7_fill_53178_7 (by decide) (fun c_3 => absurd c_3 (by decide)) (fun _ => ?_)
  refine lv_aload_n hx hb dJ7_fill_53178_10 rfl (lv_at hl 2 rfl) ?_
  refine lv_iload_n hx hb dJ7_fill_53178_11 rfl (lv_at hl 0 rfl) ?_
  refine lv_iload_n hx hb dJ7_fill_53178_12 rfl (lv_at hl 3 rfl) ?_
  refine va_iast hx hb hK hP hD hS 0 0 rfl rfl (vin (by decide +kernel)) dJ7_fill_53178_13 (fun H locs hP hD hS => ?_)
  have hP : va_P V.1 vwCl [(y 23, aI V 10 (upd (fun _ => 0) 2 0))] H := hP
  have hD : va_D A [(y 23, aI V 10 (upd (fun _ => 0) 2 0))] := hD
  have hP : va_P V.1 vwCl [(y 23, aI V 10 (fun _ => 0))] H := by rw [upd0] at hP; exact hP
  have hD : va_D A [(y 23, aI V 10 (fun _ => 0))] := by rw [upd0] at hD; exact hD
  refine lv_iinc (v := 3) (lv' := [(2, .int 3), (3, .int 10), (0, .ref (y 23)), (1, .int 0)]) hx hb dJ7_fill_53178_14 hl (k := 0) rfl (by decide +kernel) (by decide) rfl (fun ls hl => ?_)
  refine lv_goto (tgt := 5) hx hb dJ7_fill_53178_17 (by decide) ?_
  refine lv_iload_n hx hb dJ7_fill_53178_5 rfl (lv_at hl 0 rfl) ?_
  refine lv_iload_n hx hb dJ7_fill_53178_6 rfl (lv_at hl 1 rfl) ?_
  refine lv_icmp_ge (tgt := 20) hx hb dJ7_fill_53178_7 (by decide) (fun c_4 => absurd c_4 (by decide)) (fun _ => ?_)
  refine lv_aload_n hx hb dJ7_fill_53178_10 rfl (lv_at hl 2 rfl) ?_
  refine lv_iload_n hx hb dJ7_fill_53178_11 rfl (lv_at hl 0 rfl) ?_
  refine lv_iload_n hx hb dJ7_fill_53178_12 rfl (lv_at hl 3 rfl) ?_
  refine va_iast hx hb hK hP hD hS 0 0 rfl rfl (vin (by decide +kernel)) dJ7_fill_53178_13 (fun H locs hP hD hS => ?_)
  have hP : va_P V.1 vwCl [(y 23, aI V 10 (upd (fun _ => 0) 3 0))] H := hP
  have hD : va_D A [(y 23, aI V 10 (upd (fun _ => 0) 3 0))] := hD
  have hP : va_P V.1 vwCl [(y 23, aI V 10 (fun _ => 0))] H := by rw [upd0] at hP; exact hP
  have hD : va_D A [(y 23, aI V 10 (fun _ => 0))] := by rw [upd0] at hD; exact hD
  refine lv_iinc (v := 4) (lv' := [(2, .int 4), (3, .int 10), (0, .ref (y 23)), (1, .int 0)]) hx hb dJ7_fill_53178_14 hl (k := 0) rfl (by decide +kernel) (by decide) rfl (fun ls hl => ?_)
  refine lv_goto (tgt := 5) hx hb dJ7_fill_53178_17 (by decide) ?_
  refine lv_iload_n hx hb dJ7_fill_53178_5 rfl (lv_at hl 0 rfl) ?_
  refine lv_iload_n hx hb dJ7_fill_53178_6 rfl (lv_at hl 1 rfl) ?_
  refine lv_icmp_ge (tgt := 20) hx hb dJ7_fill_53178_7 (by decide) (fun c_5 => absurd c_5 (by decide)) (fun _ => ?_)
  refine lv_aload_n hx hb dJ7_fill_53178_10 rfl (lv_at hl 2 rfl) ?_
  refine lv_iload_n hx hb dJ7_fill_53178_11 rfl (lv_at hl 0 rfl) ?_
  refine lv_iload_n hx hb dJ7_fill_53178_12 rfl (lv_at hl 3 rfl) ?_
  refine va_iast hx hb hK hP hD hS 0 0 rfl rfl (vin (by decide +kernel)) dJ7_fill_53178_13 (fun H locs hP hD hS => ?_)
  have hP : va_P V.1 vwCl [(y 23, aI V 10 (upd (fun _ => 0) 4 0))] H := hP
  have hD : va_D A [(y 23, aI V 10 (upd (fun _ => 0) 4 0))] := hD
  have hP : va_P V.1 vwCl [(y 23, aI V 10 (fun _ => 0))] H := by rw [upd0] at hP; exact hP
  have hD : va_D A [(y 23, aI V 10 (fun _ => 0))] := by rw [upd0] at hD; exact hD
  refine lv_iinc (v := 5) (lv' := [(2, .int 5), (3, .int 10), (0, .ref (y 23)), (1, .int 0)]) hx hb dJ7_fill_53178_14 hl (k := 0) rfl (by decide +kernel) (by decide) rfl (fun ls hl => ?_)
  refine lv_goto (tgt := 5) hx hb dJ7_fill_53178_17 (by decide) ?_
  refine lv_iload_n hx hb dJ7_fill_53178_5 rfl (lv_at hl 0 rfl) ?_
  refine lv_iload_n hx hb dJ7_fill_53178_6 rfl (lv_at hl 1 rfl) ?_
  refine lv_icmp_ge (tgt := 20) hx hb dJ7_fill_53178_7 (by decide) (fun c_6 => absurd c_6 (by decide)) (fun _ => ?_)
  refine lv_aload_n hx hb dJ7_fill_53178_10 rfl (lv_at hl 2 rfl) ?_
  refine lv_iload_n hx hb dJ7_fill_53178_11 rfl (lv_at hl 0 rfl) ?_
  refine lv_iload_n hx hb dJ7_fill_53178_12 rfl (lv_at hl 3 rfl) ?_
  refine va_iast hx hb hK hP hD hS 0 0 rfl rfl (vin (by decide +kernel)) dJ7_fill_53178_13 (fun H locs hP hD hS => ?_)
  have hP : va_P V.1 vwCl [(y 23, aI V 10 (upd (fun _ => 0) 5 0))] H := hP
  have hD : va_D A [(y 23, aI V 10 (upd (fun _ => 0) 5 0))] := hD
  have hP : va_P V.1 vwCl [(y 23, aI V 10 (fun _ => 0))] H := by rw [upd0] at hP; exact hP
  have hD : va_D A [(y 23, aI V 10 (fun _ => 0))] := by rw [upd0] at hD; exact hD
  refine lv_iinc (v := 6) (lv' := [(2, .int 6), (3, .int 10), (0, .ref (y 23)), (1, .int 0)]) hx hb dJ7_fill_53178_14 hl (k := 0) rfl (by decide +kernel) (by decide) rfl (fun ls hl => ?_)
  refine lv_goto (tgt := 5) hx hb dJ7_fill_53178_17 (by decide) ?_
  refine lv_iload_n hx hb dJ7_fill_53178_5 rfl (lv_at hl 0 rfl) ?_
  refine lv_iload_n hx hb dJ7_fill_53178_6 rfl (lv_at hl 1 rfl) ?_
  refine lv_icmp_ge (tgt := 20) hx hb dJ7_fill_53178_7 (by decide) (fun c_7 => absurd c_7 (by decide)) (fun _ => ?_)
  refine lv_aload_n hx hb dJ7_fill_53178_10 rfl (lv_at hl 2 rfl) ?_
  refine lv_iload_n hx hb dJ7_fill_53178_11 rfl (lv_at hl 0 rfl) ?_
  refine lv_iload_n hx hb dJ7_fill_53178_12 rfl (lv_at hl 3 rfl) ?_
  refine va_iast hx hb hK hP hD hS 0 0 rfl rfl (vin (by decide +kernel)) dJ7_fill_53178_13 (fun H locs hP hD hS => ?_)
  have hP : va_P V.1 vwCl [(y 23, aI V 10 (upd (fun _ => 0) 6 0))] H := hP
  have hD : va_D A [(y 23, aI V 10 (upd (fun _ => 0) 6 0))] := hD
  have hP : va_P V.1 vwCl [(y 23, aI V 10 (fun _ => 0))] H := by rw [upd0] at hP; exact hP
  have hD : va_D A [(y 23, aI V 10 (fun _ => 0))] := by rw [upd0] at hD; exact hD
  refine lv_iinc (v := 7) (lv' := [(2, .int 7), (3, .int 10), (0, .ref (y 23)), (1, .int 0)]) hx hb dJ7_fill_53178_14 hl (k := 0) rfl (by decide +kernel) (by decide) rfl (fun ls hl => ?_)
  refine lv_goto (tgt := 5) hx hb dJ7_fill_53178_17 (by decide) ?_
  refine lv_iload_n hx hb dJ7_fill_53178_5 rfl (lv_at hl 0 rfl) ?_
  refine lv_iload_n hx hb dJ7_fill_53178_6 rfl (lv_at hl 1 rfl) ?_
  refine lv_icmp_ge (tgt := 20) hx hb dJ7_fill_53178_7 (by decide) (fun c_8 => absurd c_8 (by decide)) (fun _ => ?_)
  refine lv_aload_n hx hb dJ7_fill_53178_10 rfl (lv_at hl 2 rfl) ?_
  refine lv_iload_n hx hb dJ7_fill_53178_11 rfl (lv_at hl 0 rfl) ?_
  refine lv_iload_n hx hb dJ7_fill_53178_12 rfl (lv_at hl 3 rfl) ?_
  refine va_iast hx hb hK hP hD hS 0 0 rfl rfl (vin (by decide +kernel)) dJ7_fill_53178_13 (fun H locs hP hD hS => ?_)
  have hP : va_P V.1 vwCl [(y 23, aI V 10 (upd (fun _ => 0) 7 0))] H := hP
  have hD : va_D A [(y 23, aI V 10 (upd (fun _ => 0) 7 0))] := hD
  have hP : va_P V.1 vwCl [(y 23, aI V 10 (fun _ => 0))] H := by rw [upd0] at hP; exact hP
  have hD : va_D A [(y 23, aI V 10 (fun _ => 0))] := by rw [upd0] at hD; exact hD
  refine lv_iinc (v := 8) (lv' := [(2, .int 8), (3, .int 10), (0, .ref (y 23)), (1, .int 0)]) hx hb dJ7_fill_53178_14 hl (k := 0) rfl (by decide +kernel) (by decide) rfl (fun ls hl => ?_)
  refine lv_goto (tgt := 5) hx hb dJ7_fill_53178_17 (by decide) ?_
  refine lv_iload_n hx hb dJ7_fill_53178_5 rfl (lv_at hl 0 rfl) ?_
  refine lv_iload_n hx hb dJ7_fill_53178_6 rfl (lv_at hl 1 rfl) ?_
  refine lv_icmp_ge (tgt := 20) hx hb dJ7_fill_53178_7 (by decide) (fun c_9 => absurd c_9 (by decide)) (fun _ => ?_)
  refine lv_aload_n hx hb dJ7_fill_53178_10 rfl (lv_at hl 2 rfl) ?_
  refine lv_iload_n hx hb dJ7_fill_53178_11 rfl (lv_at hl 0 rfl) ?_
  refine lv_iload_n hx hb dJ7_fill_53178_12 rfl (lv_at hl 3 rfl) ?_
  refine va_iast hx hb hK hP hD hS 0 0 rfl rfl (vin (by decide +kernel)) dJ7_fill_53178_13 (fun H locs hP hD hS => ?_)
  have hP : va_P V.1 vwCl [(y 23, aI V 10 (upd (fun _ => 0) 8 0))] H := hP
  have hD : va_D A [(y 23, aI V 10 (upd (fun _ => 0) 8 0))] := hD
  have hP : va_P V.1 vwCl [(y 23, aI V 10 (fun _ => 0))] H := by rw [upd0] at hP; exact hP
  have hD : va_D A [(y 23, aI V 10 (fun _ => 0))] := by rw [upd0] at hD; exact hD
  refine lv_iinc (v := 9) (lv' := [(2, .int 9), (3, .int 10), (0, .ref (y 23)), (1, .int 0)]) hx hb dJ7_fill_53178_14 hl (k := 0) rfl (by decide +kernel) (by decide) rfl (fun ls hl => ?_)
  refine lv_goto (tgt := 5) hx hb dJ7_fill_53178_17 (by decide) ?_
  refine lv_iload_n hx hb dJ7_fill_53178_5 rfl (lv_at hl 0 rfl) ?_
  refine lv_iload_n hx hb dJ7_fill_53178_6 rfl (lv_at hl 1 rfl) ?_
  refine lv_icmp_ge (tgt := 20) hx hb dJ7_fill_53178_7 (by decide) (fun c_10 => absurd c_10 (by decide)) (fun _ => ?_)
  refine lv_aload_n hx hb dJ7_fill_53178_10 rfl (lv_at hl 2 rfl) ?_
  refine lv_iload_n hx hb dJ7_fill_53178_11 rfl (lv_at hl 0 rfl) ?_
  refine lv_iload_n hx hb dJ7_fill_53178_12 rfl (lv_at hl 3 rfl) ?_
  refine va_iast hx hb hK hP hD hS 0 0 rfl rfl (vin (by decide +kernel)) dJ7_fill_53178_13 (fun H locs hP hD hS => ?_)
  have hP : va_P V.1 vwCl [(y 23, aI V 10 (upd (fun _ => 0) 9 0))] H := hP
  have hD : va_D A [(y 23, aI V 10 (upd (fun _ => 0) 9 0))] := hD
  have hP : va_P V.1 vwCl [(y 23, aI V 10 (fun _ => 0))] H := by rw [upd0] at hP; exact hP
  have hD : va_D A [(y 23, aI V 10 (fun _ => 0))] := by rw [upd0] at hD; exact hD
  refine lv_iinc (v := 10) (lv' := [(2, .int 10), (3, .int 10), (0, .ref (y 23)), (1, .int 0)]) hx hb dJ7_fill_53178_14 hl (k := 0) rfl (by decide +kernel) (by decide) rfl (fun ls hl => ?_)
  refine lv_goto (tgt := 5) hx hb dJ7_fill_53178_17 (by decide) ?_
  refine lv_iload_n hx hb dJ7_fill_53178_5 rfl (lv_at hl 0 rfl) ?_
  refine lv_iload_n hx hb dJ7_fill_53178_6 rfl (lv_at hl 1 rfl) ?_
  refine lv_icmp_ge (tgt := 20) hx hb dJ7_fill_53178_7 (by decide) (fun _ => ?_) (fun c_11 => absurd c_11 (by decide))
  exact fiV hx hb hr hlk hK hP hD hS dJ7_fill_53178_20 (Nat.le_of_ble_eq_true rfl) (Nat.le_of_ble_eq_true rfl) (rfl)
theorem dX4_howManyStay_0 : decode cX4_howManyStay 0 = .ok (.aload_n 0, 1) := by decide +kernel
theorem dX4_howManyStay_1 : decode cX4_howManyStay 1 = .ok (.getfield 21, 3) := by decide +kernel
theorem dX4_howManyStay_4 : decode cX4_howManyStay 4 = .ok (.iconst 0, 1) := by decide +kernel
theorem q_3_109 : Cond.code yJ7_fill_53178 prog_20_method_103_code 4 none ∈ gw := gw_3 (i := 109) (rfl) rfl
theorem q_1_17 : Cond.initialized "java/util/Arrays" ∈ gw := gw_1 (i := 17) (by decide +kernel) rfl
theorem q_3_108 : Cond.static yJ7_fill_53178 ∈ gw := gw_3 (i := 108) (by decide +kernel) rfl
theorem mt_J7_fill_53178 : MtS yJ7_fill_53178 cJ7_fill_53178 4 none 2 := ⟨⟨q_3_109, q_1_17, by decide +kernel, by decide +kernel, by decide +kernel⟩, q_3_108⟩
theorem q_3_107 : Cond.methodLink "BeaconDelay$Laws" 31 yJ7_fill_53178 ∈ gw := gw_3 (i := 107) (by decide +kernel) rfl
theorem dX4_howManyStay_5 : decode cX4_howManyStay 5 = .ok (.invokestatic 31, 3) := by decide +kernel
theorem dX4_howManyStay_8 : decode cX4_howManyStay 8 = .ok (.aload_n 0, 1) := by decide +kernel
theorem dX4_howManyStay_9 : decode cX4_howManyStay 9 = .ok (.getfield 21, 3) := by decide +kernel
theorem dX4_howManyStay_12 : decode cX4_howManyStay 12 = .ok (.iconst 0, 1) := by decide +kernel
theorem dX4_howManyStay_13 : decode cX4_howManyStay 13 = .ok (.iconst 1, 1) := by decide +kernel
theorem dX4_howManyStay_14 : decode cX4_howManyStay 14 = .ok (.iastore, 1) := by decide +kernel
theorem dX4_howManyStay_15 : decode cX4_howManyStay 15 = .ok (.iconst 1, 1) := by decide +kernel
theorem dX4_howManyStay_16 : decode cX4_howManyStay 16 = .ok (.istore_n 2, 1) := by decide +kernel
theorem dX4_howManyStay_17 : decode cX4_howManyStay 17 = .ok (.iconst 0, 1) := by decide +kernel
theorem dX4_howManyStay_18 : decode cX4_howManyStay 18 = .ok (.istore_n 3, 1) := by decide +kernel
theorem dX4_howManyStay_19 : decode cX4_howManyStay 19 = .ok (.iload_n 3, 1) := by decide +kernel
theorem dX4_howManyStay_20 : decode cX4_howManyStay 20 = .ok (.aload_n 0, 1) := by decide +kernel
theorem dX4_howManyStay_21 : decode cX4_howManyStay 21 = .ok (.getfield 27, 3) := by decide +kernel
theorem dX4_howManyStay_24 : decode cX4_howManyStay 24 = .ok (.getfield 37, 3) := by decide +kernel
theorem dX4_howManyStay_27 : decode cX4_howManyStay 27 = .ok (.if_icmp .ge 124, 3) := by decide +kernel
theorem dX4_howManyStay_151 : decode cX4_howManyStay 151 = .ok (.iload_n 2, 1) := by decide +kernel
theorem dX4_howManyStay_152 : decode cX4_howManyStay 152 = .ok (.ireturn, 1) := by decide +kernel
set_option maxHeartbeats 4000000 in
set_option maxRecDepth 100000 in
theorem c_X4_howManyStay_0 (l : Launch) (V : GV) (y : Nat → Nat) : Ct l V yX4_howManyStay (.code yX4_howManyStay cX4_howManyStay 7 (some .int)) 2 [.ref (y 19), .int 0] [(y 2, .inr (1, [.int 0, .int 0, .int 0, .int 0, .int 0, .int 0, .ref (y 3), .ref (y 4), .ref (y 5), .ref (y 6), .ref (y 7), .ref (y 8), .ref (y 9), .int 0, .int 0, .int 0, .int 0, .int 0])), (y 19, .inr (4, [.ref (y 2), .ref (y 20), .ref (y 21), .ref (y 22), .ref (y 23), .ref (y 24)])), (y 23, aI V 10 (fun _ => 0))] 0 0 (QI V (fun (r : Int32) (w : va_W) => (r = 1 ∧ w = [(y 2, .inr (1, [.int 0, .int 0, .int 0, .int 0, .int 0, .int 0, .ref (y 3), .ref (y 4), .ref (y 5), .ref (y 6), .ref (y 7), .ref (y 8), .ref (y 9), .int 0, .int 0, .int 0, .int 0, .int 0])), (y 19, .inr (4, [.ref (y 2), .ref (y 20), .ref (y 21), .ref (y 22), .ref (y 23), .ref (y 24)])), (y 23, aI V 10 (upd (fun _ => 0) 0 1))]))) := by
  refine Ct.of (by decide) (Nat.le_of_ble_eq_true rfl) (fun p e s m below meth c A ls hx hb hr hml hown hlk hnm hg hP hK hD hE hA hS hl => ?_)
  have hl : lv_has ls 7 [(0, .ref (y 19)), (1, .int 0)] := hl
  refine lv_aload_n hx hb dX4_howManyStay_0 rfl (lv_at hl 0 rfl) ?_
  refine va_get (ci := 4) (v := .ref (y 23)) (C := RX4) (T := TX4) (N := 6) hx hb hg inX4 hown hK hP 1 rfl rfl 4 (by decide) (hg _ q_1_175) (fun _ h9 => h9) rfl dX4_howManyStay_1 ?_
  refine lv_iconst (v := 0) hx hb dX4_howManyStay_4 (by decide) ?_
  refine jnV (wr := [(y 2, .inr (1, [.int 0, .int 0, .int 0, .int 0, .int 0, .int 0, .ref (y 3), .ref (y 4), .ref (y 5), .ref (y 6), .ref (y 7), .ref (y 8), .ref (y 9), .int 0, .int 0, .int 0, .int 0, .int 0])), (y 19, .inr (4, [.ref (y 2), .ref (y 20), .ref (y 21), .ref (y 22), .ref (y 23), .ref (y 24)]))]) (rnS (rest := []) ⟨hx, hb, hml, hown, hg⟩ (c_J7_fill_53178_0 l V y) mt_J7_fill_53178 q_3_107 ⟨Nat.le_of_ble_eq_true rfl, Nat.le_of_ble_eq_true rfl⟩ hK hP hD hS hA hE [2] rfl rfl rfl hl.1 rfl (Nat.le_of_ble_eq_true rfl) dX4_howManyStay_5 ⟨Nat.le_of_ble_eq_true rfl, Nat.le_of_ble_eq_true rfl⟩) hP hD hS hA [2] [0, 1] rfl rfl rfl (by decide) (fun  w H locs hw hP hD hS => ?_)
  subst hw
  have hP : va_P V.1 vwCl [(y 2, .inr (1, [.int 0, .int 0, .int 0, .int 0, .int 0, .int 0, .ref (y 3), .ref (y 4), .ref (y 5), .ref (y 6), .ref (y 7), .ref (y 8), .ref (y 9), .int 0, .int 0, .int 0, .int 0, .int 0])), (y 19, .inr (4, [.ref (y 2), .ref (y 20), .ref (y 21), .ref (y 22), .ref (y 23), .ref (y 24)])), (y 23, aI V 10 (fun _ => 0))] H := hP
  have hD : va_D A [(y 2, .inr (1, [.int 0, .int 0, .int 0, .int 0, .int 0, .int 0, .ref (y 3), .ref (y 4), .ref (y 5), .ref (y 6), .ref (y 7), .ref (y 8), .ref (y 9), .int 0, .int 0, .int 0, .int 0, .int 0])), (y 19, .inr (4, [.ref (y 2), .ref (y 20), .ref (y 21), .ref (y 22), .ref (y 23), .ref (y 24)])), (y 23, aI V 10 (fun _ => 0))] := hD
  refine lv_aload_n hx hb dX4_howManyStay_8 rfl (lv_at hl 0 rfl) ?_
  refine va_get (ci := 4) (v := .ref (y 23)) (C := RX4) (T := TX4) (N := 6) hx hb hg inX4 hown hK hP 1 rfl rfl 4 (by decide) (hg _ q_1_175) (fun _ h9 => h9) rfl dX4_howManyStay_9 ?_
  refine lv_iconst (v := 0) hx hb dX4_howManyStay_12 (by decide) ?_
  refine lv_iconst (v := 1) hx hb dX4_howManyStay_13 (by decide) ?_
  refine va_iast hx hb hK hP hD hS 2 0 rfl rfl (vin (by decide +kernel)) dX4_howManyStay_14 (fun H locs hP hD hS => ?_)
  have hP : va_P V.1 vwCl [(y 2, .inr (1, [.int 0, .int 0, .int 0, .int 0, .int 0, .int 0, .ref (y 3), .ref (y 4), .ref (y 5), .ref (y 6), .ref (y 7), .ref (y 8), .ref (y 9), .int 0, .int 0, .int 0, .int 0, .int 0])), (y 19, .inr (4, [.ref (y 2), .ref (y 20), .ref (y 21), .ref (y 22), .ref (y 23), .ref (y 24)])), (y 23, aI V 10 (upd (fun _ => 0) 0 1))] H := hP
  have hD : va_D A [(y 2, .inr (1, [.int 0, .int 0, .int 0, .int 0, .int 0, .int 0, .ref (y 3), .ref (y 4), .ref (y 5), .ref (y 6), .ref (y 7), .ref (y 8), .ref (y 9), .int 0, .int 0, .int 0, .int 0, .int 0])), (y 19, .inr (4, [.ref (y 2), .ref (y 20), .ref (y 21), .ref (y 22), .ref (y 23), .ref (y 24)])), (y 23, aI V 10 (upd (fun _ => 0) 0 1))] := hD
  refine lv_iconst (v := 1) hx hb dX4_howManyStay_15 (by decide) ?_
  refine lv_istore_n (lv' := [(2, .int 1), (0, .ref (y 19)), (1, .int 0)]) hx hb dX4_howManyStay_16 rfl hl (by decide) rfl (fun ls hl => ?_)
  refine lv_iconst (v := 0) hx hb dX4_howManyStay_17 (by decide) ?_
  refine lv_istore_n (lv' := [(3, .int 0), (2, .int 1), (0, .ref (y 19)), (1, .int 0)]) hx hb dX4_howManyStay_18 rfl hl (by decide) rfl (fun ls hl => ?_)
  refine lv_iload_n hx hb dX4_howManyStay_19 rfl (lv_at hl 0 rfl) ?_
  refine lv_aload_n hx hb dX4_howManyStay_20 rfl (lv_at hl 2 rfl) ?_
  refine va_get (ci := 4) (v := .ref (y 2)) (C := RX4) (T := TX4) (N := 6) hx hb hg inX4 hown hK hP 1 rfl rfl 0 (by decide) (hg _ q_1_171) (fun _ h9 => h9) rfl dX4_howManyStay_21 ?_
  refine va_get (ci := 1) (v := .int 0) (C := RX1) (T := TX1) (N := 18) hx hb hg inX1 hown hK hP 0 rfl rfl 1 (by decide) (hg _ q_1_39) (fun _ h9 => h9) rfl dX4_howManyStay_24 ?_
  refine lv_icmp_ge (tgt := 151) hx hb dX4_howManyStay_27 (by decide) (fun _ => ?_) (fun c_1 => absurd c_1 (by decide))
  refine lv_iload_n hx hb dX4_howManyStay_151 rfl (lv_at hl 1 rfl) ?_
  exact fiI hx hb hr hlk hK hP hD hS dX4_howManyStay_152 (Nat.le_of_ble_eq_true rfl) (Nat.le_of_ble_eq_true rfl) (⟨rfl, rfl⟩)
theorem dX9_rests_0 : decode cX9_rests 0 = .ok (.aload_n 0, 1) := by decide +kernel
theorem dX9_rests_1 : decode cX9_rests 1 = .ok (.getfield 34, 3) := by decide +kernel
theorem dX9_rests_4 : decode cX9_rests 4 = .ok (.aload_n 0, 1) := by decide +kernel
theorem dX9_rests_5 : decode cX9_rests 5 = .ok (.getfield 116, 3) := by decide +kernel
theorem q_4_43 : Cond.code yX4_howManyStay prog_6_method_8_code 7 (some FieldType.int) ∈ gw := gw_4 (i := 43) (rfl) rfl
theorem q_4_41 : Cond.instanceMethod yX4_howManyStay ∈ gw := gw_4 (i := 41) (by decide +kernel) rfl
theorem q_4_42 : Cond.selects "BeaconDelay$Laws" yX4_howManyStay yX4_howManyStay ∈ gw := gw_4 (i := 42) (by decide +kernel) rfl
theorem mt_X4_howManyStay : MtV yX4_howManyStay cX4_howManyStay 7 (some .int) 1 := ⟨⟨q_4_43, q_1_4, by decide +kernel, by decide +kernel, by decide +kernel⟩, q_4_41, q_4_42⟩
theorem q_4_40 : Cond.methodLink "BeaconDelay" 237 yX4_howManyStay ∈ gw := gw_4 (i := 40) (by decide +kernel) rfl
theorem dX9_rests_8 : decode cX9_rests 8 = .ok (.invokevirtual 237, 3) := by decide +kernel
theorem dX9_rests_11 : decode cX9_rests 11 = .ok (.ireturn, 1) := by decide +kernel
set_option maxHeartbeats 4000000 in
set_option maxRecDepth 100000 in
theorem c_X9_rests_0 (l : Launch) (V : GV) (y : Nat → Nat) : Ct l V yX9_rests (.code yX9_rests cX9_rests 1 (some .int)) 3 [.ref (y 0)] [(y 0, .inr (9, [.ref (y 1), .int 0, .ref (y 2), .ref (y 10), .ref (y 19), .ref (y 25), .ref (y 26), .ref (y 30), .ref (y 31), .ref (y 32), .null, .null, .int 0, .int 0, .int 0])), (y 2, .inr (1, [.int 0, .int 0, .int 0, .int 0, .int 0, .int 0, .ref (y 3), .ref (y 4), .ref (y 5), .ref (y 6), .ref (y 7), .ref (y 8), .ref (y 9), .int 0, .int 0, .int 0, .int 0, .int 0])), (y 19, .inr (4, [.ref (y 2), .ref (y 20), .ref (y 21), .ref (y 22), .ref (y 23), .ref (y 24)])), (y 23, aI V 10 (fun _ => 0))] 0 0 (QI V (fun (r : Int32) (w : va_W) => (r = 1 ∧ w = [(y 0, .inr (9, [.ref (y 1), .int 0, .ref (y 2), .ref (y 10), .ref (y 19), .ref (y 25), .ref (y 26), .ref (y 30), .ref (y 31), .ref (y 32), .null, .null, .int 0, .int 0, .int 0])), (y 2, .inr (1, [.int 0, .int 0, .int 0, .int 0, .int 0, .int 0, .ref (y 3), .ref (y 4), .ref (y 5), .ref (y 6), .ref (y 7), .ref (y 8), .ref (y 9), .int 0, .int 0, .int 0, .int 0, .int 0])), (y 19, .inr (4, [.ref (y 2), .ref (y 20), .ref (y 21), .ref (y 22), .ref (y 23), .ref (y 24)])), (y 23, aI V 10 (upd (fun _ => 0) 0 1))]))) := by
  refine Ct.of (by decide) (Nat.le_of_ble_eq_true rfl) (fun p e s m below meth c A ls hx hb hr hml hown hlk hnm hg hP hK hD hE hA hS hl => ?_)
  have hl : lv_has ls 1 [(0, .ref (y 0))] := hl
  refine lv_aload_n hx hb dX9_rests_0 rfl (lv_at hl 0 rfl) ?_
  refine va_get (ci := 9) (v := .ref (y 19)) (C := RX9) (T := TX9) (N := 15) hx hb hg inX9 hown hK hP 0 rfl rfl 4 (by decide) (hg _ q_2_40) (fun _ h9 => h9) rfl dX9_rests_1 ?_
  refine lv_aload_n hx hb dX9_rests_4 rfl (lv_at hl 0 rfl) ?_
  refine va_get (ci := 9) (v := .int 0) (C := RX9) (T := TX9) (N := 15) hx hb hg inX9 hown hK hP 0 rfl rfl 13 (by decide) (hg _ q_2_49) (fun _ h9 => h9) rfl dX9_rests_5 ?_
  refine jnI (wr := [(y 0, .inr (9, [.ref (y 1), .int 0, .ref (y 2), .ref (y 10), .ref (y 19), .ref (y 25), .ref (y 26), .ref (y 30), .ref (y 31), .ref (y 32), .null, .null, .int 0, .int 0, .int 0]))]) (rnV (rest := []) ⟨hx, hb, hml, hown, hg⟩ (c_X4_howManyStay_0 l V y) mt_X4_howManyStay q_4_40 ⟨Nat.le_of_ble_eq_true rfl, Nat.le_of_ble_eq_true rfl⟩ hK hP hD hS hA hE [1, 2, 3] rfl rfl 2 rfl rfl rfl rfl hl.1 rfl (Nat.le_of_ble_eq_true rfl) dX9_rests_8 ⟨Nat.le_of_ble_eq_true rfl, Nat.le_of_ble_eq_true rfl⟩) hP hD hS hA [1, 2, 3] [0] rfl rfl rfl (by decide) (fun r_1 w H locs hw hP hD hS => ?_)
  obtain ⟨rfl, rfl⟩ := hw
  have hP : va_P V.1 vwCl [(y 0, .inr (9, [.ref (y 1), .int 0, .ref (y 2), .ref (y 10), .ref (y 19), .ref (y 25), .ref (y 26), .ref (y 30), .ref (y 31), .ref (y 32), .null, .null, .int 0, .int 0, .int 0])), (y 2, .inr (1, [.int 0, .int 0, .int 0, .int 0, .int 0, .int 0, .ref (y 3), .ref (y 4), .ref (y 5), .ref (y 6), .ref (y 7), .ref (y 8), .ref (y 9), .int 0, .int 0, .int 0, .int 0, .int 0])), (y 19, .inr (4, [.ref (y 2), .ref (y 20), .ref (y 21), .ref (y 22), .ref (y 23), .ref (y 24)])), (y 23, aI V 10 (upd (fun _ => 0) 0 1))] H := hP
  have hD : va_D A [(y 0, .inr (9, [.ref (y 1), .int 0, .ref (y 2), .ref (y 10), .ref (y 19), .ref (y 25), .ref (y 26), .ref (y 30), .ref (y 31), .ref (y 32), .null, .null, .int 0, .int 0, .int 0])), (y 2, .inr (1, [.int 0, .int 0, .int 0, .int 0, .int 0, .int 0, .ref (y 3), .ref (y 4), .ref (y 5), .ref (y 6), .ref (y 7), .ref (y 8), .ref (y 9), .int 0, .int 0, .int 0, .int 0, .int 0])), (y 19, .inr (4, [.ref (y 2), .ref (y 20), .ref (y 21), .ref (y 22), .ref (y 23), .ref (y 24)])), (y 23, aI V 10 (upd (fun _ => 0) 0 1))] := hD
  exact fiI hx hb hr hlk hK hP hD hS dX9_rests_11 (Nat.le_of_ble_eq_true rfl) (Nat.le_of_ble_eq_true rfl) (⟨rfl, rfl⟩)
theorem dX10_noHigh_0 : decode cX10_noHigh 0 = .ok (.aload_n 0, 1) := by decide +kernel
theorem dX10_noHigh_1 : decode cX10_noHigh 1 = .ok (.iload_n 1, 1) := by decide +kernel
theorem dX10_noHigh_2 : decode cX10_noHigh 2 = .ok (.i2l, 1) := by decide +kernel
theorem dX10_noHigh_3 : decode cX10_noHigh 3 = .ok (.invokevirtual 262, 3) := by decide +kernel
theorem dX10_noHigh_6 : decode cX10_noHigh 6 = .ok (.ifCond .ne 8, 3) := by decide +kernel
theorem dX10_noHigh_9 : decode cX10_noHigh 9 = .ok (.bipush (-2), 2) := by decide +kernel
theorem dX10_noHigh_11 : decode cX10_noHigh 11 = .ok (.goto 16, 3) := by decide +kernel
theorem dX10_noHigh_27 : decode cX10_noHigh 27 = .ok (.ireturn, 1) := by decide +kernel
set_option maxHeartbeats 4000000 in
set_option maxRecDepth 100000 in
theorem c_X10_noHigh_0 (l : Launch) (V : GV) (z : Nat → Nat) (p0 : Int32) (p1 : Int32) : Ct l V yX10_noHigh (.code yX10_noHigh cX10_noHigh 3 (some .int)) 3 [.ref (z 0), .int p0, .int p1] [(z 0, .inr (10, mo z 0 0 0 0 0 0 0 0 0 0 (-1) 0 0 0 0 0)), (z 1, aI V 3075 (fun _ => 0))] 0 0 (QI V (fun (r : Int32) (w : va_W) => (r = (-2) ∧ w = [(z 0, .inr (10, mo z 0 0 0 0 0 0 0 0 0 0 (-1) 0 0 0 0 0)), (z 1, aI V 3075 (fun _ => 0))]))) := by
  refine Ct.of (by decide) (Nat.le_of_ble_eq_true rfl) (fun p e s m below meth c A ls hx hb hr hml hown hlk hnm hg hP hK hD hE hA hS hl => ?_)
  have hl : lv_has ls 3 [(0, .ref (z 0)), (1, .int p0), (2, .int p1)] := hl
  refine lv_aload_n hx hb dX10_noHigh_0 rfl (lv_at hl 0 rfl) ?_
  refine lv_iload_n hx hb dX10_noHigh_1 rfl (lv_at hl 1 rfl) ?_
  refine lv_i2l (v := p0.toInt64) hx hb dX10_noHigh_2 rfl ?_
  refine jnI (wr := []) (rnV (rest := []) ⟨hx, hb, hml, hown, hg⟩ (c_X10_isHill_0 l V z p0.toInt64) mt_X10_isHill q_6_235 ⟨Nat.le_of_ble_eq_true rfl, Nat.le_of_ble_eq_true rfl⟩ hK hP hD hS hA hE [0, 1] rfl rfl 0 rfl rfl rfl rfl hl.1 rfl (Nat.le_of_ble_eq_true rfl) dX10_noHigh_3 ⟨Nat.le_of_ble_eq_true rfl, Nat.le_of_ble_eq_true rfl⟩) hP hD hS hA [0, 1] [] rfl rfl rfl (by decide) (fun r_1 w H locs hw hP hD hS => ?_)
  obtain ⟨rfl, rfl⟩ := hw
  have hP : va_P V.1 vwCl [(z 0, .inr (10, mo z 0 0 0 0 0 0 0 0 0 0 (-1) 0 0 0 0 0)), (z 1, aI V 3075 (fun _ => 0))] H := hP
  have hD : va_D A [(z 0, .inr (10, mo z 0 0 0 0 0 0 0 0 0 0 (-1) 0 0 0 0 0)), (z 1, aI V 3075 (fun _ => 0))] := hD
  refine lv_if_ne (tgt := 14) hx hb dX10_noHigh_6 (by decide) (fun c_2 => absurd c_2 (by decide)) (fun _ => ?_)
  refine lv_bipush (v := (-2)) hx hb dX10_noHigh_9 (by decide) ?_
  refine lv_goto (tgt := 27) hx hb dX10_noHigh_11 (by decide) ?_
  exact fiI hx hb hr hlk hK hP hD hS dX10_noHigh_27 (Nat.le_of_ble_eq_true rfl) (Nat.le_of_ble_eq_true rfl) (⟨rfl, rfl⟩)
theorem dX10_soonest_0 : decode cX10_soonest 0 = .ok (.aload_n 0, 1) := by decide +kernel
theorem dX10_soonest_1 : decode cX10_soonest 1 = .ok (.iconst 0, 1) := by decide +kernel
theorem dX10_soonest_2 : decode cX10_soonest 2 = .ok (.putfield 1, 3) := by decide +kernel
theorem dX10_soonest_5 : decode cX10_soonest 5 = .ok (.aload_n 0, 1) := by decide +kernel
theorem dX10_soonest_6 : decode cX10_soonest 6 = .ok (.iload_n 1, 1) := by decide +kernel
theorem dX10_soonest_7 : decode cX10_soonest 7 = .ok (.iload_n 2, 1) := by decide +kernel
theorem q_7_185 : Cond.code yX10_noHigh prog_12_method_88_code 3 (some FieldType.int) ∈ gw := gw_7 (i := 185) (rfl) rfl
theorem q_7_184 : Cond.instanceMethod yX10_noHigh ∈ gw := gw_7 (i := 184) (by decide +kernel) rfl
theorem q_s_103 : Cond.selects "BeaconDelayModel" yX10_noHigh yX10_noHigh ∈ gw := gw_s (i := 103) (by decide +kernel) rfl
theorem mt_X10_noHigh : MtV yX10_noHigh cX10_noHigh 3 (some .int) 2 := ⟨⟨q_7_185, q_1_9, by decide +kernel, by decide +kernel, by decide +kernel⟩, q_7_184, q_s_103⟩
theorem q_7_182 : Cond.methodLink "BeaconDelayModel" 373 yX10_noHigh ∈ gw := gw_7 (i := 182) (by decide +kernel) rfl
theorem dX10_soonest_8 : decode cX10_soonest 8 = .ok (.invokevirtual 373, 3) := by decide +kernel
theorem dX10_soonest_11 : decode cX10_soonest 11 = .ok (.istore_n 3, 1) := by decide +kernel
theorem dX10_soonest_12 : decode cX10_soonest 12 = .ok (.iload_n 3, 1) := by decide +kernel
theorem dX10_soonest_13 : decode cX10_soonest 13 = .ok (.ifCond .eq 7, 3) := by decide +kernel
theorem dX10_soonest_16 : decode cX10_soonest 16 = .ok (.iload_n 3, 1) := by decide +kernel
theorem dX10_soonest_17 : decode cX10_soonest 17 = .ok (.goto 12, 3) := by decide +kernel
theorem dX10_soonest_29 : decode cX10_soonest 29 = .ok (.ireturn, 1) := by decide +kernel
set_option maxHeartbeats 4000000 in
set_option maxRecDepth 100000 in
theorem c_X10_soonest_0 (l : Launch) (V : GV) (z : Nat → Nat) (p0 : Int32) (p1 : Int32) : Ct l V yX10_soonest (.code yX10_soonest cX10_soonest 4 (some .int)) 4 [.ref (z 0), .int p0, .int p1] [(z 0, .inr (10, mo z 0 0 0 0 0 0 0 0 0 0 (-1) 0 0 0 0 0)), (z 1, aI V 3075 (fun _ => 0))] 0 0 (QI V (fun (r : Int32) (w : va_W) => (r = (-2) ∧ w = [(z 0, .inr (10, mo z 0 0 0 0 0 0 0 0 0 0 (-1) 0 0 0 0 0)), (z 1, aI V 3075 (fun _ => 0))]))) := by
  refine Ct.of (by decide) (Nat.le_of_ble_eq_true rfl) (fun p e s m below meth c A ls hx hb hr hml hown hlk hnm hg hP hK hD hE hA hS hl => ?_)
  have hl : lv_has ls 4 [(0, .ref (z 0)), (1, .int p0), (2, .int p1)] := hl
  refine lv_aload_n hx hb dX10_soonest_0 rfl (lv_at hl 0 rfl) ?_
  refine lv_iconst (v := 0) hx hb dX10_soonest_1 (by decide) ?_
  refine va_put (ci := 10) (v := .int 0) (ty := .int) (C := RX10) (T := TX10) (N := 40) hx hb hg inX10 tyX10 tyX10_ok nmX10 hown hK hP hD hS 0 rfl rfl 0 (by decide) (hg _ q_5_224) (fun _ h9 => h9) rfl (by decide +kernel) rfl rfl (Nat.le_of_ble_eq_true rfl) dX10_soonest_2 (fun H locs hP hD hS => ?_)
  have hP : va_P V.1 vwCl [(z 0, .inr (10, mo z 0 0 0 0 0 0 0 0 0 0 (-1) 0 0 0 0 0)), (z 1, aI V 3075 (fun _ => 0))] H := hP
  have hD : va_D A [(z 0, .inr (10, mo z 0 0 0 0 0 0 0 0 0 0 (-1) 0 0 0 0 0)), (z 1, aI V 3075 (fun _ => 0))] := hD
  refine lv_aload_n hx hb dX10_soonest_5 rfl (lv_at hl 0 rfl) ?_
  refine lv_iload_n hx hb dX10_soonest_6 rfl (lv_at hl 1 rfl) ?_
  refine lv_iload_n hx hb dX10_soonest_7 rfl (lv_at hl 2 rfl) ?_
  refine jnI (wr := []) (rnV (rest := []) ⟨hx, hb, hml, hown, hg⟩ (c_X10_noHigh_0 l V z p0 p1) mt_X10_noHigh q_7_182 ⟨Nat.le_of_ble_eq_true rfl, Nat.le_of_ble_eq_true rfl⟩ hK hP hD hS hA hE [0, 1] rfl rfl 0 rfl rfl rfl rfl hl.1 rfl (Nat.le_of_ble_eq_true rfl) dX10_soonest_8 ⟨Nat.le_of_ble_eq_true rfl, Nat.le_of_ble_eq_true rfl⟩) hP hD hS hA [0, 1] [] rfl rfl rfl (by decide) (fun r_1 w H locs hw hP hD hS => ?_)
  obtain ⟨rfl, rfl⟩ := hw
  have hP : va_P V.1 vwCl [(z 0, .inr (10, mo z 0 0 0 0 0 0 0 0 0 0 (-1) 0 0 0 0 0)), (z 1, aI V 3075 (fun _ => 0))] H := hP
  have hD : va_D A [(z 0, .inr (10, mo z 0 0 0 0 0 0 0 0 0 0 (-1) 0 0 0 0 0)), (z 1, aI V 3075 (fun _ => 0))] := hD
  refine lv_istore_n (lv' := [(3, .int (-2)), (0, .ref (z 0)), (1, .int p0), (2, .int p1)]) hx hb dX10_soonest_11 rfl hl (by decide) rfl (fun ls hl => ?_)
  refine lv_iload_n hx hb dX10_soonest_12 rfl (lv_at hl 0 rfl) ?_
  refine lv_if_eq (tgt := 20) hx hb dX10_soonest_13 (by decide) (fun c_2 => absurd c_2 (by decide)) (fun _ => ?_)
  refine lv_iload_n hx hb dX10_soonest_16 rfl (lv_at hl 0 rfl) ?_
  refine lv_goto (tgt := 29) hx hb dX10_soonest_17 (by decide) ?_
  exact fiI hx hb hr hlk hK hP hD hS dX10_soonest_29 (Nat.le_of_ble_eq_true rfl) (Nat.le_of_ble_eq_true rfl) (⟨rfl, rfl⟩)
theorem dX9_soonest_0 : decode cX9_soonest 0 = .ok (.aload_n 0, 1) := by decide +kernel
theorem dX9_soonest_1 : decode cX9_soonest 1 = .ok (.iload_n 1, 1) := by decide +kernel
theorem dX9_soonest_2 : decode cX9_soonest 2 = .ok (.invokevirtual 128, 3) := by decide +kernel
theorem dX9_soonest_5 : decode cX9_soonest 5 = .ok (.ifCond .ne 6, 3) := by decide +kernel
theorem dX9_soonest_8 : decode cX9_soonest 8 = .ok (.bipush (-2), 2) := by decide +kernel
theorem dX9_soonest_10 : decode cX9_soonest 10 = .ok (.ireturn, 1) := by decide +kernel
set_option maxHeartbeats 4000000 in
set_option maxRecDepth 100000 in
theorem c_X9_soonest_0 (l : Launch) (V : GV) (y : Nat → Nat) (p0 : Int32) (p1 : Int32) : Ct l V yX9_soonest (.code yX9_soonest cX9_soonest 5 (some .int)) 2 [.ref (y 0), .int p0, .int p1] [(y 0, .inr (9, [.ref (y 1), .int 0, .ref (y 2), .ref (y 10), .ref (y 19), .ref (y 25), .ref (y 26), .ref (y 30), .ref (y 31), .ref (y 32), .null, .null, .int 0, .int 0, .int 0])), (y 2, .inr (1, [.int 0, .int 0, .int 0, .int 0, .int 0, .int 0, .ref (y 3), .ref (y 4), .ref (y 5), .ref (y 6), .ref (y 7), .ref (y 8), .ref (y 9), .int 0, .int 0, .int 0, .int 0, .int 0]))] 0 0 (QI V (fun (r : Int32) (w : va_W) => (r = (-2) ∧ w = [(y 0, .inr (9, [.ref (y 1), .int 0, .ref (y 2), .ref (y 10), .ref (y 19), .ref (y 25), .ref (y 26), .ref (y 30), .ref (y 31), .ref (y 32), .null, .null, .int 0, .int 0, .int 0])), (y 2, .inr (1, [.int 0, .int 0, .int 0, .int 0, .int 0, .int 0, .ref (y 3), .ref (y 4), .ref (y 5), .ref (y 6), .ref (y 7), .ref (y 8), .ref (y 9), .int 0, .int 0, .int 0, .int 0, .int 0]))]))) := by
  refine Ct.of (by decide) (Nat.le_of_ble_eq_true rfl) (fun p e s m below meth c A ls hx hb hr hml hown hlk hnm hg hP hK hD hE hA hS hl => ?_)
  have hl : lv_has ls 5 [(0, .ref (y 0)), (1, .int p0), (2, .int p1)] := hl
  refine lv_aload_n hx hb dX9_soonest_0 rfl (lv_at hl 0 rfl) ?_
  refine lv_iload_n hx hb dX9_soonest_1 rfl (lv_at hl 1 rfl) ?_
  refine jnI (wr := []) (rnV (rest := []) ⟨hx, hb, hml, hown, hg⟩ (c_X9_isHill_0 l V y p0) mt_X9_isHill q_3_122 ⟨Nat.le_of_ble_eq_true rfl, Nat.le_of_ble_eq_true rfl⟩ hK hP hD hS hA hE [0, 1] rfl rfl 0 rfl rfl rfl rfl hl.1 rfl (Nat.le_of_ble_eq_true rfl) dX9_soonest_2 ⟨Nat.le_of_ble_eq_true rfl, Nat.le_of_ble_eq_true rfl⟩) hP hD hS hA [0, 1] [] rfl rfl rfl (by decide) (fun r_1 w H locs hw hP hD hS => ?_)
  obtain ⟨rfl, rfl⟩ := hw
  have hP : va_P V.1 vwCl [(y 0, .inr (9, [.ref (y 1), .int 0, .ref (y 2), .ref (y 10), .ref (y 19), .ref (y 25), .ref (y 26), .ref (y 30), .ref (y 31), .ref (y 32), .null, .null, .int 0, .int 0, .int 0])), (y 2, .inr (1, [.int 0, .int 0, .int 0, .int 0, .int 0, .int 0, .ref (y 3), .ref (y 4), .ref (y 5), .ref (y 6), .ref (y 7), .ref (y 8), .ref (y 9), .int 0, .int 0, .int 0, .int 0, .int 0]))] H := hP
  have hD : va_D A [(y 0, .inr (9, [.ref (y 1), .int 0, .ref (y 2), .ref (y 10), .ref (y 19), .ref (y 25), .ref (y 26), .ref (y 30), .ref (y 31), .ref (y 32), .null, .null, .int 0, .int 0, .int 0])), (y 2, .inr (1, [.int 0, .int 0, .int 0, .int 0, .int 0, .int 0, .ref (y 3), .ref (y 4), .ref (y 5), .ref (y 6), .ref (y 7), .ref (y 8), .ref (y 9), .int 0, .int 0, .int 0, .int 0, .int 0]))] := hD
  refine lv_if_ne (tgt := 11) hx hb dX9_soonest_5 (by decide) (fun c_2 => absurd c_2 (by decide)) (fun _ => ?_)
  refine lv_bipush (v := (-2)) hx hb dX9_soonest_8 (by decide) ?_
  exact fiI hx hb hr hlk hK hP hD hS dX9_soonest_10 (Nat.le_of_ble_eq_true rfl) (Nat.le_of_ble_eq_true rfl) (⟨rfl, rfl⟩)
theorem dX10_way_0 : decode cX10_way 0 = .ok (.aload_n 0, 1) := by decide +kernel
theorem dX10_way_1 : decode cX10_way 1 = .ok (.iconst 0, 1) := by decide +kernel
theorem dX10_way_2 : decode cX10_way 2 = .ok (.putfield 1, 3) := by decide +kernel
theorem dX10_way_5 : decode cX10_way 5 = .ok (.aload_n 0, 1) := by decide +kernel
theorem dX10_way_6 : decode cX10_way 6 = .ok (.iload_n 1, 1) := by decide +kernel
theorem dX10_way_7 : decode cX10_way 7 = .ok (.iload_n 2, 1) := by decide +kernel
theorem dX10_way_8 : decode cX10_way 8 = .ok (.invokevirtual 373, 3) := by decide +kernel
theorem dX10_way_11 : decode cX10_way 11 = .ok (.istore 4, 2) := by decide +kernel
theorem dX10_way_13 : decode cX10_way 13 = .ok (.iload 4, 2) := by decide +kernel
theorem dX10_way_15 : decode cX10_way 15 = .ok (.ifCond .eq 6, 3) := by decide +kernel
theorem dX10_way_18 : decode cX10_way 18 = .ok (.iload 4, 2) := by decide +kernel
theorem dX10_way_20 : decode cX10_way 20 = .ok (.ireturn, 1) := by decide +kernel
set_option maxHeartbeats 4000000 in
set_option maxRecDepth 100000 in
theorem c_X10_way_0 (l : Launch) (V : GV) (z : Nat → Nat) (p0 : Int32) (p1 : Int32) (p2 : Int32) : Ct l V yX10_way (.code yX10_way cX10_way 8 (some .int)) 4 [.ref (z 0), .int p0, .int p1, .int p2] [(z 0, .inr (10, mo z 0 0 0 0 0 0 0 0 0 0 (-1) 0 0 0 0 0)), (z 1, aI V 3075 (fun _ => 0))] 0 0 (QI V (fun (r : Int32) (w : va_W) => (r = (-2) ∧ w = [(z 0, .inr (10, mo z 0 0 0 0 0 0 0 0 0 0 (-1) 0 0 0 0 0)), (z 1, aI V 3075 (fun _ => 0))]))) := by
  refine Ct.of (by decide) (Nat.le_of_ble_eq_true rfl) (fun p e s m below meth c A ls hx hb hr hml hown hlk hnm hg hP hK hD hE hA hS hl => ?_)
  have hl : lv_has ls 8 [(0, .ref (z 0)), (1, .int p0), (2, .int p1), (3, .int p2)] := hl
  refine lv_aload_n hx hb dX10_way_0 rfl (lv_at hl 0 rfl) ?_
  refine lv_iconst (v := 0) hx hb dX10_way_1 (by decide) ?_
  refine va_put (ci := 10) (v := .int 0) (ty := .int) (C := RX10) (T := TX10) (N := 40) hx hb hg inX10 tyX10 tyX10_ok nmX10 hown hK hP hD hS 0 rfl rfl 0 (by decide) (hg _ q_5_224) (fun _ h9 => h9) rfl (by decide +kernel) rfl rfl (Nat.le_of_ble_eq_true rfl) dX10_way_2 (fun H locs hP hD hS => ?_)
  have hP : va_P V.1 vwCl [(z 0, .inr (10, mo z 0 0 0 0 0 0 0 0 0 0 (-1) 0 0 0 0 0)), (z 1, aI V 3075 (fun _ => 0))] H := hP
  have hD : va_D A [(z 0, .inr (10, mo z 0 0 0 0 0 0 0 0 0 0 (-1) 0 0 0 0 0)), (z 1, aI V 3075 (fun _ => 0))] := hD
  refine lv_aload_n hx hb dX10_way_5 rfl (lv_at hl 0 rfl) ?_
  refine lv_iload_n hx hb dX10_way_6 rfl (lv_at hl 1 rfl) ?_
  refine lv_iload_n hx hb dX10_way_7 rfl (lv_at hl 2 rfl) ?_
  refine jnI (wr := []) (rnV (rest := []) ⟨hx, hb, hml, hown, hg⟩ (c_X10_noHigh_0 l V z p0 p1) mt_X10_noHigh q_7_182 ⟨Nat.le_of_ble_eq_true rfl, Nat.le_of_ble_eq_true rfl⟩ hK hP hD hS hA hE [0, 1] rfl rfl 0 rfl rfl rfl rfl hl.1 rfl (Nat.le_of_ble_eq_true rfl) dX10_way_8 ⟨Nat.le_of_ble_eq_true rfl, Nat.le_of_ble_eq_true rfl⟩) hP hD hS hA [0, 1] [] rfl rfl rfl (by decide) (fun r_1 w H locs hw hP hD hS => ?_)
  obtain ⟨rfl, rfl⟩ := hw
  have hP : va_P V.1 vwCl [(z 0, .inr (10, mo z 0 0 0 0 0 0 0 0 0 0 (-1) 0 0 0 0 0)), (z 1, aI V 3075 (fun _ => 0))] H := hP
  have hD : va_D A [(z 0, .inr (10, mo z 0 0 0 0 0 0 0 0 0 0 (-1) 0 0 0 0 0)), (z 1, aI V 3075 (fun _ => 0))] := hD
  refine lv_istore (lv' := [(4, .int (-2)), (0, .ref (z 0)), (1, .int p0), (2, .int p1), (3, .int p2)]) hx hb dX10_way_11 hl (by decide) rfl (fun ls hl => ?_)
  refine lv_iload hx hb dX10_way_13 (lv_at hl 0 rfl) ?_
  refine lv_if_eq (tgt := 21) hx hb dX10_way_15 (by decide) (fun c_2 => absurd c_2 (by decide)) (fun _ => ?_)
  refine lv_iload hx hb dX10_way_18 (lv_at hl 0 rfl) ?_
  exact fiI hx hb hr hlk hK hP hD hS dX10_way_20 (Nat.le_of_ble_eq_true rfl) (Nat.le_of_ble_eq_true rfl) (⟨rfl, rfl⟩)
theorem dX9_way_0 : decode cX9_way 0 = .ok (.aload_n 0, 1) := by decide +kernel
theorem dX9_way_1 : decode cX9_way 1 = .ok (.iload_n 1, 1) := by decide +kernel
theorem dX9_way_2 : decode cX9_way 2 = .ok (.invokevirtual 128, 3) := by decide +kernel
theorem dX9_way_5 : decode cX9_way 5 = .ok (.ifCond .ne 6, 3) := by decide +kernel
theorem dX9_way_8 : decode cX9_way 8 = .ok (.bipush (-2), 2) := by decide +kernel
theorem dX9_way_10 : decode cX9_way 10 = .ok (.ireturn, 1) := by decide +kernel
set_option maxHeartbeats 4000000 in
set_option maxRecDepth 100000 in
theorem c_X9_way_0 (l : Launch) (V : GV) (y : Nat → Nat) (p0 : Int32) (p1 : Int32) (p2 : Int32) : Ct l V yX9_way (.code yX9_way cX9_way 6 (some .int)) 2 [.ref (y 0), .int p0, .int p1, .int p2] [(y 0, .inr (9, [.ref (y 1), .int 0, .ref (y 2), .ref (y 10), .ref (y 19), .ref (y 25), .ref (y 26), .ref (y 30), .ref (y 31), .ref (y 32), .null, .null, .int 0, .int 0, .int 0])), (y 2, .inr (1, [.int 0, .int 0, .int 0, .int 0, .int 0, .int 0, .ref (y 3), .ref (y 4), .ref (y 5), .ref (y 6), .ref (y 7), .ref (y 8), .ref (y 9), .int 0, .int 0, .int 0, .int 0, .int 0]))] 0 0 (QI V (fun (r : Int32) (w : va_W) => (r = (-2) ∧ w = [(y 0, .inr (9, [.ref (y 1), .int 0, .ref (y 2), .ref (y 10), .ref (y 19), .ref (y 25), .ref (y 26), .ref (y 30), .ref (y 31), .ref (y 32), .null, .null, .int 0, .int 0, .int 0])), (y 2, .inr (1, [.int 0, .int 0, .int 0, .int 0, .int 0, .int 0, .ref (y 3), .ref (y 4), .ref (y 5), .ref (y 6), .ref (y 7), .ref (y 8), .ref (y 9), .int 0, .int 0, .int 0, .int 0, .int 0]))]))) := by
  refine Ct.of (by decide) (Nat.le_of_ble_eq_true rfl) (fun p e s m below meth c A ls hx hb hr hml hown hlk hnm hg hP hK hD hE hA hS hl => ?_)
  have hl : lv_has ls 6 [(0, .ref (y 0)), (1, .int p0), (2, .int p1), (3, .int p2)] := hl
  refine lv_aload_n hx hb dX9_way_0 rfl (lv_at hl 0 rfl) ?_
  refine lv_iload_n hx hb dX9_way_1 rfl (lv_at hl 1 rfl) ?_
  refine jnI (wr := []) (rnV (rest := []) ⟨hx, hb, hml, hown, hg⟩ (c_X9_isHill_0 l V y p0) mt_X9_isHill q_3_122 ⟨Nat.le_of_ble_eq_true rfl, Nat.le_of_ble_eq_true rfl⟩ hK hP hD hS hA hE [0, 1] rfl rfl 0 rfl rfl rfl rfl hl.1 rfl (Nat.le_of_ble_eq_true rfl) dX9_way_2 ⟨Nat.le_of_ble_eq_true rfl, Nat.le_of_ble_eq_true rfl⟩) hP hD hS hA [0, 1] [] rfl rfl rfl (by decide) (fun r_1 w H locs hw hP hD hS => ?_)
  obtain ⟨rfl, rfl⟩ := hw
  have hP : va_P V.1 vwCl [(y 0, .inr (9, [.ref (y 1), .int 0, .ref (y 2), .ref (y 10), .ref (y 19), .ref (y 25), .ref (y 26), .ref (y 30), .ref (y 31), .ref (y 32), .null, .null, .int 0, .int 0, .int 0])), (y 2, .inr (1, [.int 0, .int 0, .int 0, .int 0, .int 0, .int 0, .ref (y 3), .ref (y 4), .ref (y 5), .ref (y 6), .ref (y 7), .ref (y 8), .ref (y 9), .int 0, .int 0, .int 0, .int 0, .int 0]))] H := hP
  have hD : va_D A [(y 0, .inr (9, [.ref (y 1), .int 0, .ref (y 2), .ref (y 10), .ref (y 19), .ref (y 25), .ref (y 26), .ref (y 30), .ref (y 31), .ref (y 32), .null, .null, .int 0, .int 0, .int 0])), (y 2, .inr (1, [.int 0, .int 0, .int 0, .int 0, .int 0, .int 0, .ref (y 3), .ref (y 4), .ref (y 5), .ref (y 6), .ref (y 7), .ref (y 8), .ref (y 9), .int 0, .int 0, .int 0, .int 0, .int 0]))] := hD
  refine lv_if_ne (tgt := 11) hx hb dX9_way_5 (by decide) (fun c_2 => absurd c_2 (by decide)) (fun _ => ?_)
  refine lv_bipush (v := (-2)) hx hb dX9_way_8 (by decide) ?_
  exact fiI hx hb hr hlk hK hP hD hS dX9_way_10 (Nat.le_of_ble_eq_true rfl) (Nat.le_of_ble_eq_true rfl) (⟨rfl, rfl⟩)
theorem dX10_rows_0 : decode cX10_rows 0 = .ok (.aload_n 0, 1) := by decide +kernel
theorem dX10_rows_1 : decode cX10_rows 1 = .ok (.iconst 0, 1) := by decide +kernel
theorem dX10_rows_2 : decode cX10_rows 2 = .ok (.putfield 1, 3) := by decide +kernel
theorem dX10_rows_5 : decode cX10_rows 5 = .ok (.aload_n 0, 1) := by decide +kernel
theorem dX10_rows_6 : decode cX10_rows 6 = .ok (.iload_n 1, 1) := by decide +kernel
theorem dX10_rows_7 : decode cX10_rows 7 = .ok (.iload_n 2, 1) := by decide +kernel
theorem dX10_rows_8 : decode cX10_rows 8 = .ok (.invokevirtual 373, 3) := by decide +kernel
theorem dX10_rows_11 : decode cX10_rows 11 = .ok (.istore 4, 2) := by decide +kernel
theorem dX10_rows_13 : decode cX10_rows 13 = .ok (.iload 4, 2) := by decide +kernel
theorem dX10_rows_15 : decode cX10_rows 15 = .ok (.ifCond .eq 7, 3) := by decide +kernel
theorem dX10_rows_18 : decode cX10_rows 18 = .ok (.iload 4, 2) := by decide +kernel
theorem dX10_rows_20 : decode cX10_rows 20 = .ok (.i2l, 1) := by decide +kernel
theorem dX10_rows_21 : decode cX10_rows 21 = .ok (.lreturn, 1) := by decide +kernel
set_option maxHeartbeats 4000000 in
set_option maxRecDepth 100000 in
theorem c_X10_rows_0 (l : Launch) (V : GV) (z : Nat → Nat) (p0 : Int32) (p1 : Int32) (p2 : Int32) : Ct l V yX10_rows (.code yX10_rows cX10_rows 8 (some .long)) 4 [.ref (z 0), .int p0, .int p1, .int p2] [(z 0, .inr (10, mo z 0 0 0 0 0 0 0 0 0 0 (-1) 0 0 0 0 0)), (z 1, aI V 3075 (fun _ => 0))] 0 0 (QL V (fun (r : Int64) (w : va_W) => (r = (-2) ∧ w = [(z 0, .inr (10, mo z 0 0 0 0 0 0 0 0 0 0 (-1) 0 0 0 0 0)), (z 1, aI V 3075 (fun _ => 0))]))) := by
  refine Ct.of (by decide) (Nat.le_of_ble_eq_true rfl) (fun p e s m below meth c A ls hx hb hr hml hown hlk hnm hg hP hK hD hE hA hS hl => ?_)
  have hl : lv_has ls 8 [(0, .ref (z 0)), (1, .int p0), (2, .int p1), (3, .int p2)] := hl
  refine lv_aload_n hx hb dX10_rows_0 rfl (lv_at hl 0 rfl) ?_
  refine lv_iconst (v := 0) hx hb dX10_rows_1 (by decide) ?_
  refine va_put (ci := 10) (v := .int 0) (ty := .int) (C := RX10) (T := TX10) (N := 40) hx hb hg inX10 tyX10 tyX10_ok nmX10 hown hK hP hD hS 0 rfl rfl 0 (by decide) (hg _ q_5_224) (fun _ h9 => h9) rfl (by decide +kernel) rfl rfl (Nat.le_of_ble_eq_true rfl) dX10_rows_2 (fun H locs hP hD hS => ?_)
  have hP : va_P V.1 vwCl [(z 0, .inr (10, mo z 0 0 0 0 0 0 0 0 0 0 (-1) 0 0 0 0 0)), (z 1, aI V 3075 (fun _ => 0))] H := hP
  have hD : va_D A [(z 0, .inr (10, mo z 0 0 0 0 0 0 0 0 0 0 (-1) 0 0 0 0 0)), (z 1, aI V 3075 (fun _ => 0))] := hD
  refine lv_aload_n hx hb dX10_rows_5 rfl (lv_at hl 0 rfl) ?_
  refine lv_iload_n hx hb dX10_rows_6 rfl (lv_at hl 1 rfl) ?_
  refine lv_iload_n hx hb dX10_rows_7 rfl (lv_at hl 2 rfl) ?_
  refine jnI (wr := []) (rnV (rest := []) ⟨hx, hb, hml, hown, hg⟩ (c_X10_noHigh_0 l V z p0 p1) mt_X10_noHigh q_7_182 ⟨Nat.le_of_ble_eq_true rfl, Nat.le_of_ble_eq_true rfl⟩ hK hP hD hS hA hE [0, 1] rfl rfl 0 rfl rfl rfl rfl hl.1 rfl (Nat.le_of_ble_eq_true rfl) dX10_rows_8 ⟨Nat.le_of_ble_eq_true rfl, Nat.le_of_ble_eq_true rfl⟩) hP hD hS hA [0, 1] [] rfl rfl rfl (by decide) (fun r_1 w H locs hw hP hD hS => ?_)
  obtain ⟨rfl, rfl⟩ := hw
  have hP : va_P V.1 vwCl [(z 0, .inr (10, mo z 0 0 0 0 0 0 0 0 0 0 (-1) 0 0 0 0 0)), (z 1, aI V 3075 (fun _ => 0))] H := hP
  have hD : va_D A [(z 0, .inr (10, mo z 0 0 0 0 0 0 0 0 0 0 (-1) 0 0 0 0 0)), (z 1, aI V 3075 (fun _ => 0))] := hD
  refine lv_istore (lv' := [(4, .int (-2)), (0, .ref (z 0)), (1, .int p0), (2, .int p1), (3, .int p2)]) hx hb dX10_rows_11 hl (by decide) rfl (fun ls hl => ?_)
  refine lv_iload hx hb dX10_rows_13 (lv_at hl 0 rfl) ?_
  refine lv_if_eq (tgt := 22) hx hb dX10_rows_15 (by decide) (fun c_2 => absurd c_2 (by decide)) (fun _ => ?_)
  refine lv_iload hx hb dX10_rows_18 (lv_at hl 0 rfl) ?_
  refine lv_i2l (v := (-2)) hx hb dX10_rows_20 (by decide +kernel) ?_
  exact fiL hx hb hr hlk hK hP hD hS dX10_rows_21 (Nat.le_of_ble_eq_true rfl) (Nat.le_of_ble_eq_true rfl) (⟨rfl, rfl⟩)
theorem dX9_rows_0 : decode cX9_rows 0 = .ok (.aload_n 0, 1) := by decide +kernel
theorem dX9_rows_1 : decode cX9_rows 1 = .ok (.iload_n 1, 1) := by decide +kernel
theorem dX9_rows_2 : decode cX9_rows 2 = .ok (.invokevirtual 128, 3) := by decide +kernel
theorem dX9_rows_5 : decode cX9_rows 5 = .ok (.ifCond .ne 7, 3) := by decide +kernel
theorem q_4_162 : Cond.constantLong "BeaconDelay" 268 (-2 : Int64) ∈ gw := gw_4 (i := 162) (by decide +kernel) rfl
theorem dX9_rows_8 : decode cX9_rows 8 = .ok (.ldc2_w 268, 3) := by decide +kernel
theorem dX9_rows_11 : decode cX9_rows 11 = .ok (.lreturn, 1) := by decide +kernel
set_option maxHeartbeats 4000000 in
set_option maxRecDepth 100000 in
theorem c_X9_rows_0 (l : Launch) (V : GV) (y : Nat → Nat) (p0 : Int32) (p1 : Int32) (p2 : Int32) : Ct l V yX9_rows (.code yX9_rows cX9_rows 5 (some .long)) 2 [.ref (y 0), .int p0, .int p1, .int p2] [(y 0, .inr (9, [.ref (y 1), .int 0, .ref (y 2), .ref (y 10), .ref (y 19), .ref (y 25), .ref (y 26), .ref (y 30), .ref (y 31), .ref (y 32), .null, .null, .int 0, .int 0, .int 0])), (y 2, .inr (1, [.int 0, .int 0, .int 0, .int 0, .int 0, .int 0, .ref (y 3), .ref (y 4), .ref (y 5), .ref (y 6), .ref (y 7), .ref (y 8), .ref (y 9), .int 0, .int 0, .int 0, .int 0, .int 0]))] 0 0 (QL V (fun (r : Int64) (w : va_W) => (r = (-2) ∧ w = [(y 0, .inr (9, [.ref (y 1), .int 0, .ref (y 2), .ref (y 10), .ref (y 19), .ref (y 25), .ref (y 26), .ref (y 30), .ref (y 31), .ref (y 32), .null, .null, .int 0, .int 0, .int 0])), (y 2, .inr (1, [.int 0, .int 0, .int 0, .int 0, .int 0, .int 0, .ref (y 3), .ref (y 4), .ref (y 5), .ref (y 6), .ref (y 7), .ref (y 8), .ref (y 9), .int 0, .int 0, .int 0, .int 0, .int 0]))]))) := by
  refine Ct.of (by decide) (Nat.le_of_ble_eq_true rfl) (fun p e s m below meth c A ls hx hb hr hml hown hlk hnm hg hP hK hD hE hA hS hl => ?_)
  have hl : lv_has ls 5 [(0, .ref (y 0)), (1, .int p0), (2, .int p1), (3, .int p2)] := hl
  refine lv_aload_n hx hb dX9_rows_0 rfl (lv_at hl 0 rfl) ?_
  refine lv_iload_n hx hb dX9_rows_1 rfl (lv_at hl 1 rfl) ?_
  refine jnI (wr := []) (rnV (rest := []) ⟨hx, hb, hml, hown, hg⟩ (c_X9_isHill_0 l V y p0) mt_X9_isHill q_3_122 ⟨Nat.le_of_ble_eq_true rfl, Nat.le_of_ble_eq_true rfl⟩ hK hP hD hS hA hE [0, 1] rfl rfl 0 rfl rfl rfl rfl hl.1 rfl (Nat.le_of_ble_eq_true rfl) dX9_rows_2 ⟨Nat.le_of_ble_eq_true rfl, Nat.le_of_ble_eq_true rfl⟩) hP hD hS hA [0, 1] [] rfl rfl rfl (by decide) (fun r_1 w H locs hw hP hD hS => ?_)
  obtain ⟨rfl, rfl⟩ := hw
  have hP : va_P V.1 vwCl [(y 0, .inr (9, [.ref (y 1), .int 0, .ref (y 2), .ref (y 10), .ref (y 19), .ref (y 25), .ref (y 26), .ref (y 30), .ref (y 31), .ref (y 32), .null, .null, .int 0, .int 0, .int 0])), (y 2, .inr (1, [.int 0, .int 0, .int 0, .int 0, .int 0, .int 0, .ref (y 3), .ref (y 4), .ref (y 5), .ref (y 6), .ref (y 7), .ref (y 8), .ref (y 9), .int 0, .int 0, .int 0, .int 0, .int 0]))] H := hP
  have hD : va_D A [(y 0, .inr (9, [.ref (y 1), .int 0, .ref (y 2), .ref (y 10), .ref (y 19), .ref (y 25), .ref (y 26), .ref (y 30), .ref (y 31), .ref (y 32), .null, .null, .int 0, .int 0, .int 0])), (y 2, .inr (1, [.int 0, .int 0, .int 0, .int 0, .int 0, .int 0, .ref (y 3), .ref (y 4), .ref (y 5), .ref (y 6), .ref (y 7), .ref (y 8), .ref (y 9), .int 0, .int 0, .int 0, .int 0, .int 0]))] := hD
  refine lv_if_ne (tgt := 12) hx hb dX9_rows_5 (by decide) (fun c_2 => absurd c_2 (by decide)) (fun _ => ?_)
  refine lv_ldc2 (v := (-2)) hx hb hown (hg _ q_4_162) dX9_rows_8 ?_
  exact fiL hx hb hr hlk hK hP hD hS dX9_rows_11 (Nat.le_of_ble_eq_true rfl) (Nat.le_of_ble_eq_true rfl) (⟨rfl, rfl⟩)
theorem dX10_isHigh_0 : decode cX10_isHigh 0 = .ok (.iload_n 0, 1) := by decide +kernel
theorem dX10_isHigh_1 : decode cX10_isHigh 1 = .ok (.i2l, 1) := by decide +kernel
theorem dX10_isHigh_2 : decode cX10_isHigh 2 = .ok (.lconst 0, 1) := by decide +kernel
theorem q_7_189 : Cond.constantLong "BeaconDelayModel" 368 (4 : Int64) ∈ gw := gw_7 (i := 189) (by decide +kernel) rfl
theorem dX10_isHigh_3 : decode cX10_isHigh 3 = .ok (.ldc2_w 368, 3) := by decide +kernel
theorem dX10_isHigh_6 : decode cX10_isHigh 6 = .ok (.invokestatic 159, 3) := by decide +kernel
theorem dX10_isHigh_9 : decode cX10_isHigh 9 = .ok (.ireturn, 1) := by decide +kernel
set_option maxHeartbeats 4000000 in
set_option maxRecDepth 100000 in
theorem c_X10_isHigh_0 (l : Launch) (V : GV) (p0 : Int32) : Ct l V yX10_isHigh (.code yX10_isHigh cX10_isHigh 1 (some .boolean)) 2 [.int p0] [] 0 0 (QI V (fun (r : Int32) (w : va_W) => (p0.toInt64 < 0 ∧ r = 0 ∧ w = []) ∨ ((¬ p0.toInt64 < 0) ∧ 4 < p0.toInt64 ∧ r = 0 ∧ w = []) ∨ ((¬ p0.toInt64 < 0) ∧ (¬ 4 < p0.toInt64) ∧ r = 1 ∧ w = []))) := by
  refine Ct.of (by decide) (Nat.le_of_ble_eq_true rfl) (fun p e s m below meth c A ls hx hb hr hml hown hlk hnm hg hP hK hD hE hA hS hl => ?_)
  have hl : lv_has ls 1 [(0, .int p0)] := hl
  refine lv_iload_n hx hb dX10_isHigh_0 rfl (lv_at hl 0 rfl) ?_
  refine lv_i2l (v := p0.toInt64) hx hb dX10_isHigh_1 rfl ?_
  refine lv_lconst (v := 0) hx hb dX10_isHigh_2 (by decide) ?_
  refine lv_ldc2 (v := 4) hx hb hown (hg _ q_7_189) dX10_isHigh_3 ?_
  refine jnI (wr := []) (rnS (rest := []) ⟨hx, hb, hml, hown, hg⟩ (c_X10_within_0 l V p0.toInt64 0 4) mt_X10_within q_6_114 ⟨Nat.le_of_ble_eq_true rfl, Nat.le_of_ble_eq_true rfl⟩ hK hP hD hS hA hE [] rfl rfl rfl hl.1 rfl (Nat.le_of_ble_eq_true rfl) dX10_isHigh_6 ⟨Nat.le_of_ble_eq_true rfl, Nat.le_of_ble_eq_true rfl⟩) hP hD hS hA [] [] rfl rfl rfl (by decide) (fun r_1 w H locs hw hP hD hS => ?_)
  rcases hw with ⟨c_2, rfl, rfl⟩ | ⟨c_3, c_4, rfl, rfl⟩ | ⟨c_5, c_6, rfl, rfl⟩
  · have hP : va_P V.1 vwCl [] H := hP
    have hD : va_D A [] := hD
    exact fiZ rfl hx hb hr hlk hK hP hD hS dX10_isHigh_9 (Nat.le_of_ble_eq_true rfl) (Nat.le_of_ble_eq_true rfl) (Or.inl ⟨c_2, rfl, rfl⟩)
  · have hP : va_P V.1 vwCl [] H := hP
    have hD : va_D A [] := hD
    exact fiZ rfl hx hb hr hlk hK hP hD hS dX10_isHigh_9 (Nat.le_of_ble_eq_true rfl) (Nat.le_of_ble_eq_true rfl) (Or.inr (Or.inl ⟨c_3, c_4, rfl, rfl⟩))
  · have hP : va_P V.1 vwCl [] H := hP
    have hD : va_D A [] := hD
    exact fiZ rfl hx hb hr hlk hK hP hD hS dX10_isHigh_9 (Nat.le_of_ble_eq_true rfl) (Nat.le_of_ble_eq_true rfl) (Or.inr (Or.inr (⟨c_5, c_6, rfl, rfl⟩)))
theorem dX10_adds_0 : decode cX10_adds 0 = .ok (.aload_n 0, 1) := by decide +kernel
theorem dX10_adds_1 : decode cX10_adds 1 = .ok (.getfield 58, 3) := by decide +kernel
theorem dX10_adds_4 : decode cX10_adds 4 = .ok (.iload_n 1, 1) := by decide +kernel
theorem dX10_adds_5 : decode cX10_adds 5 = .ok (.baload, 1) := by decide +kernel
theorem dX10_adds_6 : decode cX10_adds 6 = .ok (.ifCond .eq 4, 3) := by decide +kernel
theorem dX10_adds_10 : decode cX10_adds 10 = .ok (.aload_n 0, 1) := by decide +kernel
theorem dX10_adds_11 : decode cX10_adds 11 = .ok (.getfield 58, 3) := by decide +kernel
theorem dX10_adds_14 : decode cX10_adds 14 = .ok (.iload_n 1, 1) := by decide +kernel
theorem dX10_adds_15 : decode cX10_adds 15 = .ok (.iconst 1, 1) := by decide +kernel
theorem dX10_adds_16 : decode cX10_adds 16 = .ok (.bastore, 1) := by decide +kernel
theorem dX10_adds_17 : decode cX10_adds 17 = .ok (.aload_n 0, 1) := by decide +kernel
theorem dX10_adds_18 : decode cX10_adds 18 = .ok (.getfield 45, 3) := by decide +kernel
theorem dX10_adds_21 : decode cX10_adds 21 = .ok (.aload_n 0, 1) := by decide +kernel
theorem q_6_13 : Cond.fieldLink "BeaconDelayModel" 355 "BeaconDelayModel" "standMany" "I" ∈ gw := gw_6 (i := 13) (by decide +kernel) rfl
theorem dX10_adds_22 : decode cX10_adds 22 = .ok (.getfield 355, 3) := by decide +kernel
theorem dX10_adds_25 : decode cX10_adds 25 = .ok (.iload_n 1, 1) := by decide +kernel
theorem dX10_adds_26 : decode cX10_adds 26 = .ok (.iastore, 1) := by decide +kernel
theorem dX10_adds_27 : decode cX10_adds 27 = .ok (.aload_n 0, 1) := by decide +kernel
theorem dX10_adds_28 : decode cX10_adds 28 = .ok (.dup, 1) := by decide +kernel
theorem dX10_adds_29 : decode cX10_adds 29 = .ok (.getfield 355, 3) := by decide +kernel
theorem dX10_adds_32 : decode cX10_adds 32 = .ok (.iconst 1, 1) := by decide +kernel
theorem dX10_adds_33 : decode cX10_adds 33 = .ok (.iadd, 1) := by decide +kernel
theorem dX10_adds_34 : decode cX10_adds 34 = .ok (.putfield 355, 3) := by decide +kernel
theorem dX10_adds_37 : decode cX10_adds 37 = .ok (.return_, 1) := by decide +kernel
set_option maxHeartbeats 4000000 in
set_option maxRecDepth 100000 in
theorem c_X10_adds_0 (l : Launch) (V : GV) (z : Nat → Nat) : Ct l V yX10_adds (.code yX10_adds cX10_adds 2 none) 1 [.ref (z 0), .int 0] [(z 24, aI V 10000 (fun _ => 0)), (z 28, aZ V 10000 (fun _ => 0)), (z 0, .inr (10, mo z 0 0 0 0 0 0 0 0 0 0 (-1) 0 0 0 0 0))] 0 0 (QV V (fun (w : va_W) => (w = [(z 24, aI V 10000 (fun _ => 0)), (z 28, aZ V 10000 (upd (fun _ => 0) 0 1)), (z 0, .inr (10, mo z 0 0 0 0 0 0 0 0 0 0 (-1) 0 0 0 0 1))]))) := by
  refine Ct.of (by decide) (Nat.le_of_ble_eq_true rfl) (fun p e s m below meth c A ls hx hb hr hml hown hlk hnm hg hP hK hD hE hA hS hl => ?_)
  have hl : lv_has ls 2 [(0, .ref (z 0)), (1, .int 0)] := hl
  refine lv_aload_n hx hb dX10_adds_0 rfl (lv_at hl 0 rfl) ?_
  refine va_get (ci := 10) (v := .ref (z 28)) (C := RX10) (T := TX10) (N := 40) hx hb hg inX10 hown hK hP 2 rfl rfl 28 (by decide) (hg _ q_6_12) (fun _ h9 => h9) rfl dX10_adds_1 ?_
  refine lv_iload_n hx hb dX10_adds_4 rfl (lv_at hl 1 rfl) ?_
  refine va_zald hx hb hK hP 1 3 rfl rfl (vin (by decide +kernel)) dX10_adds_5 ?_
  refine tpi (y := 0) (rfl) ?_
  refine lv_if_eq (tgt := 10) hx hb dX10_adds_6 (by decide) (fun _ => ?_) (fun c_1 => absurd c_1 (by decide))
  refine lv_aload_n hx hb dX10_adds_10 rfl (lv_at hl 0 rfl) ?_
  refine va_get (ci := 10) (v := .ref (z 28)) (C := RX10) (T := TX10) (N := 40) hx hb hg inX10 hown hK hP 2 rfl rfl 28 (by decide) (hg _ q_6_12) (fun _ h9 => h9) rfl dX10_adds_11 ?_
  refine lv_iload_n hx hb dX10_adds_14 rfl (lv_at hl 1 rfl) ?_
  refine lv_iconst (v := 1) hx hb dX10_adds_15 (by decide) ?_
  refine va_zast hx hb hK hP hD hS 1 3 rfl rfl (vin (by decide +kernel)) dX10_adds_16 (fun H locs hP hD hS => ?_)
  have hP : va_P V.1 vwCl [(z 24, aI V 10000 (fun _ => 0)), (z 28, aZ V 10000 (upd (fun _ => 0) 0 1)), (z 0, .inr (10, mo z 0 0 0 0 0 0 0 0 0 0 (-1) 0 0 0 0 0))] H := hP
  have hD : va_D A [(z 24, aI V 10000 (fun _ => 0)), (z 28, aZ V 10000 (upd (fun _ => 0) 0 1)), (z 0, .inr (10, mo z 0 0 0 0 0 0 0 0 0 0 (-1) 0 0 0 0 0))] := hD
  refine lv_aload_n hx hb dX10_adds_17 rfl (lv_at hl 0 rfl) ?_
  refine va_get (ci := 10) (v := .ref (z 24)) (C := RX10) (T := TX10) (N := 40) hx hb hg inX10 hown hK hP 2 rfl rfl 24 (by decide) (hg _ q_6_8) (fun _ h9 => h9) rfl dX10_adds_18 ?_
  refine lv_aload_n hx hb dX10_adds_21 rfl (lv_at hl 0 rfl) ?_
  refine va_get (ci := 10) (v := .int 0) (C := RX10) (T := TX10) (N := 40) hx hb hg inX10 hown hK hP 2 rfl rfl 29 (by decide) (hg _ q_6_13) (fun _ h9 => h9) rfl dX10_adds_22 ?_
  refine lv_iload_n hx hb dX10_adds_25 rfl (lv_at hl 1 rfl) ?_
  refine va_iast hx hb hK hP hD hS 0 0 rfl rfl (vin (by decide +kernel)) dX10_adds_26 (fun H locs hP hD hS => ?_)
  have hP : va_P V.1 vwCl [(z 24, aI V 10000 (upd (fun _ => 0) 0 0)), (z 28, aZ V 10000 (upd (fun _ => 0) 0 1)), (z 0, .inr (10, mo z 0 0 0 0 0 0 0 0 0 0 (-1) 0 0 0 0 0))] H := hP
  have hD : va_D A [(z 24, aI V 10000 (upd (fun _ => 0) 0 0)), (z 28, aZ V 10000 (upd (fun _ => 0) 0 1)), (z 0, .inr (10, mo z 0 0 0 0 0 0 0 0 0 0 (-1) 0 0 0 0 0))] := hD
  have hP : va_P V.1 vwCl [(z 24, aI V 10000 (fun _ => 0)), (z 28, aZ V 10000 (upd (fun _ => 0) 0 1)), (z 0, .inr (10, mo z 0 0 0 0 0 0 0 0 0 0 (-1) 0 0 0 0 0))] H := by rw [upd0] at hP; exact hP
  have hD : va_D A [(z 24, aI V 10000 (fun _ => 0)), (z 28, aZ V 10000 (upd (fun _ => 0) 0 1)), (z 0, .inr (10, mo z 0 0 0 0 0 0 0 0 0 0 (-1) 0 0 0 0 0))] := by rw [upd0] at hD; exact hD
  refine lv_aload_n hx hb dX10_adds_27 rfl (lv_at hl 0 rfl) ?_
  refine lv_dup hx hb dX10_adds_28 rfl ?_
  refine va_get (ci := 10) (v := .int 0) (C := RX10) (T := TX10) (N := 40) hx hb hg inX10 hown hK hP 2 rfl rfl 29 (by decide) (hg _ q_6_13) (fun _ h9 => h9) rfl dX10_adds_29 ?_
  refine lv_iconst (v := 1) hx hb dX10_adds_32 (by decide) ?_
  refine lv_iadd hx hb dX10_adds_33 ?_
  refine tpi (y := 1) (by decide +kernel) ?_
  refine va_put (ci := 10) (v := .int 1) (ty := .int) (C := RX10) (T := TX10) (N := 40) hx hb hg inX10 tyX10 tyX10_ok nmX10 hown hK hP hD hS 2 rfl rfl 29 (by decide) (hg _ q_6_13) (fun _ h9 => h9) rfl (by decide +kernel) rfl rfl (Nat.le_of_ble_eq_true rfl) dX10_adds_34 (fun H locs hP hD hS => ?_)
  have hP : va_P V.1 vwCl [(z 24, aI V 10000 (fun _ => 0)), (z 28, aZ V 10000 (upd (fun _ => 0) 0 1)), (z 0, .inr (10, mo z 0 0 0 0 0 0 0 0 0 0 (-1) 0 0 0 0 1))] H := hP
  have hD : va_D A [(z 24, aI V 10000 (fun _ => 0)), (z 28, aZ V 10000 (upd (fun _ => 0) 0 1)), (z 0, .inr (10, mo z 0 0 0 0 0 0 0 0 0 0 (-1) 0 0 0 0 1))] := hD
  exact fiV hx hb hr hlk hK hP hD hS dX10_adds_37 (Nat.le_of_ble_eq_true rfl) (Nat.le_of_ble_eq_true rfl) (rfl)
set_option maxHeartbeats 4000000 in
set_option maxRecDepth 100000 in
theorem c_X10_isNight_1 (l : Launch) (V : GV) (z : Nat → Nat) : Ct l V yX10_isNight (.code yX10_isNight cX10_isNight 3 (some .boolean)) 1 [.ref (z 0), .long 0] [] 0 0 (QI V (fun (r : Int32) (w : va_W) => (r = 1 ∧ w = []))) := by
  refine Ct.of (by decide) (Nat.le_of_ble_eq_true rfl) (fun p e s m below meth c A ls hx hb hr hml hown hlk hnm hg hP hK hD hE hA hS hl => ?_)
  have hl : lv_has ls 3 [(0, .ref (z 0)), (1, .long 0)] := hl
  refine lv_lload_n hx hb dX10_isNight_0 rfl (lv_at hl 1 rfl) ?_
  refine lv_lconst (v := 0) hx hb dX10_isNight_1 (by decide) ?_
  refine W.lcmp hx hb dX10_isNight_2 ?_
  refine lv_if_eq (tgt := 23) hx hb dX10_isNight_3 (by decide) (fun _ => ?_) (fun c_1 => absurd (fun z => c_1 ((lg_cmp_eq _ _).mpr z)) (by decide))
  refine lv_iconst (v := 1) hx hb dX10_isNight_23 (by decide) ?_
  refine lv_goto (tgt := 28) hx hb dX10_isNight_24 (by decide) ?_
  exact fiZ rfl hx hb hr hlk hK hP hD hS dX10_isNight_28 (Nat.le_of_ble_eq_true rfl) (Nat.le_of_ble_eq_true rfl) (⟨rfl, rfl⟩)
set_option maxHeartbeats 4000000 in
set_option maxRecDepth 100000 in
theorem c_X10_nightTo_3 (l : Launch) (V : GV) (z : Nat → Nat) : Ct l V yX10_nightTo (.code yX10_nightTo cX10_nightTo 6 (some .int)) 1 [.ref (z 0), .int 0, .int 0, .int 0] [(z 1, aI V 3075 (fun _ => 0)), (z 0, .inr (10, mo z 0 0 0 0 0 0 0 0 0 0 (-1) 0 0 0 0 1))] 0 0 (QI V (fun (r : Int32) (w : va_W) => (r = 0 ∧ w = [(z 1, aI V 3075 (fun _ => 0)), (z 0, .inr (10, mo z 0 0 0 0 0 0 0 0 0 0 (-1) 0 0 0 0 1))]))) := by
  refine Ct.of (by decide) (Nat.le_of_ble_eq_true rfl) (fun p e s m below meth c A ls hx hb hr hml hown hlk hnm hg hP hK hD hE hA hS hl => ?_)
  have hl : lv_has ls 6 [(0, .ref (z 0)), (1, .int 0), (2, .int 0), (3, .int 0)] := hl
  refine lv_iconst (v := 0) hx hb dX10_nightTo_0 (by decide) ?_
  refine lv_istore (lv' := [(4, .int 0), (0, .ref (z 0)), (1, .int 0), (2, .int 0), (3, .int 0)]) hx hb dX10_nightTo_1 hl (by decide) rfl (fun ls hl => ?_)
  refine lv_iconst (v := 0) hx hb dX10_nightTo_3 (by decide) ?_
  refine lv_istore (lv' := [(5, .int 0), (4, .int 0), (0, .ref (z 0)), (1, .int 0), (2, .int 0), (3, .int 0)]) hx hb dX10_nightTo_4 hl (by decide) rfl (fun ls hl => ?_)
  refine lv_iload hx hb dX10_nightTo_6 (lv_at hl 0 rfl) ?_
  refine lv_aload_n hx hb dX10_nightTo_8 rfl (lv_at hl 2 rfl) ?_
  refine va_get (ci := 10) (v := .ref (z 1)) (C := RX10) (T := TX10) (N := 40) hx hb hg inX10 hown hK hP 1 rfl rfl 1 (by decide) (hg _ q_5_225) (fun _ h9 => h9) rfl dX10_nightTo_9 ?_
  refine lv_iconst (v := 1) hx hb dX10_nightTo_12 (by decide) ?_
  refine va_iald hx hb hK hP 0 0 rfl rfl (vin (by decide +kernel)) dX10_nightTo_13 ?_
  refine tpi (y := 0) (rfl) ?_
  refine lv_icmp_ge (tgt := 98) hx hb dX10_nightTo_14 (by decide) (fun _ => ?_) (fun c_1 => absurd c_1 (by decide))
  refine lv_iload hx hb dX10_nightTo_98 (lv_at hl 1 rfl) ?_
  exact fiI hx hb hr hlk hK hP hD hS dX10_nightTo_100 (Nat.le_of_ble_eq_true rfl) (Nat.le_of_ble_eq_true rfl) (⟨rfl, rfl⟩)
theorem dX10_adds_9 : decode cX10_adds 9 = .ok (.return_, 1) := by decide +kernel
set_option maxHeartbeats 4000000 in
set_option maxRecDepth 100000 in
theorem c_X10_adds_1 (l : Launch) (V : GV) (z : Nat → Nat) : Ct l V yX10_adds (.code yX10_adds cX10_adds 2 none) 1 [.ref (z 0), .int 0] [(z 28, aZ V 10000 (upd (fun _ => 0) 0 1)), (z 0, .inr (10, mo z 0 0 0 0 0 0 0 0 0 0 (-1) 0 0 0 0 1))] 0 0 (QV V (fun (w : va_W) => (w = [(z 28, aZ V 10000 (upd (fun _ => 0) 0 1)), (z 0, .inr (10, mo z 0 0 0 0 0 0 0 0 0 0 (-1) 0 0 0 0 1))]))) := by
  refine Ct.of (by decide) (Nat.le_of_ble_eq_true rfl) (fun p e s m below meth c A ls hx hb hr hml hown hlk hnm hg hP hK hD hE hA hS hl => ?_)
  have hl : lv_has ls 2 [(0, .ref (z 0)), (1, .int 0)] := hl
  refine lv_aload_n hx hb dX10_adds_0 rfl (lv_at hl 0 rfl) ?_
  refine va_get (ci := 10) (v := .ref (z 28)) (C := RX10) (T := TX10) (N := 40) hx hb hg inX10 hown hK hP 1 rfl rfl 28 (by decide) (hg _ q_6_12) (fun _ h9 => h9) rfl dX10_adds_1 ?_
  refine lv_iload_n hx hb dX10_adds_4 rfl (lv_at hl 1 rfl) ?_
  refine va_zald hx hb hK hP 0 3 rfl rfl (vin (by decide +kernel)) dX10_adds_5 ?_
  refine tpi (y := 1) (rfl) ?_
  refine lv_if_eq (tgt := 10) hx hb dX10_adds_6 (by decide) (fun c_1 => absurd c_1 (by decide)) (fun _ => ?_)
  exact fiV hx hb hr hlk hK hP hD hS dX10_adds_9 (Nat.le_of_ble_eq_true rfl) (Nat.le_of_ble_eq_true rfl) (rfl)
set_option maxHeartbeats 4000000 in
set_option maxRecDepth 100000 in
theorem c_X10_isNight_2 (l : Launch) (V : GV) (z : Nat → Nat) : Ct l V yX10_isNight (.code yX10_isNight cX10_isNight 3 (some .boolean)) 2 [.ref (z 0), .long 1] [(z 1, aI V 3075 (fun _ => 0)), (z 0, .inr (10, mo z 0 0 0 0 0 0 0 0 0 0 (-1) 0 0 0 0 1))] 0 0 (QI V (fun (r : Int32) (w : va_W) => (r = 0 ∧ w = [(z 1, aI V 3075 (fun _ => 0)), (z 0, .inr (10, mo z 0 0 0 0 0 0 0 0 0 0 (-1) 0 0 0 0 1))]))) := by
  refine Ct.of (by decide) (Nat.le_of_ble_eq_true rfl) (fun p e s m below meth c A ls hx hb hr hml hown hlk hnm hg hP hK hD hE hA hS hl => ?_)
  have hl : lv_has ls 3 [(0, .ref (z 0)), (1, .long 1)] := hl
  refine lv_lload_n hx hb dX10_isNight_0 rfl (lv_at hl 1 rfl) ?_
  refine lv_lconst (v := 0) hx hb dX10_isNight_1 (by decide) ?_
  refine W.lcmp hx hb dX10_isNight_2 ?_
  refine lv_if_eq (tgt := 23) hx hb dX10_isNight_3 (by decide) (fun c_1 => absurd ((lg_cmp_eq _ _).mp c_1) (by decide)) (fun _ => ?_)
  refine lv_lload_n hx hb dX10_isNight_6 rfl (lv_at hl 1 rfl) ?_
  refine lv_lconst (v := 1) hx hb dX10_isNight_7 (by decide) ?_
  refine lv_aload_n hx hb dX10_isNight_8 rfl (lv_at hl 0 rfl) ?_
  refine va_get (ci := 10) (v := .ref (z 1)) (C := RX10) (T := TX10) (N := 40) hx hb hg inX10 hown hK hP 1 rfl rfl 1 (by decide) (hg _ q_5_225) (fun _ h9 => h9) rfl dX10_isNight_9 ?_
  refine lv_iconst (v := 1) hx hb dX10_isNight_12 (by decide) ?_
  refine va_iald hx hb hK hP 0 0 rfl rfl (vin (by decide +kernel)) dX10_isNight_13 ?_
  refine tpi (y := 0) (rfl) ?_
  refine lv_iconst (v := 1) hx hb dX10_isNight_14 (by decide) ?_
  refine lv_isub hx hb dX10_isNight_15 ?_
  refine tpi (y := (-1)) (by decide +kernel) ?_
  refine lv_i2l (v := (-1)) hx hb dX10_isNight_16 (by decide +kernel) ?_
  refine jnI (wr := [(z 1, aI V 3075 (fun _ => 0)), (z 0, .inr (10, mo z 0 0 0 0 0 0 0 0 0 0 (-1) 0 0 0 0 1))]) (rnS (rest := []) ⟨hx, hb, hml, hown, hg⟩ (c_X10_within_0 l V 1 1 ((-1))) mt_X10_within q_6_114 ⟨Nat.le_of_ble_eq_true rfl, Nat.le_of_ble_eq_true rfl⟩ hK hP hD hS hA hE [] rfl rfl rfl hl.1 rfl (Nat.le_of_ble_eq_true rfl) dX10_isNight_17 ⟨Nat.le_of_ble_eq_true rfl, Nat.le_of_ble_eq_true rfl⟩) hP hD hS hA [] [0, 1] rfl rfl rfl (by decide) (fun r_2 w H locs hw hP hD hS => ?_)
  rcases hw with ⟨c_3, rfl, rfl⟩ | ⟨c_4, c_5, rfl, rfl⟩ | ⟨c_6, c_7, rfl, rfl⟩
  · exact absurd c_3 (by decide)
  · have hP : va_P V.1 vwCl [(z 1, aI V 3075 (fun _ => 0)), (z 0, .inr (10, mo z 0 0 0 0 0 0 0 0 0 0 (-1) 0 0 0 0 1))] H := hP
    have hD : va_D A [(z 1, aI V 3075 (fun _ => 0)), (z 0, .inr (10, mo z 0 0 0 0 0 0 0 0 0 0 (-1) 0 0 0 0 1))] := hD
    refine lv_if_eq (tgt := 27) hx hb dX10_isNight_20 (by decide) (fun _ => ?_) (fun c_8 => absurd c_8 (by decide))
    refine lv_iconst (v := 0) hx hb dX10_isNight_27 (by decide) ?_
    exact fiZ rfl hx hb hr hlk hK hP hD hS dX10_isNight_28 (Nat.le_of_ble_eq_true rfl) (Nat.le_of_ble_eq_true rfl) (⟨rfl, rfl⟩)
  · exact absurd c_7 (by decide)
set_option maxHeartbeats 4000000 in
set_option maxRecDepth 100000 in
theorem c_X10_isNight_3 (l : Launch) (V : GV) (z : Nat → Nat) : Ct l V yX10_isNight (.code yX10_isNight cX10_isNight 3 (some .boolean)) 2 [.ref (z 0), .long 2] [(z 1, aI V 3075 (fun _ => 0)), (z 0, .inr (10, mo z 0 0 0 0 0 0 0 0 0 0 (-1) 0 0 0 0 1))] 0 0 (QI V (fun (r : Int32) (w : va_W) => (r = 0 ∧ w = [(z 1, aI V 3075 (fun _ => 0)), (z 0, .inr (10, mo z 0 0 0 0 0 0 0 0 0 0 (-1) 0 0 0 0 1))]))) := by
  refine Ct.of (by decide) (Nat.le_of_ble_eq_true rfl) (fun p e s m below meth c A ls hx hb hr hml hown hlk hnm hg hP hK hD hE hA hS hl => ?_)
  have hl : lv_has ls 3 [(0, .ref (z 0)), (1, .long 2)] := hl
  refine lv_lload_n hx hb dX10_isNight_0 rfl (lv_at hl 1 rfl) ?_
  refine lv_lconst (v := 0) hx hb dX10_isNight_1 (by decide) ?_
  refine W.lcmp hx hb dX10_isNight_2 ?_
  refine lv_if_eq (tgt := 23) hx hb dX10_isNight_3 (by decide) (fun c_1 => absurd ((lg_cmp_eq _ _).mp c_1) (by decide)) (fun _ => ?_)
  refine lv_lload_n hx hb dX10_isNight_6 rfl (lv_at hl 1 rfl) ?_
  refine lv_lconst (v := 1) hx hb dX10_isNight_7 (by decide) ?_
  refine lv_aload_n hx hb dX10_isNight_8 rfl (lv_at hl 0 rfl) ?_
  refine va_get (ci := 10) (v := .ref (z 1)) (C := RX10) (T := TX10) (N := 40) hx hb hg inX10 hown hK hP 1 rfl rfl 1 (by decide) (hg _ q_5_225) (fun _ h9 => h9) rfl dX10_isNight_9 ?_
  refine lv_iconst (v := 1) hx hb dX10_isNight_12 (by decide) ?_
  refine va_iald hx hb hK hP 0 0 rfl rfl (vin (by decide +kernel)) dX10_isNight_13 ?_
  refine tpi (y := 0) (rfl) ?_
  refine lv_iconst (v := 1) hx hb dX10_isNight_14 (by decide) ?_
  refine lv_isub hx hb dX10_isNight_15 ?_
  refine tpi (y := (-1)) (by decide +kernel) ?_
  refine lv_i2l (v := (-1)) hx hb dX10_isNight_16 (by decide +kernel) ?_
  refine jnI (wr := [(z 1, aI V 3075 (fun _ => 0)), (z 0, .inr (10, mo z 0 0 0 0 0 0 0 0 0 0 (-1) 0 0 0 0 1))]) (rnS (rest := []) ⟨hx, hb, hml, hown, hg⟩ (c_X10_within_0 l V 2 1 ((-1))) mt_X10_within q_6_114 ⟨Nat.le_of_ble_eq_true rfl, Nat.le_of_ble_eq_true rfl⟩ hK hP hD hS hA hE [] rfl rfl rfl hl.1 rfl (Nat.le_of_ble_eq_true rfl) dX10_isNight_17 ⟨Nat.le_of_ble_eq_true rfl, Nat.le_of_ble_eq_true rfl⟩) hP hD hS hA [] [0, 1] rfl rfl rfl (by decide) (fun r_2 w H locs hw hP hD hS => ?_)
  rcases hw with ⟨c_3, rfl, rfl⟩ | ⟨c_4, c_5, rfl, rfl⟩ | ⟨c_6, c_7, rfl, rfl⟩
  · exact absurd c_3 (by decide)
  · have hP : va_P V.1 vwCl [(z 1, aI V 3075 (fun _ => 0)), (z 0, .inr (10, mo z 0 0 0 0 0 0 0 0 0 0 (-1) 0 0 0 0 1))] H := hP
    have hD : va_D A [(z 1, aI V 3075 (fun _ => 0)), (z 0, .inr (10, mo z 0 0 0 0 0 0 0 0 0 0 (-1) 0 0 0 0 1))] := hD
    refine lv_if_eq (tgt := 27) hx hb dX10_isNight_20 (by decide) (fun _ => ?_) (fun c_8 => absurd c_8 (by decide))
    refine lv_iconst (v := 0) hx hb dX10_isNight_27 (by decide) ?_
    exact fiZ rfl hx hb hr hlk hK hP hD hS dX10_isNight_28 (Nat.le_of_ble_eq_true rfl) (Nat.le_of_ble_eq_true rfl) (⟨rfl, rfl⟩)
  · exact absurd c_7 (by decide)
set_option maxHeartbeats 4000000 in
set_option maxRecDepth 100000 in
theorem c_X10_isNight_4 (l : Launch) (V : GV) (z : Nat → Nat) : Ct l V yX10_isNight (.code yX10_isNight cX10_isNight 3 (some .boolean)) 2 [.ref (z 0), .long 3] [(z 1, aI V 3075 (fun _ => 0)), (z 0, .inr (10, mo z 0 0 0 0 0 0 0 0 0 0 (-1) 0 0 0 0 1))] 0 0 (QI V (fun (r : Int32) (w : va_W) => (r = 0 ∧ w = [(z 1, aI V 3075 (fun _ => 0)), (z 0, .inr (10, mo z 0 0 0 0 0 0 0 0 0 0 (-1) 0 0 0 0 1))]))) := by
  refine Ct.of (by decide) (Nat.le_of_ble_eq_true rfl) (fun p e s m below meth c A ls hx hb hr hml hown hlk hnm hg hP hK hD hE hA hS hl => ?_)
  have hl : lv_has ls 3 [(0, .ref (z 0)), (1, .long 3)] := hl
  refine lv_lload_n hx hb dX10_isNight_0 rfl (lv_at hl 1 rfl) ?_
  refine lv_lconst (v := 0) hx hb dX10_isNight_1 (by decide) ?_
  refine W.lcmp hx hb dX10_isNight_2 ?_
  refine lv_if_eq (tgt := 23) hx hb dX10_isNight_3 (by decide) (fun c_1 => absurd ((lg_cmp_eq _ _).mp c_1) (by decide)) (fun _ => ?_)
  refine lv_lload_n hx hb dX10_isNight_6 rfl (lv_at hl 1 rfl) ?_
  refine lv_lconst (v := 1) hx hb dX10_isNight_7 (by decide) ?_
  refine lv_aload_n hx hb dX10_isNight_8 rfl (lv_at hl 0 rfl) ?_
  refine va_get (ci := 10) (v := .ref (z 1)) (C := RX10) (T := TX10) (N := 40) hx hb hg inX10 hown hK hP 1 rfl rfl 1 (by decide) (hg _ q_5_225) (fun _ h9 => h9) rfl dX10_isNight_9 ?_
  refine lv_iconst (v := 1) hx hb dX10_isNight_12 (by decide) ?_
  refine va_iald hx hb hK hP 0 0 rfl rfl (vin (by decide +kernel)) dX10_isNight_13 ?_
  refine tpi (y := 0) (rfl) ?_
  refine lv_iconst (v := 1) hx hb dX10_isNight_14 (by decide) ?_
  refine lv_isub hx hb dX10_isNight_15 ?_
  refine tpi (y := (-1)) (by decide +kernel) ?_
  refine lv_i2l (v := (-1)) hx hb dX10_isNight_16 (by decide +kernel) ?_
  refine jnI (wr := [(z 1, aI V 3075 (fun _ => 0)), (z 0, .inr (10, mo z 0 0 0 0 0 0 0 0 0 0 (-1) 0 0 0 0 1))]) (rnS (rest := []) ⟨hx, hb, hml, hown, hg⟩ (c_X10_within_0 l V 3 1 ((-1))) mt_X10_within q_6_114 ⟨Nat.le_of_ble_eq_true rfl, Nat.le_of_ble_eq_true rfl⟩ hK hP hD hS hA hE [] rfl rfl rfl hl.1 rfl (Nat.le_of_ble_eq_true rfl) dX10_isNight_17 ⟨Nat.le_of_ble_eq_true rfl, Nat.le_of_ble_eq_true rfl⟩) hP hD hS hA [] [0, 1] rfl rfl rfl (by decide) (fun r_2 w H locs hw hP hD hS => ?_)
  rcases hw with ⟨c_3, rfl, rfl⟩ | ⟨c_4, c_5, rfl, rfl⟩ | ⟨c_6, c_7, rfl, rfl⟩
  · exact absurd c_3 (by decide)
  · have hP : va_P V.1 vwCl [(z 1, aI V 3075 (fun _ => 0)), (z 0, .inr (10, mo z 0 0 0 0 0 0 0 0 0 0 (-1) 0 0 0 0 1))] H := hP
    have hD : va_D A [(z 1, aI V 3075 (fun _ => 0)), (z 0, .inr (10, mo z 0 0 0 0 0 0 0 0 0 0 (-1) 0 0 0 0 1))] := hD
    refine lv_if_eq (tgt := 27) hx hb dX10_isNight_20 (by decide) (fun _ => ?_) (fun c_8 => absurd c_8 (by decide))
    refine lv_iconst (v := 0) hx hb dX10_isNight_27 (by decide) ?_
    exact fiZ rfl hx hb hr hlk hK hP hD hS dX10_isNight_28 (Nat.le_of_ble_eq_true rfl) (Nat.le_of_ble_eq_true rfl) (⟨rfl, rfl⟩)
  · exact absurd c_7 (by decide)
theorem dX10_laysStands_0 : decode cX10_laysStands 0 = .ok (.iconst 0, 1) := by decide +kernel
theorem dX10_laysStands_1 : decode cX10_laysStands 1 = .ok (.istore_n 1, 1) := by decide +kernel
theorem dX10_laysStands_2 : decode cX10_laysStands 2 = .ok (.iload_n 1, 1) := by decide +kernel
theorem dX10_laysStands_3 : decode cX10_laysStands 3 = .ok (.sipush 10000, 3) := by decide +kernel
theorem dX10_laysStands_6 : decode cX10_laysStands 6 = .ok (.if_icmp .ge 16, 3) := by decide +kernel
theorem dX10_laysStands_22 : decode cX10_laysStands 22 = .ok (.aload_n 0, 1) := by decide +kernel
theorem dX10_laysStands_23 : decode cX10_laysStands 23 = .ok (.iconst 0, 1) := by decide +kernel
theorem dX10_laysStands_24 : decode cX10_laysStands 24 = .ok (.putfield 355, 3) := by decide +kernel
theorem dX10_laysStands_27 : decode cX10_laysStands 27 = .ok (.aload_n 0, 1) := by decide +kernel
theorem dX10_laysStands_28 : decode cX10_laysStands 28 = .ok (.aload_n 0, 1) := by decide +kernel
theorem dX10_laysStands_29 : decode cX10_laysStands 29 = .ok (.invokevirtual 269, 3) := by decide +kernel
theorem q_7_201 : Cond.code yX10_adds prog_12_method_82_code 2 none ∈ gw := gw_7 (i := 201) (rfl) rfl
theorem q_7_200 : Cond.instanceMethod yX10_adds ∈ gw := gw_7 (i := 200) (by decide +kernel) rfl
theorem q_s_106 : Cond.selects "BeaconDelayModel" yX10_adds yX10_adds ∈ gw := gw_s (i := 106) (by decide +kernel) rfl
theorem mt_X10_adds : MtV yX10_adds cX10_adds 2 none 1 := ⟨⟨q_7_201, q_1_9, by decide +kernel, by decide +kernel, by decide +kernel⟩, q_7_200, q_s_106⟩
theorem q_7_198 : Cond.methodLink "BeaconDelayModel" 358 yX10_adds ∈ gw := gw_7 (i := 198) (by decide +kernel) rfl
theorem dX10_laysStands_32 : decode cX10_laysStands 32 = .ok (.invokevirtual 358, 3) := by decide +kernel
theorem dX10_laysStands_35 : decode cX10_laysStands 35 = .ok (.iconst 0, 1) := by decide +kernel
theorem dX10_laysStands_36 : decode cX10_laysStands 36 = .ok (.istore_n 1, 1) := by decide +kernel
theorem dX10_laysStands_37 : decode cX10_laysStands 37 = .ok (.iload_n 1, 1) := by decide +kernel
theorem dX10_laysStands_38 : decode cX10_laysStands 38 = .ok (.aload_n 0, 1) := by decide +kernel
theorem dX10_laysStands_39 : decode cX10_laysStands 39 = .ok (.getfield 355, 3) := by decide +kernel
theorem dX10_laysStands_42 : decode cX10_laysStands 42 = .ok (.if_icmp .ge 80, 3) := by decide +kernel
theorem dX10_laysStands_45 : decode cX10_laysStands 45 = .ok (.iconst 0, 1) := by decide +kernel
theorem dX10_laysStands_46 : decode cX10_laysStands 46 = .ok (.istore_n 2, 1) := by decide +kernel
theorem dX10_laysStands_47 : decode cX10_laysStands 47 = .ok (.iload_n 2, 1) := by decide +kernel
theorem dX10_laysStands_48 : decode cX10_laysStands 48 = .ok (.iconst 4, 1) := by decide +kernel
theorem dX10_laysStands_49 : decode cX10_laysStands 49 = .ok (.if_icmp .ge 67, 3) := by decide +kernel
theorem dX10_laysStands_52 : decode cX10_laysStands 52 = .ok (.aload_n 0, 1) := by decide +kernel
theorem dX10_laysStands_53 : decode cX10_laysStands 53 = .ok (.iload_n 2, 1) := by decide +kernel
theorem dX10_laysStands_54 : decode cX10_laysStands 54 = .ok (.i2l, 1) := by decide +kernel
theorem dX10_laysStands_55 : decode cX10_laysStands 55 = .ok (.invokevirtual 266, 3) := by decide +kernel
theorem dX10_laysStands_58 : decode cX10_laysStands 58 = .ok (.ifCond .eq 24, 3) := by decide +kernel
theorem dX10_laysStands_61 : decode cX10_laysStands 61 = .ok (.aload_n 0, 1) := by decide +kernel
theorem dX10_laysStands_62 : decode cX10_laysStands 62 = .ok (.aload_n 0, 1) := by decide +kernel
theorem dX10_laysStands_63 : decode cX10_laysStands 63 = .ok (.getfield 45, 3) := by decide +kernel
theorem dX10_laysStands_66 : decode cX10_laysStands 66 = .ok (.iload_n 1, 1) := by decide +kernel
theorem dX10_laysStands_67 : decode cX10_laysStands 67 = .ok (.iaload, 1) := by decide +kernel
theorem dX10_laysStands_68 : decode cX10_laysStands 68 = .ok (.iload_n 2, 1) := by decide +kernel
theorem dX10_laysStands_69 : decode cX10_laysStands 69 = .ok (.aload_n 0, 1) := by decide +kernel
theorem dX10_laysStands_70 : decode cX10_laysStands 70 = .ok (.getfield 13, 3) := by decide +kernel
theorem dX10_laysStands_73 : decode cX10_laysStands 73 = .ok (.bipush 51, 2) := by decide +kernel
theorem dX10_laysStands_75 : decode cX10_laysStands 75 = .ok (.iaload, 1) := by decide +kernel
theorem dX10_laysStands_76 : decode cX10_laysStands 76 = .ok (.invokevirtual 272, 3) := by decide +kernel
theorem dX10_laysStands_79 : decode cX10_laysStands 79 = .ok (.goto 4, 3) := by decide +kernel
theorem dX10_laysStands_83 : decode cX10_laysStands 83 = .ok (.istore_n 3, 1) := by decide +kernel
theorem dX10_laysStands_84 : decode cX10_laysStands 84 = .ok (.aload_n 0, 1) := by decide +kernel
theorem dX10_laysStands_85 : decode cX10_laysStands 85 = .ok (.getfield 49, 3) := by decide +kernel
theorem dX10_laysStands_88 : decode cX10_laysStands 88 = .ok (.iconst 4, 1) := by decide +kernel
theorem dX10_laysStands_89 : decode cX10_laysStands 89 = .ok (.aload_n 0, 1) := by decide +kernel
theorem dX10_laysStands_90 : decode cX10_laysStands 90 = .ok (.getfield 45, 3) := by decide +kernel
theorem dX10_laysStands_93 : decode cX10_laysStands 93 = .ok (.iload_n 1, 1) := by decide +kernel
theorem dX10_laysStands_94 : decode cX10_laysStands 94 = .ok (.iaload, 1) := by decide +kernel
theorem dX10_laysStands_95 : decode cX10_laysStands 95 = .ok (.imul, 1) := by decide +kernel
theorem dX10_laysStands_96 : decode cX10_laysStands 96 = .ok (.iload_n 2, 1) := by decide +kernel
theorem dX10_laysStands_97 : decode cX10_laysStands 97 = .ok (.iadd, 1) := by decide +kernel
theorem dX10_laysStands_98 : decode cX10_laysStands 98 = .ok (.iload_n 3, 1) := by decide +kernel
theorem dX10_laysStands_99 : decode cX10_laysStands 99 = .ok (.iastore, 1) := by decide +kernel
theorem dX10_laysStands_100 : decode cX10_laysStands 100 = .ok (.iload_n 3, 1) := by decide +kernel
theorem dX10_laysStands_101 : decode cX10_laysStands 101 = .ok (.iconst (-1), 1) := by decide +kernel
theorem dX10_laysStands_102 : decode cX10_laysStands 102 = .ok (.if_icmp .eq 8, 3) := by decide +kernel
theorem dX10_laysStands_105 : decode cX10_laysStands 105 = .ok (.aload_n 0, 1) := by decide +kernel
theorem dX10_laysStands_106 : decode cX10_laysStands 106 = .ok (.iload_n 3, 1) := by decide +kernel
theorem dX10_laysStands_107 : decode cX10_laysStands 107 = .ok (.invokevirtual 358, 3) := by decide +kernel
theorem dX10_laysStands_110 : decode cX10_laysStands 110 = .ok (.iinc 2 1, 3) := by decide +kernel
theorem dX10_laysStands_113 : decode cX10_laysStands 113 = .ok (.goto (-66), 3) := by decide +kernel
theorem dX10_laysStands_82 : decode cX10_laysStands 82 = .ok (.iconst (-1), 1) := by decide +kernel
theorem dX10_laysStands_116 : decode cX10_laysStands 116 = .ok (.iinc 1 1, 3) := by decide +kernel
theorem dX10_laysStands_119 : decode cX10_laysStands 119 = .ok (.goto (-82), 3) := by decide +kernel
theorem dX10_laysStands_122 : decode cX10_laysStands 122 = .ok (.return_, 1) := by decide +kernel
theorem dX10_laysStands_9 : decode cX10_laysStands 9 = .ok (.aload_n 0, 1) := by decide +kernel
theorem dX10_laysStands_10 : decode cX10_laysStands 10 = .ok (.getfield 58, 3) := by decide +kernel
theorem dX10_laysStands_13 : decode cX10_laysStands 13 = .ok (.iload_n 1, 1) := by decide +kernel
theorem dX10_laysStands_14 : decode cX10_laysStands 14 = .ok (.iconst 0, 1) := by decide +kernel
theorem dX10_laysStands_15 : decode cX10_laysStands 15 = .ok (.bastore, 1) := by decide +kernel
theorem dX10_laysStands_16 : decode cX10_laysStands 16 = .ok (.iinc 1 1, 3) := by decide +kernel
theorem dX10_laysStands_19 : decode cX10_laysStands 19 = .ok (.goto (-17), 3) := by decide +kernel
set_option maxHeartbeats 4000000 in
set_option maxRecDepth 100000 in
theorem c_X10_laysStands_0 (l : Launch) (V : GV) (z : Nat → Nat) : Ct l V yX10_laysStands (.code yX10_laysStands cX10_laysStands 4 none) 3 [.ref (z 0)] [(z 0, .inr (10, mo z 0 0 0 0 0 0 0 0 0 0 (-1) 0 0 0 0 0)), (z 24, aI V 10000 (fun _ => 0)), (z 25, aI V 40000 (fun _ => 0)), (z 28, aZ V 10000 (fun _ => 0)), (z 1, aI V 3075 (fun _ => 0))] 0 0 (QV V (fun (w : va_W) => (w = [(z 0, .inr (10, mo z 0 0 0 0 0 0 0 0 0 0 (-1) 0 0 0 0 1)), (z 24, aI V 10000 (fun _ => 0)), (z 25, aI V 40000 (upd (upd (upd (fun _ => 0) 1 (-1)) 2 (-1)) 3 (-1))), (z 28, aZ V 10000 (upd (fun _ => 0) 0 1)), (z 1, aI V 3075 (fun _ => 0))]))) := by
  refine Ct.of (by decide) (Nat.le_of_ble_eq_true rfl) (fun p e s m below meth c A ls hx hb hr hml hown hlk hnm hg hP hK hD hE hA hS hl => ?_)
  have hl : lv_has ls 4 [(0, .ref (z 0))] := hl
  refine lv_iconst (v := 0) hx hb dX10_laysStands_0 (by decide) ?_
  refine lv_istore_n (lv' := [(1, .int 0), (0, .ref (z 0))]) hx hb dX10_laysStands_1 rfl hl (by decide) rfl (fun ls hl => ?_)
  refine loopW 10000 (X := fun (i_1 : Nat) (H : Heap) (locs : List Loc) (ls : Array Slot) => 0 ≤ i_1 ∧ va_P V.1 vwCl [(z 0, .inr (10, mo z 0 0 0 0 0 0 0 0 0 0 (-1) 0 0 0 0 0)), (z 24, aI V 10000 (fun _ => 0)), (z 25, aI V 40000 (fun _ => 0)), (z 28, aZ V 10000 (fun _ => 0)), (z 1, aI V 3075 (fun _ => 0))] H ∧ va_D A [(z 0, .inr (10, mo z 0 0 0 0 0 0 0 0 0 0 (-1) 0 0 0 0 0)), (z 24, aI V 10000 (fun _ => 0)), (z 25, aI V 40000 (fun _ => 0)), (z 28, aZ V 10000 (fun _ => 0)), (z 1, aI V 3075 (fun _ => 0))] ∧ va_S A s.heap H locs ∧ lv_has ls 4 [(1, .int (nI i_1)), (0, .ref (z 0))]) (g := fun ls => F0 m 2 ls []) (fun i_1 H locs ls hi_i_1 hX ih_i_1 => ?_) 0 (Nat.le_of_ble_eq_true rfl) ⟨Nat.le_refl _, hP, hD, hS, lv_sub hl [0, 1] rfl⟩
  obtain ⟨hlo_i_1, hP, hD, hS, hl⟩ := hX
  refine lv_iload_n hx hb dX10_laysStands_2 rfl (lv_at hl 0 rfl) ?_
  refine lv_sipush (v := 10000) hx hb dX10_laysStands_3 (by decide) ?_
  refine lv_icmp_ge (tgt := 22) hx hb dX10_laysStands_6 (by decide) (fun c_2 => ?_) (fun c_2 => ?_)
  · have e_3 : i_1 = 10000 := by have q9 := (nI_leI (a := 10000) (b := i_1) (by omega) (by omega)).mp c_2; omega
    rw [e_3] at hl
    have hl : lv_has ls 4 [(1, .int 10000), (0, .ref (z 0))] := hl
    refine lv_aload_n hx hb dX10_laysStands_22 rfl (lv_at hl 1 rfl) ?_
    refine lv_iconst (v := 0) hx hb dX10_laysStands_23 (by decide) ?_
    refine va_put (ci := 10) (v := .int 0) (ty := .int) (C := RX10) (T := TX10) (N := 40) hx hb hg inX10 tyX10 tyX10_ok nmX10 hown hK hP hD hS 0 rfl rfl 29 (by decide) (hg _ q_6_13) (fun _ h9 => h9) rfl (by decide +kernel) rfl rfl (Nat.le_of_ble_eq_true rfl) dX10_laysStands_24 (fun H locs hP hD hS => ?_)
    have hP : va_P V.1 vwCl [(z 0, .inr (10, mo z 0 0 0 0 0 0 0 0 0 0 (-1) 0 0 0 0 0)), (z 24, aI V 10000 (fun _ => 0)), (z 25, aI V 40000 (fun _ => 0)), (z 28, aZ V 10000 (fun _ => 0)), (z 1, aI V 3075 (fun _ => 0))] H := hP
    have hD : va_D A [(z 0, .inr (10, mo z 0 0 0 0 0 0 0 0 0 0 (-1) 0 0 0 0 0)), (z 24, aI V 10000 (fun _ => 0)), (z 25, aI V 40000 (fun _ => 0)), (z 28, aZ V 10000 (fun _ => 0)), (z 1, aI V 3075 (fun _ => 0))] := hD
    refine lv_aload_n hx hb dX10_laysStands_27 rfl (lv_at hl 1 rfl) ?_
    refine lv_aload_n hx hb dX10_laysStands_28 rfl (lv_at hl 1 rfl) ?_
    refine jnI (wr := [(z 24, aI V 10000 (fun _ => 0)), (z 25, aI V 40000 (fun _ => 0)), (z 28, aZ V 10000 (fun _ => 0))]) (rnV (rest := [.ref (z 0)]) ⟨hx, hb, hml, hown, hg⟩ (c_X10_standNow_0 l V z) mt_X10_standNow q_7_11 ⟨Nat.le_of_ble_eq_true rfl, Nat.le_of_ble_eq_true rfl⟩ hK hP hD hS hA hE [0, 4] rfl rfl 0 rfl rfl rfl rfl hl.1 rfl (Nat.le_of_ble_eq_true rfl) dX10_laysStands_29 ⟨Nat.le_of_ble_eq_true rfl, Nat.le_of_ble_eq_true rfl⟩) hP hD hS hA [0, 4] [1, 2, 3] rfl rfl rfl (by decide) (fun r_4 w H locs hw hP hD hS => ?_)
    obtain ⟨rfl, rfl⟩ := hw
    have hP : va_P V.1 vwCl [(z 24, aI V 10000 (fun _ => 0)), (z 25, aI V 40000 (fun _ => 0)), (z 28, aZ V 10000 (fun _ => 0)), (z 0, .inr (10, mo z 0 0 0 0 0 0 0 0 0 0 (-1) 0 0 0 0 0)), (z 1, aI V 3075 (fun _ => 0))] H := hP
    have hD : va_D A [(z 24, aI V 10000 (fun _ => 0)), (z 25, aI V 40000 (fun _ => 0)), (z 28, aZ V 10000 (fun _ => 0)), (z 0, .inr (10, mo z 0 0 0 0 0 0 0 0 0 0 (-1) 0 0 0 0 0)), (z 1, aI V 3075 (fun _ => 0))] := hD
    refine jnV (wr := [(z 25, aI V 40000 (fun _ => 0)), (z 1, aI V 3075 (fun _ => 0))]) (rnV (rest := []) ⟨hx, hb, hml, hown, hg⟩ (c_X10_adds_0 l V z) mt_X10_adds q_7_198 ⟨Nat.le_of_ble_eq_true rfl, Nat.le_of_ble_eq_true rfl⟩ hK hP hD hS hA hE [0, 2, 3] rfl rfl 3 rfl rfl rfl rfl hl.1 rfl (Nat.le_of_ble_eq_true rfl) dX10_laysStands_32 ⟨Nat.le_of_ble_eq_true rfl, Nat.le_of_ble_eq_true rfl⟩) hP hD hS hA [0, 2, 3] [1, 4] rfl rfl rfl (by decide) (fun  w H locs hw hP hD hS => ?_)
    subst hw
    have hP : va_P V.1 vwCl [(z 25, aI V 40000 (fun _ => 0)), (z 1, aI V 3075 (fun _ => 0)), (z 24, aI V 10000 (fun _ => 0)), (z 28, aZ V 10000 (upd (fun _ => 0) 0 1)), (z 0, .inr (10, mo z 0 0 0 0 0 0 0 0 0 0 (-1) 0 0 0 0 1))] H := hP
    have hD : va_D A [(z 25, aI V 40000 (fun _ => 0)), (z 1, aI V 3075 (fun _ => 0)), (z 24, aI V 10000 (fun _ => 0)), (z 28, aZ V 10000 (upd (fun _ => 0) 0 1)), (z 0, .inr (10, mo z 0 0 0 0 0 0 0 0 0 0 (-1) 0 0 0 0 1))] := hD
    refine lv_iconst (v := 0) hx hb dX10_laysStands_35 (by decide) ?_
    refine lv_istore_n (lv' := [(1, .int 0), (0, .ref (z 0))]) hx hb dX10_laysStands_36 rfl hl (by decide) rfl (fun ls hl => ?_)
    refine lv_iload_n hx hb dX10_laysStands_37 rfl (lv_at hl 0 rfl) ?_
    refine lv_aload_n hx hb dX10_laysStands_38 rfl (lv_at hl 1 rfl) ?_
    refine va_get (ci := 10) (v := .int 1) (C := RX10) (T := TX10) (N := 40) hx hb hg inX10 hown hK hP 4 rfl rfl 29 (by decide) (hg _ q_6_13) (fun _ h9 => h9) rfl dX10_laysStands_39 ?_
    refine lv_icmp_ge (tgt := 122) hx hb dX10_laysStands_42 (by decide) (fun c_5 => absurd c_5 (by decide)) (fun _ => ?_)
    refine lv_iconst (v := 0) hx hb dX10_laysStands_45 (by decide) ?_
    refine lv_istore_n (lv' := [(2, .int 0), (1, .int 0), (0, .ref (z 0))]) hx hb dX10_laysStands_46 rfl hl (by decide) rfl (fun ls hl => ?_)
    refine lv_iload_n hx hb dX10_laysStands_47 rfl (lv_at hl 0 rfl) ?_
    refine lv_iconst (v := 4) hx hb dX10_laysStands_48 (by decide) ?_
    refine lv_icmp_ge (tgt := 116) hx hb dX10_laysStands_49 (by decide) (fun c_6 => absurd c_6 (by decide)) (fun _ => ?_)
    refine lv_aload_n hx hb dX10_laysStands_52 rfl (lv_at hl 2 rfl) ?_
    refine lv_iload_n hx hb dX10_laysStands_53 rfl (lv_at hl 0 rfl) ?_
    refine lv_i2l (v := 0) hx hb dX10_laysStands_54 (by decide +kernel) ?_
    refine jnI (wr := [(z 25, aI V 40000 (fun _ => 0)), (z 1, aI V 3075 (fun _ => 0)), (z 24, aI V 10000 (fun _ => 0)), (z 28, aZ V 10000 (upd (fun _ => 0) 0 1)), (z 0, .inr (10, mo z 0 0 0 0 0 0 0 0 0 0 (-1) 0 0 0 0 1))]) (rnV (rest := []) ⟨hx, hb, hml, hown, hg⟩ (c_X10_isNight_1 l V z) mt_X10_isNight q_7_7 ⟨Nat.le_of_ble_eq_true rfl, Nat.le_of_ble_eq_true rfl⟩ hK hP hD hS hA hE [] rfl rfl 4 rfl rfl rfl rfl hl.1 rfl (Nat.le_of_ble_eq_true rfl) dX10_laysStands_55 ⟨Nat.le_of_ble_eq_true rfl, Nat.le_of_ble_eq_true rfl⟩) hP hD hS hA [] [0, 1, 2, 3, 4] rfl rfl rfl (by decide) (fun r_7 w H locs hw hP hD hS => ?_)
    obtain ⟨rfl, rfl⟩ := hw
    have hP : va_P V.1 vwCl [(z 25, aI V 40000 (fun _ => 0)), (z 1, aI V 3075 (fun _ => 0)), (z 24, aI V 10000 (fun _ => 0)), (z 28, aZ V 10000 (upd (fun _ => 0) 0 1)), (z 0, .inr (10, mo z 0 0 0 0 0 0 0 0 0 0 (-1) 0 0 0 0 1))] H := hP
    have hD : va_D A [(z 25, aI V 40000 (fun _ => 0)), (z 1, aI V 3075 (fun _ => 0)), (z 24, aI V 10000 (fun _ => 0)), (z 28, aZ V 10000 (upd (fun _ => 0) 0 1)), (z 0, .inr (10, mo z 0 0 0 0 0 0 0 0 0 0 (-1) 0 0 0 0 1))] := hD
    refine lv_if_eq (tgt := 82) hx hb dX10_laysStands_58 (by decide) (fun c_8 => absurd c_8 (by decide)) (fun _ => ?_)
    refine lv_aload_n hx hb dX10_laysStands_61 rfl (lv_at hl 2 rfl) ?_
    refine lv_aload_n hx hb dX10_laysStands_62 rfl (lv_at hl 2 rfl) ?_
    refine va_get (ci := 10) (v := .ref (z 24)) (C := RX10) (T := TX10) (N := 40) hx hb hg inX10 hown hK hP 4 rfl rfl 24 (by decide) (hg _ q_6_8) (fun _ h9 => h9) rfl dX10_laysStands_63 ?_
    refine lv_iload_n hx hb dX10_laysStands_66 rfl (lv_at hl 1 rfl) ?_
    refine va_iald hx hb hK hP 2 0 rfl rfl (vin (by decide +kernel)) dX10_laysStands_67 ?_
    refine tpi (y := 0) (rfl) ?_
    refine lv_iload_n hx hb dX10_laysStands_68 rfl (lv_at hl 0 rfl) ?_
    refine lv_aload_n hx hb dX10_laysStands_69 rfl (lv_at hl 2 rfl) ?_
    refine va_get (ci := 10) (v := .ref (z 1)) (C := RX10) (T := TX10) (N := 40) hx hb hg inX10 hown hK hP 4 rfl rfl 1 (by decide) (hg _ q_5_225) (fun _ h9 => h9) rfl dX10_laysStands_70 ?_
    refine lv_bipush (v := 51) hx hb dX10_laysStands_73 (by decide) ?_
    refine va_iald hx hb hK hP 1 0 rfl rfl (vin (by decide +kernel)) dX10_laysStands_75 ?_
    refine tpi (y := 0) (rfl) ?_
    refine jnI (wr := [(z 25, aI V 40000 (fun _ => 0)), (z 24, aI V 10000 (fun _ => 0)), (z 28, aZ V 10000 (upd (fun _ => 0) 0 1))]) (rnV (rest := []) ⟨hx, hb, hml, hown, hg⟩ (c_X10_nightTo_3 l V z) mt_X10_nightTo q_7_18 ⟨Nat.le_of_ble_eq_true rfl, Nat.le_of_ble_eq_true rfl⟩ hK hP hD hS hA hE [1, 4] rfl rfl 4 rfl rfl rfl rfl hl.1 rfl (Nat.le_of_ble_eq_true rfl) dX10_laysStands_76 ⟨Nat.le_of_ble_eq_true rfl, Nat.le_of_ble_eq_true rfl⟩) hP hD hS hA [1, 4] [0, 2, 3] rfl rfl rfl (by decide) (fun r_9 w H locs hw hP hD hS => ?_)
    obtain ⟨rfl, rfl⟩ := hw
    have hP : va_P V.1 vwCl [(z 25, aI V 40000 (fun _ => 0)), (z 24, aI V 10000 (fun _ => 0)), (z 28, aZ V 10000 (upd (fun _ => 0) 0 1)), (z 1, aI V 3075 (fun _ => 0)), (z 0, .inr (10, mo z 0 0 0 0 0 0 0 0 0 0 (-1) 0 0 0 0 1))] H := hP
    have hD : va_D A [(z 25, aI V 40000 (fun _ => 0)), (z 24, aI V 10000 (fun _ => 0)), (z 28, aZ V 10000 (upd (fun _ => 0) 0 1)), (z 1, aI V 3075 (fun _ => 0)), (z 0, .inr (10, mo z 0 0 0 0 0 0 0 0 0 0 (-1) 0 0 0 0 1))] := hD
    refine lv_goto (tgt := 83) hx hb dX10_laysStands_79 (by decide) ?_
    refine lv_istore_n (lv' := [(3, .int 0), (2, .int 0), (1, .int 0), (0, .ref (z 0))]) hx hb dX10_laysStands_83 rfl hl (by decide) rfl (fun ls hl => ?_)
    refine lv_aload_n hx hb dX10_laysStands_84 rfl (lv_at hl 3 rfl) ?_
    refine va_get (ci := 10) (v := .ref (z 25)) (C := RX10) (T := TX10) (N := 40) hx hb hg inX10 hown hK hP 4 rfl rfl 25 (by decide) (hg _ q_6_9) (fun _ h9 => h9) rfl dX10_laysStands_85 ?_
    refine lv_iconst (v := 4) hx hb dX10_laysStands_88 (by decide) ?_
    refine lv_aload_n hx hb dX10_laysStands_89 rfl (lv_at hl 3 rfl) ?_
    refine va_get (ci := 10) (v := .ref (z 24)) (C := RX10) (T := TX10) (N := 40) hx hb hg inX10 hown hK hP 4 rfl rfl 24 (by decide) (hg _ q_6_8) (fun _ h9 => h9) rfl dX10_laysStands_90 ?_
    refine lv_iload_n hx hb dX10_laysStands_93 rfl (lv_at hl 2 rfl) ?_
    refine va_iald hx hb hK hP 1 0 rfl rfl (vin (by decide +kernel)) dX10_laysStands_94 ?_
    refine tpi (y := 0) (rfl) ?_
    refine lv_imul hx hb dX10_laysStands_95 ?_
    refine tpi (y := 0) (by decide +kernel) ?_
    refine lv_iload_n hx hb dX10_laysStands_96 rfl (lv_at hl 1 rfl) ?_
    refine lv_iadd hx hb dX10_laysStands_97 ?_
    refine tpi (y := 0) (by decide +kernel) ?_
    refine lv_iload_n hx hb dX10_laysStands_98 rfl (lv_at hl 0 rfl) ?_
    refine va_iast hx hb hK hP hD hS 0 0 rfl rfl (vin (by decide +kernel)) dX10_laysStands_99 (fun H locs hP hD hS => ?_)
    have hP : va_P V.1 vwCl [(z 25, aI V 40000 (upd (fun _ => 0) 0 0)), (z 24, aI V 10000 (fun _ => 0)), (z 28, aZ V 10000 (upd (fun _ => 0) 0 1)), (z 1, aI V 3075 (fun _ => 0)), (z 0, .inr (10, mo z 0 0 0 0 0 0 0 0 0 0 (-1) 0 0 0 0 1))] H := hP
    have hD : va_D A [(z 25, aI V 40000 (upd (fun _ => 0) 0 0)), (z 24, aI V 10000 (fun _ => 0)), (z 28, aZ V 10000 (upd (fun _ => 0) 0 1)), (z 1, aI V 3075 (fun _ => 0)), (z 0, .inr (10, mo z 0 0 0 0 0 0 0 0 0 0 (-1) 0 0 0 0 1))] := hD
    have hP : va_P V.1 vwCl [(z 25, aI V 40000 (fun _ => 0)), (z 24, aI V 10000 (fun _ => 0)), (z 28, aZ V 10000 (upd (fun _ => 0) 0 1)), (z 1, aI V 3075 (fun _ => 0)), (z 0, .inr (10, mo z 0 0 0 0 0 0 0 0 0 0 (-1) 0 0 0 0 1))] H := by rw [upd0] at hP; exact hP
    have hD : va_D A [(z 25, aI V 40000 (fun _ => 0)), (z 24, aI V 10000 (fun _ => 0)), (z 28, aZ V 10000 (upd (fun _ => 0) 0 1)), (z 1, aI V 3075 (fun _ => 0)), (z 0, .inr (10, mo z 0 0 0 0 0 0 0 0 0 0 (-1) 0 0 0 0 1))] := by rw [upd0] at hD; exact hD
    refine lv_iload_n hx hb dX10_laysStands_100 rfl (lv_at hl 0 rfl) ?_
    refine lv_iconst (v := (-1)) hx hb dX10_laysStands_101 (by decide) ?_
    refine lv_icmp_eq (tgt := 110) hx hb dX10_laysStands_102 (by decide) (fun c_10 => absurd c_10 (by decide)) (fun _ => ?_)
    refine lv_aload_n hx hb dX10_laysStands_105 rfl (lv_at hl 3 rfl) ?_
    refine lv_iload_n hx hb dX10_laysStands_106 rfl (lv_at hl 0 rfl) ?_
    refine jnV (wr := [(z 25, aI V 40000 (fun _ => 0)), (z 24, aI V 10000 (fun _ => 0)), (z 1, aI V 3075 (fun _ => 0))]) (rnV (rest := []) ⟨hx, hb, hml, hown, hg⟩ (c_X10_adds_1 l V z) mt_X10_adds q_7_198 ⟨Nat.le_of_ble_eq_true rfl, Nat.le_of_ble_eq_true rfl⟩ hK hP hD hS hA hE [2, 4] rfl rfl 4 rfl rfl rfl rfl hl.1 rfl (Nat.le_of_ble_eq_true rfl) dX10_laysStands_107 ⟨Nat.le_of_ble_eq_true rfl, Nat.le_of_ble_eq_true rfl⟩) hP hD hS hA [2, 4] [0, 1, 3] rfl rfl rfl (by decide) (fun  w H locs hw hP hD hS => ?_)
    subst hw
    have hP : va_P V.1 vwCl [(z 25, aI V 40000 (fun _ => 0)), (z 24, aI V 10000 (fun _ => 0)), (z 1, aI V 3075 (fun _ => 0)), (z 28, aZ V 10000 (upd (fun _ => 0) 0 1)), (z 0, .inr (10, mo z 0 0 0 0 0 0 0 0 0 0 (-1) 0 0 0 0 1))] H := hP
    have hD : va_D A [(z 25, aI V 40000 (fun _ => 0)), (z 24, aI V 10000 (fun _ => 0)), (z 1, aI V 3075 (fun _ => 0)), (z 28, aZ V 10000 (upd (fun _ => 0) 0 1)), (z 0, .inr (10, mo z 0 0 0 0 0 0 0 0 0 0 (-1) 0 0 0 0 1))] := hD
    refine lv_iinc (v := 1) (lv' := [(2, .int 1), (3, .int 0), (1, .int 0), (0, .ref (z 0))]) hx hb dX10_laysStands_110 hl (k := 1) rfl (by decide +kernel) (by decide) rfl (fun ls hl => ?_)
    refine lv_goto (tgt := 47) hx hb dX10_laysStands_113 (by decide) ?_
    refine lv_iload_n hx hb dX10_laysStands_47 rfl (lv_at hl 0 rfl) ?_
    refine lv_iconst (v := 4) hx hb dX10_laysStands_48 (by decide) ?_
    refine lv_icmp_ge (tgt := 116) hx hb dX10_laysStands_49 (by decide) (fun c_11 => absurd c_11 (by decide)) (fun _ => ?_)
    refine lv_aload_n hx hb dX10_laysStands_52 rfl (lv_at hl 3 rfl) ?_
    refine lv_iload_n hx hb dX10_laysStands_53 rfl (lv_at hl 0 rfl) ?_
    refine lv_i2l (v := 1) hx hb dX10_laysStands_54 (by decide +kernel) ?_
    refine jnI (wr := [(z 25, aI V 40000 (fun _ => 0)), (z 24, aI V 10000 (fun _ => 0)), (z 28, aZ V 10000 (upd (fun _ => 0) 0 1))]) (rnV (rest := []) ⟨hx, hb, hml, hown, hg⟩ (c_X10_isNight_2 l V z) mt_X10_isNight q_7_7 ⟨Nat.le_of_ble_eq_true rfl, Nat.le_of_ble_eq_true rfl⟩ hK hP hD hS hA hE [2, 4] rfl rfl 4 rfl rfl rfl rfl hl.1 rfl (Nat.le_of_ble_eq_true rfl) dX10_laysStands_55 ⟨Nat.le_of_ble_eq_true rfl, Nat.le_of_ble_eq_true rfl⟩) hP hD hS hA [2, 4] [0, 1, 3] rfl rfl rfl (by decide) (fun r_12 w H locs hw hP hD hS => ?_)
    obtain ⟨rfl, rfl⟩ := hw
    have hP : va_P V.1 vwCl [(z 25, aI V 40000 (fun _ => 0)), (z 24, aI V 10000 (fun _ => 0)), (z 28, aZ V 10000 (upd (fun _ => 0) 0 1)), (z 1, aI V 3075 (fun _ => 0)), (z 0, .inr (10, mo z 0 0 0 0 0 0 0 0 0 0 (-1) 0 0 0 0 1))] H := hP
    have hD : va_D A [(z 25, aI V 40000 (fun _ => 0)), (z 24, aI V 10000 (fun _ => 0)), (z 28, aZ V 10000 (upd (fun _ => 0) 0 1)), (z 1, aI V 3075 (fun _ => 0)), (z 0, .inr (10, mo z 0 0 0 0 0 0 0 0 0 0 (-1) 0 0 0 0 1))] := hD
    refine lv_if_eq (tgt := 82) hx hb dX10_laysStands_58 (by decide) (fun _ => ?_) (fun c_13 => absurd c_13 (by decide))
    refine lv_iconst (v := (-1)) hx hb dX10_laysStands_82 (by decide) ?_
    refine lv_istore_n (lv' := [(3, .int (-1)), (2, .int 1), (1, .int 0), (0, .ref (z 0))]) hx hb dX10_laysStands_83 rfl hl (by decide) rfl (fun ls hl => ?_)
    refine lv_aload_n hx hb dX10_laysStands_84 rfl (lv_at hl 3 rfl) ?_
    refine va_get (ci := 10) (v := .ref (z 25)) (C := RX10) (T := TX10) (N := 40) hx hb hg inX10 hown hK hP 4 rfl rfl 25 (by decide) (hg _ q_6_9) (fun _ h9 => h9) rfl dX10_laysStands_85 ?_
    refine lv_iconst (v := 4) hx hb dX10_laysStands_88 (by decide) ?_
    refine lv_aload_n hx hb dX10_laysStands_89 rfl (lv_at hl 3 rfl) ?_
    refine va_get (ci := 10) (v := .ref (z 24)) (C := RX10) (T := TX10) (N := 40) hx hb hg inX10 hown hK hP 4 rfl rfl 24 (by decide) (hg _ q_6_8) (fun _ h9 => h9) rfl dX10_laysStands_90 ?_
    refine lv_iload_n hx hb dX10_laysStands_93 rfl (lv_at hl 2 rfl) ?_
    refine va_iald hx hb hK hP 1 0 rfl rfl (vin (by decide +kernel)) dX10_laysStands_94 ?_
    refine tpi (y := 0) (rfl) ?_
    refine lv_imul hx hb dX10_laysStands_95 ?_
    refine tpi (y := 0) (by decide +kernel) ?_
    refine lv_iload_n hx hb dX10_laysStands_96 rfl (lv_at hl 1 rfl) ?_
    refine lv_iadd hx hb dX10_laysStands_97 ?_
    refine tpi (y := 1) (by decide +kernel) ?_
    refine lv_iload_n hx hb dX10_laysStands_98 rfl (lv_at hl 0 rfl) ?_
    refine va_iast hx hb hK hP hD hS 0 0 rfl rfl (vin (by decide +kernel)) dX10_laysStands_99 (fun H locs hP hD hS => ?_)
    have hP : va_P V.1 vwCl [(z 25, aI V 40000 (upd (fun _ => 0) 1 (-1))), (z 24, aI V 10000 (fun _ => 0)), (z 28, aZ V 10000 (upd (fun _ => 0) 0 1)), (z 1, aI V 3075 (fun _ => 0)), (z 0, .inr (10, mo z 0 0 0 0 0 0 0 0 0 0 (-1) 0 0 0 0 1))] H := hP
    have hD : va_D A [(z 25, aI V 40000 (upd (fun _ => 0) 1 (-1))), (z 24, aI V 10000 (fun _ => 0)), (z 28, aZ V 10000 (upd (fun _ => 0) 0 1)), (z 1, aI V 3075 (fun _ => 0)), (z 0, .inr (10, mo z 0 0 0 0 0 0 0 0 0 0 (-1) 0 0 0 0 1))] := hD
    refine lv_iload_n hx hb dX10_laysStands_100 rfl (lv_at hl 0 rfl) ?_
    refine lv_iconst (v := (-1)) hx hb dX10_laysStands_101 (by decide) ?_
    refine lv_icmp_eq (tgt := 110) hx hb dX10_laysStands_102 (by decide) (fun _ => ?_) (fun c_14 => absurd c_14 (by decide))
    refine lv_iinc (v := 2) (lv' := [(2, .int 2), (3, .int (-1)), (1, .int 0), (0, .ref (z 0))]) hx hb dX10_laysStands_110 hl (k := 1) rfl (by decide +kernel) (by decide) rfl (fun ls hl => ?_)
    refine lv_goto (tgt := 47) hx hb dX10_laysStands_113 (by decide) ?_
    refine lv_iload_n hx hb dX10_laysStands_47 rfl (lv_at hl 0 rfl) ?_
    refine lv_iconst (v := 4) hx hb dX10_laysStands_48 (by decide) ?_
    refine lv_icmp_ge (tgt := 116) hx hb dX10_laysStands_49 (by decide) (fun c_15 => absurd c_15 (by decide)) (fun _ => ?_)
    refine lv_aload_n hx hb dX10_laysStands_52 rfl (lv_at hl 3 rfl) ?_
    refine lv_iload_n hx hb dX10_laysStands_53 rfl (lv_at hl 0 rfl) ?_
    refine lv_i2l (v := 2) hx hb dX10_laysStands_54 (by decide +kernel) ?_
    refine jnI (wr := [(z 25, aI V 40000 (upd (fun _ => 0) 1 (-1))), (z 24, aI V 10000 (fun _ => 0)), (z 28, aZ V 10000 (upd (fun _ => 0) 0 1))]) (rnV (rest := []) ⟨hx, hb, hml, hown, hg⟩ (c_X10_isNight_3 l V z) mt_X10_isNight q_7_7 ⟨Nat.le_of_ble_eq_true rfl, Nat.le_of_ble_eq_true rfl⟩ hK hP hD hS hA hE [3, 4] rfl rfl 4 rfl rfl rfl rfl hl.1 rfl (Nat.le_of_ble_eq_true rfl) dX10_laysStands_55 ⟨Nat.le_of_ble_eq_true rfl, Nat.le_of_ble_eq_true rfl⟩) hP hD hS hA [3, 4] [0, 1, 2] rfl rfl rfl (by decide) (fun r_16 w H locs hw hP hD hS => ?_)
    obtain ⟨rfl, rfl⟩ := hw
    have hP : va_P V.1 vwCl [(z 25, aI V 40000 (upd (fun _ => 0) 1 (-1))), (z 24, aI V 10000 (fun _ => 0)), (z 28, aZ V 10000 (upd (fun _ => 0) 0 1)), (z 1, aI V 3075 (fun _ => 0)), (z 0, .inr (10, mo z 0 0 0 0 0 0 0 0 0 0 (-1) 0 0 0 0 1))] H := hP
    have hD : va_D A [(z 25, aI V 40000 (upd (fun _ => 0) 1 (-1))), (z 24, aI V 10000 (fun _ => 0)), (z 28, aZ V 10000 (upd (fun _ => 0) 0 1)), (z 1, aI V 3075 (fun _ => 0)), (z 0, .inr (10, mo z 0 0 0 0 0 0 0 0 0 0 (-1) 0 0 0 0 1))] := hD
    refine lv_if_eq (tgt := 82) hx hb dX10_laysStands_58 (by decide) (fun _ => ?_) (fun c_17 => absurd c_17 (by decide))
    refine lv_iconst (v := (-1)) hx hb dX10_laysStands_82 (by decide) ?_
    refine lv_istore_n (lv' := [(3, .int (-1)), (2, .int 2), (1, .int 0), (0, .ref (z 0))]) hx hb dX10_laysStands_83 rfl hl (by decide) rfl (fun ls hl => ?_)
    refine lv_aload_n hx hb dX10_laysStands_84 rfl (lv_at hl 3 rfl) ?_
    refine va_get (ci := 10) (v := .ref (z 25)) (C := RX10) (T := TX10) (N := 40) hx hb hg inX10 hown hK hP 4 rfl rfl 25 (by decide) (hg _ q_6_9) (fun _ h9 => h9) rfl dX10_laysStands_85 ?_
    refine lv_iconst (v := 4) hx hb dX10_laysStands_88 (by decide) ?_
    refine lv_aload_n hx hb dX10_laysStands_89 rfl (lv_at hl 3 rfl) ?_
    refine va_get (ci := 10) (v := .ref (z 24)) (C := RX10) (T := TX10) (N := 40) hx hb hg inX10 hown hK hP 4 rfl rfl 24 (by decide) (hg _ q_6_8) (fun _ h9 => h9) rfl dX10_laysStands_90 ?_
    refine lv_iload_n hx hb dX10_laysStands_93 rfl (lv_at hl 2 rfl) ?_
    refine va_iald hx hb hK hP 1 0 rfl rfl (vin (by decide +kernel)) dX10_laysStands_94 ?_
    refine tpi (y := 0) (rfl) ?_
    refine lv_imul hx hb dX10_laysStands_95 ?_
    refine tpi (y := 0) (by decide +kernel) ?_
    refine lv_iload_n hx hb dX10_laysStands_96 rfl (lv_at hl 1 rfl) ?_
    refine lv_iadd hx hb dX10_laysStands_97 ?_
    refine tpi (y := 2) (by decide +kernel) ?_
    refine lv_iload_n hx hb dX10_laysStands_98 rfl (lv_at hl 0 rfl) ?_
    refine va_iast hx hb hK hP hD hS 0 0 rfl rfl (vin (by decide +kernel)) dX10_laysStands_99 (fun H locs hP hD hS => ?_)
    have hP : va_P V.1 vwCl [(z 25, aI V 40000 (upd (upd (fun _ => 0) 1 (-1)) 2 (-1))), (z 24, aI V 10000 (fun _ => 0)), (z 28, aZ V 10000 (upd (fun _ => 0) 0 1)), (z 1, aI V 3075 (fun _ => 0)), (z 0, .inr (10, mo z 0 0 0 0 0 0 0 0 0 0 (-1) 0 0 0 0 1))] H := hP
    have hD : va_D A [(z 25, aI V 40000 (upd (upd (fun _ => 0) 1 (-1)) 2 (-1))), (z 24, aI V 10000 (fun _ => 0)), (z 28, aZ V 10000 (upd (fun _ => 0) 0 1)), (z 1, aI V 3075 (fun _ => 0)), (z 0, .inr (10, mo z 0 0 0 0 0 0 0 0 0 0 (-1) 0 0 0 0 1))] := hD
    refine lv_iload_n hx hb dX10_laysStands_100 rfl (lv_at hl 0 rfl) ?_
    refine lv_iconst (v := (-1)) hx hb dX10_laysStands_101 (by decide) ?_
    refine lv_icmp_eq (tgt := 110) hx hb dX10_laysStands_102 (by decide) (fun _ => ?_) (fun c_18 => absurd c_18 (by decide))
    refine lv_iinc (v := 3) (lv' := [(2, .int 3), (3, .int (-1)), (1, .int 0), (0, .ref (z 0))]) hx hb dX10_laysStands_110 hl (k := 1) rfl (by decide +kernel) (by decide) rfl (fun ls hl => ?_)
    refine lv_goto (tgt := 47) hx hb dX10_laysStands_113 (by decide) ?_
    refine lv_iload_n hx hb dX10_laysStands_47 rfl (lv_at hl 0 rfl) ?_
    refine lv_iconst (v := 4) hx hb dX10_laysStands_48 (by decide) ?_
    refine lv_icmp_ge (tgt := 116) hx hb dX10_laysStands_49 (by decide) (fun c_19 => absurd c_19 (by decide)) (fun _ => ?_)
    refine lv_aload_n hx hb dX10_laysStands_52 rfl (lv_at hl 3 rfl) ?_
    refine lv_iload_n hx hb dX10_laysStands_53 rfl (lv_at hl 0 rfl) ?_
    refine lv_i2l (v := 3) hx hb dX10_laysStands_54 (by decide +kernel) ?_
    refine jnI (wr := [(z 25, aI V 40000 (upd (upd (fun _ => 0) 1 (-1)) 2 (-1))), (z 24, aI V 10000 (fun _ => 0)), (z 28, aZ V 10000 (upd (fun _ => 0) 0 1))]) (rnV (rest := []) ⟨hx, hb, hml, hown, hg⟩ (c_X10_isNight_4 l V z) mt_X10_isNight q_7_7 ⟨Nat.le_of_ble_eq_true rfl, Nat.le_of_ble_eq_true rfl⟩ hK hP hD hS hA hE [3, 4] rfl rfl 4 rfl rfl rfl rfl hl.1 rfl (Nat.le_of_ble_eq_true rfl) dX10_laysStands_55 ⟨Nat.le_of_ble_eq_true rfl, Nat.le_of_ble_eq_true rfl⟩) hP hD hS hA [3, 4] [0, 1, 2] rfl rfl rfl (by decide) (fun r_20 w H locs hw hP hD hS => ?_)
    obtain ⟨rfl, rfl⟩ := hw
    have hP : va_P V.1 vwCl [(z 25, aI V 40000 (upd (upd (fun _ => 0) 1 (-1)) 2 (-1))), (z 24, aI V 10000 (fun _ => 0)), (z 28, aZ V 10000 (upd (fun _ => 0) 0 1)), (z 1, aI V 3075 (fun _ => 0)), (z 0, .inr (10, mo z 0 0 0 0 0 0 0 0 0 0 (-1) 0 0 0 0 1))] H := hP
    have hD : va_D A [(z 25, aI V 40000 (upd (upd (fun _ => 0) 1 (-1)) 2 (-1))), (z 24, aI V 10000 (fun _ => 0)), (z 28, aZ V 10000 (upd (fun _ => 0) 0 1)), (z 1, aI V 3075 (fun _ => 0)), (z 0, .inr (10, mo z 0 0 0 0 0 0 0 0 0 0 (-1) 0 0 0 0 1))] := hD
    refine lv_if_eq (tgt := 82) hx hb dX10_laysStands_58 (by decide) (fun _ => ?_) (fun c_21 => absurd c_21 (by decide))
    refine lv_iconst (v := (-1)) hx hb dX10_laysStands_82 (by decide) ?_
    refine lv_istore_n (lv' := [(3, .int (-1)), (2, .int 3), (1, .int 0), (0, .ref (z 0))]) hx hb dX10_laysStands_83 rfl hl (by decide) rfl (fun ls hl => ?_)
    refine lv_aload_n hx hb dX10_laysStands_84 rfl (lv_at hl 3 rfl) ?_
    refine va_get (ci := 10) (v := .ref (z 25)) (C := RX10) (T := TX10) (N := 40) hx hb hg inX10 hown hK hP 4 rfl rfl 25 (by decide) (hg _ q_6_9) (fun _ h9 => h9) rfl dX10_laysStands_85 ?_
    refine lv_iconst (v := 4) hx hb dX10_laysStands_88 (by decide) ?_
    refine lv_aload_n hx hb dX10_laysStands_89 rfl (lv_at hl 3 rfl) ?_
    refine va_get (ci := 10) (v := .ref (z 24)) (C := RX10) (T := TX10) (N := 40) hx hb hg inX10 hown hK hP 4 rfl rfl 24 (by decide) (hg _ q_6_8) (fun _ h9 => h9) rfl dX10_laysStands_90 ?_
    refine lv_iload_n hx hb dX10_laysStands_93 rfl (lv_at hl 2 rfl) ?_
    refine va_iald hx hb hK hP 1 0 rfl rfl (vin (by decide +kernel)) dX10_laysStands_94 ?_
    refine tpi (y := 0) (rfl) ?_
    refine lv_imul hx hb dX10_laysStands_95 ?_
    refine tpi (y := 0) (by decide +kernel) ?_
    refine lv_iload_n hx hb dX10_laysStands_96 rfl (lv_at hl 1 rfl) ?_
    refine lv_iadd hx hb dX10_laysStands_97 ?_
    refine tpi (y := 3) (by decide +kernel) ?_
    refine lv_iload_n hx hb dX10_laysStands_98 rfl (lv_at hl 0 rfl) ?_
    refine va_iast hx hb hK hP hD hS 0 0 rfl rfl (vin (by decide +kernel)) dX10_laysStands_99 (fun H locs hP hD hS => ?_)
    have hP : va_P V.1 vwCl [(z 25, aI V 40000 (upd (upd (upd (fun _ => 0) 1 (-1)) 2 (-1)) 3 (-1))), (z 24, aI V 10000 (fun _ => 0)), (z 28, aZ V 10000 (upd (fun _ => 0) 0 1)), (z 1, aI V 3075 (fun _ => 0)), (z 0, .inr (10, mo z 0 0 0 0 0 0 0 0 0 0 (-1) 0 0 0 0 1))] H := hP
    have hD : va_D A [(z 25, aI V 40000 (upd (upd (upd (fun _ => 0) 1 (-1)) 2 (-1)) 3 (-1))), (z 24, aI V 10000 (fun _ => 0)), (z 28, aZ V 10000 (upd (fun _ => 0) 0 1)), (z 1, aI V 3075 (fun _ => 0)), (z 0, .inr (10, mo z 0 0 0 0 0 0 0 0 0 0 (-1) 0 0 0 0 1))] := hD
    refine lv_iload_n hx hb dX10_laysStands_100 rfl (lv_at hl 0 rfl) ?_
    refine lv_iconst (v := (-1)) hx hb dX10_laysStands_101 (by decide) ?_
    refine lv_icmp_eq (tgt := 110) hx hb dX10_laysStands_102 (by decide) (fun _ => ?_) (fun c_22 => absurd c_22 (by decide))
    refine lv_iinc (v := 4) (lv' := [(2, .int 4), (3, .int (-1)), (1, .int 0), (0, .ref (z 0))]) hx hb dX10_laysStands_110 hl (k := 1) rfl (by decide +kernel) (by decide) rfl (fun ls hl => ?_)
    refine lv_goto (tgt := 47) hx hb dX10_laysStands_113 (by decide) ?_
    refine lv_iload_n hx hb dX10_laysStands_47 rfl (lv_at hl 0 rfl) ?_
    refine lv_iconst (v := 4) hx hb dX10_laysStands_48 (by decide) ?_
    refine lv_icmp_ge (tgt := 116) hx hb dX10_laysStands_49 (by decide) (fun _ => ?_) (fun c_23 => absurd c_23 (by decide))
    refine lv_iinc (v := 1) (lv' := [(1, .int 1), (2, .int 4), (3, .int (-1)), (0, .ref (z 0))]) hx hb dX10_laysStands_116 hl (k := 2) rfl (by decide +kernel) (by decide) rfl (fun ls hl => ?_)
    refine lv_goto (tgt := 37) hx hb dX10_laysStands_119 (by decide) ?_
    refine lv_iload_n hx hb dX10_laysStands_37 rfl (lv_at hl 0 rfl) ?_
    refine lv_aload_n hx hb dX10_laysStands_38 rfl (lv_at hl 3 rfl) ?_
    refine va_get (ci := 10) (v := .int 1) (C := RX10) (T := TX10) (N := 40) hx hb hg inX10 hown hK hP 4 rfl rfl 29 (by decide) (hg _ q_6_13) (fun _ h9 => h9) rfl dX10_laysStands_39 ?_
    refine lv_icmp_ge (tgt := 122) hx hb dX10_laysStands_42 (by decide) (fun _ => ?_) (fun c_24 => absurd c_24 (by decide))
    have hP := subP (ws' := [(z 0, .inr (10, mo z 0 0 0 0 0 0 0 0 0 0 (-1) 0 0 0 0 1)), (z 24, aI V 10000 (fun _ => 0)), (z 25, aI V 40000 (upd (upd (upd (fun _ => 0) 1 (-1)) 2 (-1)) 3 (-1))), (z 28, aZ V 10000 (upd (fun _ => 0) 0 1)), (z 1, aI V 3075 (fun _ => 0))]) hP [4, 1, 0, 2, 3] rfl
    have hD := hD.sub (ws' := [(z 0, .inr (10, mo z 0 0 0 0 0 0 0 0 0 0 (-1) 0 0 0 0 1)), (z 24, aI V 10000 (fun _ => 0)), (z 25, aI V 40000 (upd (upd (upd (fun _ => 0) 1 (-1)) 2 (-1)) 3 (-1))), (z 28, aZ V 10000 (upd (fun _ => 0) 0 1)), (z 1, aI V 3075 (fun _ => 0))]) [4, 1, 0, 2, 3] rfl rfl
    exact fiV hx hb hr hlk hK hP hD hS dX10_laysStands_122 (Nat.le_of_ble_eq_true rfl) (Nat.le_of_ble_eq_true rfl) (rfl)
  · have e_3 : i_1 < 10000 := by rcases Nat.lt_or_ge i_1 10000 with q9 | q9; exact q9; exact absurd (nI_le q9 (by omega)) c_2
    refine lv_aload_n hx hb dX10_laysStands_9 rfl (lv_at hl 1 rfl) ?_
    refine va_get (ci := 10) (v := .ref (z 28)) (C := RX10) (T := TX10) (N := 40) hx hb hg inX10 hown hK hP 0 rfl rfl 28 (by decide) (hg _ q_6_12) (fun _ h9 => h9) rfl dX10_laysStands_10 ?_
    refine lv_iload_n hx hb dX10_laysStands_13 rfl (lv_at hl 0 rfl) ?_
    refine lv_iconst (v := 0) hx hb dX10_laysStands_14 (by decide) ?_
    refine va_zast hx hb hK hP hD hS 3 3 rfl rfl (vp_in_nI (by omega) (by decide)) dX10_laysStands_15 (fun H locs hP hD hS => ?_)
    have hP : va_P V.1 vwCl [(z 0, .inr (10, mo z 0 0 0 0 0 0 0 0 0 0 (-1) 0 0 0 0 0)), (z 24, aI V 10000 (fun _ => 0)), (z 25, aI V 40000 (fun _ => 0)), (z 28, aZ V 10000 (upd (fun _ => 0) (nI i_1).toNatClampNeg 0)), (z 1, aI V 3075 (fun _ => 0))] H := hP
    have hD : va_D A [(z 0, .inr (10, mo z 0 0 0 0 0 0 0 0 0 0 (-1) 0 0 0 0 0)), (z 24, aI V 10000 (fun _ => 0)), (z 25, aI V 40000 (fun _ => 0)), (z 28, aZ V 10000 (upd (fun _ => 0) (nI i_1).toNatClampNeg 0)), (z 1, aI V 3075 (fun _ => 0))] := hD
    have hP : va_P V.1 vwCl [(z 0, .inr (10, mo z 0 0 0 0 0 0 0 0 0 0 (-1) 0 0 0 0 0)), (z 24, aI V 10000 (fun _ => 0)), (z 25, aI V 40000 (fun _ => 0)), (z 28, aZ V 10000 (fun _ => 0)), (z 1, aI V 3075 (fun _ => 0))] H := by rw [upd0] at hP; exact hP
    have hD : va_D A [(z 0, .inr (10, mo z 0 0 0 0 0 0 0 0 0 0 (-1) 0 0 0 0 0)), (z 24, aI V 10000 (fun _ => 0)), (z 25, aI V 40000 (fun _ => 0)), (z 28, aZ V 10000 (fun _ => 0)), (z 1, aI V 3075 (fun _ => 0))] := by rw [upd0] at hD; exact hD
    refine lv_iinc (v := nI (i_1 + 1)) (lv' := [(1, .int (nI (i_1 + 1))), (0, .ref (z 0))]) hx hb dX10_laysStands_16 hl (k := 0) rfl (nI_add i_1 1) (by decide) rfl (fun ls hl => ?_)
    refine lv_goto (tgt := 2) hx hb dX10_laysStands_19 (by decide) ?_
    exact ih_i_1 e_3 _ _ _ ⟨(by omega), hP, hD, hS, lv_sub hl [0, 1] rfl⟩
theorem dX10_leastIn_0 : decode cX10_leastIn 0 = .ok (.iconst 4, 1) := by decide +kernel
theorem dX10_leastIn_1 : decode cX10_leastIn 1 = .ok (.istore_n 2, 1) := by decide +kernel
theorem dX10_leastIn_2 : decode cX10_leastIn 2 = .ok (.iconst 0, 1) := by decide +kernel
theorem dX10_leastIn_3 : decode cX10_leastIn 3 = .ok (.istore_n 3, 1) := by decide +kernel
theorem dX10_leastIn_4 : decode cX10_leastIn 4 = .ok (.iload_n 3, 1) := by decide +kernel
theorem dX10_leastIn_5 : decode cX10_leastIn 5 = .ok (.aload_n 0, 1) := by decide +kernel
theorem dX10_leastIn_6 : decode cX10_leastIn 6 = .ok (.getfield 13, 3) := by decide +kernel
theorem dX10_leastIn_9 : decode cX10_leastIn 9 = .ok (.iconst 1, 1) := by decide +kernel
theorem dX10_leastIn_10 : decode cX10_leastIn 10 = .ok (.iaload, 1) := by decide +kernel
theorem dX10_leastIn_11 : decode cX10_leastIn 11 = .ok (.if_icmp .ge 28, 3) := by decide +kernel
theorem dX10_leastIn_39 : decode cX10_leastIn 39 = .ok (.iload_n 2, 1) := by decide +kernel
theorem dX10_leastIn_40 : decode cX10_leastIn 40 = .ok (.ireturn, 1) := by decide +kernel
set_option maxHeartbeats 4000000 in
set_option maxRecDepth 100000 in
theorem c_X10_leastIn_0 (l : Launch) (V : GV) (z : Nat → Nat) : Ct l V yX10_leastIn (.code yX10_leastIn cX10_leastIn 4 (some .int)) 1 [.ref (z 0), .int 0] [(z 0, .inr (10, mo z 0 0 0 0 0 0 0 0 0 0 (-1) 0 0 0 0 1)), (z 1, aI V 3075 (fun _ => 0))] 0 0 (QI V (fun (r : Int32) (w : va_W) => (r = 4 ∧ w = [(z 0, .inr (10, mo z 0 0 0 0 0 0 0 0 0 0 (-1) 0 0 0 0 1)), (z 1, aI V 3075 (fun _ => 0))]))) := by
  refine Ct.of (by decide) (Nat.le_of_ble_eq_true rfl) (fun p e s m below meth c A ls hx hb hr hml hown hlk hnm hg hP hK hD hE hA hS hl => ?_)
  have hl : lv_has ls 4 [(0, .ref (z 0)), (1, .int 0)] := hl
  refine lv_iconst (v := 4) hx hb dX10_leastIn_0 (by decide) ?_
  refine lv_istore_n (lv' := [(2, .int 4), (0, .ref (z 0)), (1, .int 0)]) hx hb dX10_leastIn_1 rfl hl (by decide) rfl (fun ls hl => ?_)
  refine lv_iconst (v := 0) hx hb dX10_leastIn_2 (by decide) ?_
  refine lv_istore_n (lv' := [(3, .int 0), (2, .int 4), (0, .ref (z 0)), (1, .int 0)]) hx hb dX10_leastIn_3 rfl hl (by decide) rfl (fun ls hl => ?_)
  refine lv_iload_n hx hb dX10_leastIn_4 rfl (lv_at hl 0 rfl) ?_
  refine lv_aload_n hx hb dX10_leastIn_5 rfl (lv_at hl 2 rfl) ?_
  refine va_get (ci := 10) (v := .ref (z 1)) (C := RX10) (T := TX10) (N := 40) hx hb hg inX10 hown hK hP 0 rfl rfl 1 (by decide) (hg _ q_5_225) (fun _ h9 => h9) rfl dX10_leastIn_6 ?_
  refine lv_iconst (v := 1) hx hb dX10_leastIn_9 (by decide) ?_
  refine va_iald hx hb hK hP 1 0 rfl rfl (vin (by decide +kernel)) dX10_leastIn_10 ?_
  refine tpi (y := 0) (rfl) ?_
  refine lv_icmp_ge (tgt := 39) hx hb dX10_leastIn_11 (by decide) (fun _ => ?_) (fun c_1 => absurd c_1 (by decide))
  refine lv_iload_n hx hb dX10_leastIn_39 rfl (lv_at hl 1 rfl) ?_
  exact fiI hx hb hr hlk hK hP hD hS dX10_leastIn_40 (Nat.le_of_ble_eq_true rfl) (Nat.le_of_ble_eq_true rfl) (⟨rfl, rfl⟩)
theorem dX10_keptBy_0 : decode cX10_keptBy 0 = .ok (.aload_n 0, 1) := by decide +kernel
theorem dX10_keptBy_1 : decode cX10_keptBy 1 = .ok (.getfield 49, 3) := by decide +kernel
theorem dX10_keptBy_4 : decode cX10_keptBy 4 = .ok (.iconst 4, 1) := by decide +kernel
theorem dX10_keptBy_5 : decode cX10_keptBy 5 = .ok (.iload_n 1, 1) := by decide +kernel
theorem dX10_keptBy_6 : decode cX10_keptBy 6 = .ok (.imul, 1) := by decide +kernel
theorem dX10_keptBy_7 : decode cX10_keptBy 7 = .ok (.iload_n 2, 1) := by decide +kernel
theorem dX10_keptBy_8 : decode cX10_keptBy 8 = .ok (.iadd, 1) := by decide +kernel
theorem dX10_keptBy_9 : decode cX10_keptBy 9 = .ok (.iaload, 1) := by decide +kernel
theorem dX10_keptBy_10 : decode cX10_keptBy 10 = .ok (.istore 4, 2) := by decide +kernel
theorem dX10_keptBy_12 : decode cX10_keptBy 12 = .ok (.iload 4, 2) := by decide +kernel
theorem dX10_keptBy_14 : decode cX10_keptBy 14 = .ok (.iconst (-1), 1) := by decide +kernel
theorem dX10_keptBy_15 : decode cX10_keptBy 15 = .ok (.if_icmp .eq 13, 3) := by decide +kernel
theorem dX10_keptBy_18 : decode cX10_keptBy 18 = .ok (.aload_n 0, 1) := by decide +kernel
theorem dX10_keptBy_19 : decode cX10_keptBy 19 = .ok (.iload 4, 2) := by decide +kernel
theorem q_8_3 : Cond.code yX10_leastIn prog_12_method_42_code 4 (some FieldType.int) ∈ gw := gw_8 (i := 3) (rfl) rfl
theorem q_8_2 : Cond.instanceMethod yX10_leastIn ∈ gw := gw_8 (i := 2) (by decide +kernel) rfl
theorem q_s_112 : Cond.selects "BeaconDelayModel" yX10_leastIn yX10_leastIn ∈ gw := gw_s (i := 112) (by decide +kernel) rfl
theorem mt_X10_leastIn : MtV yX10_leastIn cX10_leastIn 4 (some .int) 1 := ⟨⟨q_8_3, q_1_9, by decide +kernel, by decide +kernel, by decide +kernel⟩, q_8_2, q_s_112⟩
theorem q_8_0 : Cond.methodLink "BeaconDelayModel" 396 yX10_leastIn ∈ gw := gw_8 (i := 0) (by decide +kernel) rfl
theorem dX10_keptBy_21 : decode cX10_keptBy 21 = .ok (.invokevirtual 396, 3) := by decide +kernel
theorem dX10_keptBy_24 : decode cX10_keptBy 24 = .ok (.iload_n 3, 1) := by decide +kernel
theorem dX10_keptBy_25 : decode cX10_keptBy 25 = .ok (.if_icmp .ge 7, 3) := by decide +kernel
theorem dX10_keptBy_32 : decode cX10_keptBy 32 = .ok (.aload_n 0, 1) := by decide +kernel
theorem dX10_keptBy_33 : decode cX10_keptBy 33 = .ok (.getfield 52, 3) := by decide +kernel
theorem dX10_keptBy_36 : decode cX10_keptBy 36 = .ok (.iload 4, 2) := by decide +kernel
theorem dX10_keptBy_38 : decode cX10_keptBy 38 = .ok (.iaload, 1) := by decide +kernel
theorem q_7_202 : Cond.constant "BeaconDelayModel" 361 (268435456 : Int32) ∈ gw := gw_7 (i := 202) (by decide +kernel) rfl
theorem dX10_keptBy_39 : decode cX10_keptBy 39 = .ok (.ldc_w 361, 3) := by decide +kernel
theorem dX10_keptBy_42 : decode cX10_keptBy 42 = .ok (.if_icmp .ne 9, 3) := by decide +kernel
theorem dX10_keptBy_45 : decode cX10_keptBy 45 = .ok (.ldc_w 361, 3) := by decide +kernel
theorem dX10_keptBy_48 : decode cX10_keptBy 48 = .ok (.goto 12, 3) := by decide +kernel
theorem dX10_keptBy_60 : decode cX10_keptBy 60 = .ok (.ireturn, 1) := by decide +kernel
theorem dX10_keptBy_28 : decode cX10_keptBy 28 = .ok (.iconst (-1), 1) := by decide +kernel
theorem dX10_keptBy_29 : decode cX10_keptBy 29 = .ok (.goto 31, 3) := by decide +kernel
set_option maxHeartbeats 4000000 in
set_option maxRecDepth 100000 in
theorem c_X10_keptBy_0 (l : Launch) (V : GV) (z : Nat → Nat) (p0 : Int32) : Ct l V yX10_keptBy (.code yX10_keptBy cX10_keptBy 5 (some .int)) 2 [.ref (z 0), .int 0, .int 0, .int p0] [(z 26, aI V 10000 (upd (fun _ => 0) 0 268435456)), (z 0, .inr (10, mo z 0 0 0 0 0 0 0 0 0 0 (-1) 0 0 0 0 1)), (z 25, aI V 40000 (upd (upd (upd (fun _ => 0) 1 (-1)) 2 (-1)) 3 (-1))), (z 1, aI V 3075 (fun _ => 0))] 0 0 (QI V (fun (r : Int32) (w : va_W) => (p0 ≤ 4 ∧ r = 268435456 ∧ w = [(z 26, aI V 10000 (upd (fun _ => 0) 0 268435456)), (z 0, .inr (10, mo z 0 0 0 0 0 0 0 0 0 0 (-1) 0 0 0 0 1)), (z 25, aI V 40000 (upd (upd (upd (fun _ => 0) 1 (-1)) 2 (-1)) 3 (-1))), (z 1, aI V 3075 (fun _ => 0))]) ∨ ((¬ p0 ≤ 4) ∧ r = (-1) ∧ w = [(z 26, aI V 10000 (upd (fun _ => 0) 0 268435456)), (z 0, .inr (10, mo z 0 0 0 0 0 0 0 0 0 0 (-1) 0 0 0 0 1)), (z 25, aI V 40000 (upd (upd (upd (fun _ => 0) 1 (-1)) 2 (-1)) 3 (-1))), (z 1, aI V 3075 (fun _ => 0))]))) := by
  refine Ct.of (by decide) (Nat.le_of_ble_eq_true rfl) (fun p e s m below meth c A ls hx hb hr hml hown hlk hnm hg hP hK hD hE hA hS hl => ?_)
  have hl : lv_has ls 5 [(0, .ref (z 0)), (1, .int 0), (2, .int 0), (3, .int p0)] := hl
  refine lv_aload_n hx hb dX10_keptBy_0 rfl (lv_at hl 0 rfl) ?_
  refine va_get (ci := 10) (v := .ref (z 25)) (C := RX10) (T := TX10) (N := 40) hx hb hg inX10 hown hK hP 1 rfl rfl 25 (by decide) (hg _ q_6_9) (fun _ h9 => h9) rfl dX10_keptBy_1 ?_
  refine lv_iconst (v := 4) hx hb dX10_keptBy_4 (by decide) ?_
  refine lv_iload_n hx hb dX10_keptBy_5 rfl (lv_at hl 1 rfl) ?_
  refine lv_imul hx hb dX10_keptBy_6 ?_
  refine tpi (y := 0) (by decide +kernel) ?_
  refine lv_iload_n hx hb dX10_keptBy_7 rfl (lv_at hl 2 rfl) ?_
  refine lv_iadd hx hb dX10_keptBy_8 ?_
  refine tpi (y := 0) (by decide +kernel) ?_
  refine va_iald hx hb hK hP 2 0 rfl rfl (vin (by decide +kernel)) dX10_keptBy_9 ?_
  refine tpi (y := 0) (rfl) ?_
  refine lv_istore (lv' := [(4, .int 0), (0, .ref (z 0)), (1, .int 0), (2, .int 0), (3, .int p0)]) hx hb dX10_keptBy_10 hl (by decide) rfl (fun ls hl => ?_)
  refine lv_iload hx hb dX10_keptBy_12 (lv_at hl 0 rfl) ?_
  refine lv_iconst (v := (-1)) hx hb dX10_keptBy_14 (by decide) ?_
  refine lv_icmp_eq (tgt := 28) hx hb dX10_keptBy_15 (by decide) (fun c_1 => absurd c_1 (by decide)) (fun _ => ?_)
  refine lv_aload_n hx hb dX10_keptBy_18 rfl (lv_at hl 1 rfl) ?_
  refine lv_iload hx hb dX10_keptBy_19 (lv_at hl 0 rfl) ?_
  refine jnI (wr := [(z 26, aI V 10000 (upd (fun _ => 0) 0 268435456)), (z 25, aI V 40000 (upd (upd (upd (fun _ => 0) 1 (-1)) 2 (-1)) 3 (-1)))]) (rnV (rest := []) ⟨hx, hb, hml, hown, hg⟩ (c_X10_leastIn_0 l V z) mt_X10_leastIn q_8_0 ⟨Nat.le_of_ble_eq_true rfl, Nat.le_of_ble_eq_true rfl⟩ hK hP hD hS hA hE [1, 3] rfl rfl 1 rfl rfl rfl rfl hl.1 rfl (Nat.le_of_ble_eq_true rfl) dX10_keptBy_21 ⟨Nat.le_of_ble_eq_true rfl, Nat.le_of_ble_eq_true rfl⟩) hP hD hS hA [1, 3] [0, 2] rfl rfl rfl (by decide) (fun r_2 w H locs hw hP hD hS => ?_)
  obtain ⟨rfl, rfl⟩ := hw
  have hP : va_P V.1 vwCl [(z 26, aI V 10000 (upd (fun _ => 0) 0 268435456)), (z 25, aI V 40000 (upd (upd (upd (fun _ => 0) 1 (-1)) 2 (-1)) 3 (-1))), (z 0, .inr (10, mo z 0 0 0 0 0 0 0 0 0 0 (-1) 0 0 0 0 1)), (z 1, aI V 3075 (fun _ => 0))] H := hP
  have hD : va_D A [(z 26, aI V 10000 (upd (fun _ => 0) 0 268435456)), (z 25, aI V 40000 (upd (upd (upd (fun _ => 0) 1 (-1)) 2 (-1)) 3 (-1))), (z 0, .inr (10, mo z 0 0 0 0 0 0 0 0 0 0 (-1) 0 0 0 0 1)), (z 1, aI V 3075 (fun _ => 0))] := hD
  refine lv_iload_n hx hb dX10_keptBy_24 rfl (lv_at hl 4 rfl) ?_
  refine lv_icmp_ge (tgt := 32) hx hb dX10_keptBy_25 (by decide) (fun c_3 => ?_) (fun c_3 => ?_)
  · refine lv_aload_n hx hb dX10_keptBy_32 rfl (lv_at hl 1 rfl) ?_
    refine va_get (ci := 10) (v := .ref (z 26)) (C := RX10) (T := TX10) (N := 40) hx hb hg inX10 hown hK hP 2 rfl rfl 26 (by decide) (hg _ q_6_10) (fun _ h9 => h9) rfl dX10_keptBy_33 ?_
    refine lv_iload hx hb dX10_keptBy_36 (lv_at hl 0 rfl) ?_
    refine va_iald hx hb hK hP 0 0 rfl rfl (vin (by decide +kernel)) dX10_keptBy_38 ?_
    refine tpi (y := 268435456) (rfl) ?_
    refine lv_ldcw (v := 268435456) hx hb hown (hg _ q_7_202) dX10_keptBy_39 ?_
    refine lv_icmp_ne (tgt := 51) hx hb dX10_keptBy_42 (by decide) (fun c_4 => absurd c_4 (by decide)) (fun _ => ?_)
    refine lv_ldcw (v := 268435456) hx hb hown (hg _ q_7_202) dX10_keptBy_45 ?_
    refine lv_goto (tgt := 60) hx hb dX10_keptBy_48 (by decide) ?_
    have hP := subP (ws' := [(z 26, aI V 10000 (upd (fun _ => 0) 0 268435456)), (z 0, .inr (10, mo z 0 0 0 0 0 0 0 0 0 0 (-1) 0 0 0 0 1)), (z 25, aI V 40000 (upd (upd (upd (fun _ => 0) 1 (-1)) 2 (-1)) 3 (-1))), (z 1, aI V 3075 (fun _ => 0))]) hP [0, 2, 1, 3] rfl
    have hD := hD.sub (ws' := [(z 26, aI V 10000 (upd (fun _ => 0) 0 268435456)), (z 0, .inr (10, mo z 0 0 0 0 0 0 0 0 0 0 (-1) 0 0 0 0 1)), (z 25, aI V 40000 (upd (upd (upd (fun _ => 0) 1 (-1)) 2 (-1)) 3 (-1))), (z 1, aI V 3075 (fun _ => 0))]) [0, 2, 1, 3] rfl rfl
    exact fiI hx hb hr hlk hK hP hD hS dX10_keptBy_60 (Nat.le_of_ble_eq_true rfl) (Nat.le_of_ble_eq_true rfl) (Or.inl ⟨c_3, rfl, rfl⟩)
  · refine lv_iconst (v := (-1)) hx hb dX10_keptBy_28 (by decide) ?_
    refine lv_goto (tgt := 60) hx hb dX10_keptBy_29 (by decide) ?_
    have hP := subP (ws' := [(z 26, aI V 10000 (upd (fun _ => 0) 0 268435456)), (z 0, .inr (10, mo z 0 0 0 0 0 0 0 0 0 0 (-1) 0 0 0 0 1)), (z 25, aI V 40000 (upd (upd (upd (fun _ => 0) 1 (-1)) 2 (-1)) 3 (-1))), (z 1, aI V 3075 (fun _ => 0))]) hP [0, 2, 1, 3] rfl
    have hD := hD.sub (ws' := [(z 26, aI V 10000 (upd (fun _ => 0) 0 268435456)), (z 0, .inr (10, mo z 0 0 0 0 0 0 0 0 0 0 (-1) 0 0 0 0 1)), (z 25, aI V 40000 (upd (upd (upd (fun _ => 0) 1 (-1)) 2 (-1)) 3 (-1))), (z 1, aI V 3075 (fun _ => 0))]) [0, 2, 1, 3] rfl rfl
    exact fiI hx hb hr hlk hK hP hD hS dX10_keptBy_60 (Nat.le_of_ble_eq_true rfl) (Nat.le_of_ble_eq_true rfl) (Or.inr (⟨c_3, rfl, rfl⟩))
set_option maxHeartbeats 4000000 in
set_option maxRecDepth 100000 in
theorem c_X10_keptBy_1 (l : Launch) (V : GV) (z : Nat → Nat) (p0 : Int32) : Ct l V yX10_keptBy (.code yX10_keptBy cX10_keptBy 5 (some .int)) 1 [.ref (z 0), .int 0, .int 1, .int p0] [(z 0, .inr (10, mo z 0 0 0 0 0 0 0 0 0 0 (-1) 0 0 0 0 1)), (z 25, aI V 40000 (upd (upd (upd (fun _ => 0) 1 (-1)) 2 (-1)) 3 (-1)))] 0 0 (QI V (fun (r : Int32) (w : va_W) => (r = (-1) ∧ w = [(z 0, .inr (10, mo z 0 0 0 0 0 0 0 0 0 0 (-1) 0 0 0 0 1)), (z 25, aI V 40000 (upd (upd (upd (fun _ => 0) 1 (-1)) 2 (-1)) 3 (-1)))]))) := by
  refine Ct.of (by decide) (Nat.le_of_ble_eq_true rfl) (fun p e s m below meth c A ls hx hb hr hml hown hlk hnm hg hP hK hD hE hA hS hl => ?_)
  have hl : lv_has ls 5 [(0, .ref (z 0)), (1, .int 0), (2, .int 1), (3, .int p0)] := hl
  refine lv_aload_n hx hb dX10_keptBy_0 rfl (lv_at hl 0 rfl) ?_
  refine va_get (ci := 10) (v := .ref (z 25)) (C := RX10) (T := TX10) (N := 40) hx hb hg inX10 hown hK hP 0 rfl rfl 25 (by decide) (hg _ q_6_9) (fun _ h9 => h9) rfl dX10_keptBy_1 ?_
  refine lv_iconst (v := 4) hx hb dX10_keptBy_4 (by decide) ?_
  refine lv_iload_n hx hb dX10_keptBy_5 rfl (lv_at hl 1 rfl) ?_
  refine lv_imul hx hb dX10_keptBy_6 ?_
  refine tpi (y := 0) (by decide +kernel) ?_
  refine lv_iload_n hx hb dX10_keptBy_7 rfl (lv_at hl 2 rfl) ?_
  refine lv_iadd hx hb dX10_keptBy_8 ?_
  refine tpi (y := 1) (by decide +kernel) ?_
  refine va_iald hx hb hK hP 1 0 rfl rfl (vin (by decide +kernel)) dX10_keptBy_9 ?_
  refine tpi (y := (-1)) (rfl) ?_
  refine lv_istore (lv' := [(4, .int (-1)), (0, .ref (z 0)), (1, .int 0), (2, .int 1), (3, .int p0)]) hx hb dX10_keptBy_10 hl (by decide) rfl (fun ls hl => ?_)
  refine lv_iload hx hb dX10_keptBy_12 (lv_at hl 0 rfl) ?_
  refine lv_iconst (v := (-1)) hx hb dX10_keptBy_14 (by decide) ?_
  refine lv_icmp_eq (tgt := 28) hx hb dX10_keptBy_15 (by decide) (fun _ => ?_) (fun c_1 => absurd c_1 (by decide))
  refine lv_iconst (v := (-1)) hx hb dX10_keptBy_28 (by decide) ?_
  refine lv_goto (tgt := 60) hx hb dX10_keptBy_29 (by decide) ?_
  exact fiI hx hb hr hlk hK hP hD hS dX10_keptBy_60 (Nat.le_of_ble_eq_true rfl) (Nat.le_of_ble_eq_true rfl) (⟨rfl, rfl⟩)
set_option maxHeartbeats 4000000 in
set_option maxRecDepth 100000 in
theorem c_X10_keptBy_2 (l : Launch) (V : GV) (z : Nat → Nat) (p0 : Int32) : Ct l V yX10_keptBy (.code yX10_keptBy cX10_keptBy 5 (some .int)) 1 [.ref (z 0), .int 0, .int 2, .int p0] [(z 0, .inr (10, mo z 0 0 0 0 0 0 0 0 0 0 (-1) 0 0 0 0 1)), (z 25, aI V 40000 (upd (upd (upd (fun _ => 0) 1 (-1)) 2 (-1)) 3 (-1)))] 0 0 (QI V (fun (r : Int32) (w : va_W) => (r = (-1) ∧ w = [(z 0, .inr (10, mo z 0 0 0 0 0 0 0 0 0 0 (-1) 0 0 0 0 1)), (z 25, aI V 40000 (upd (upd (upd (fun _ => 0) 1 (-1)) 2 (-1)) 3 (-1)))]))) := by
  refine Ct.of (by decide) (Nat.le_of_ble_eq_true rfl) (fun p e s m below meth c A ls hx hb hr hml hown hlk hnm hg hP hK hD hE hA hS hl => ?_)
  have hl : lv_has ls 5 [(0, .ref (z 0)), (1, .int 0), (2, .int 2), (3, .int p0)] := hl
  refine lv_aload_n hx hb dX10_keptBy_0 rfl (lv_at hl 0 rfl) ?_
  refine va_get (ci := 10) (v := .ref (z 25)) (C := RX10) (T := TX10) (N := 40) hx hb hg inX10 hown hK hP 0 rfl rfl 25 (by decide) (hg _ q_6_9) (fun _ h9 => h9) rfl dX10_keptBy_1 ?_
  refine lv_iconst (v := 4) hx hb dX10_keptBy_4 (by decide) ?_
  refine lv_iload_n hx hb dX10_keptBy_5 rfl (lv_at hl 1 rfl) ?_
  refine lv_imul hx hb dX10_keptBy_6 ?_
  refine tpi (y := 0) (by decide +kernel) ?_
  refine lv_iload_n hx hb dX10_keptBy_7 rfl (lv_at hl 2 rfl) ?_
  refine lv_iadd hx hb dX10_keptBy_8 ?_
  refine tpi (y := 2) (by decide +kernel) ?_
  refine va_iald hx hb hK hP 1 0 rfl rfl (vin (by decide +kernel)) dX10_keptBy_9 ?_
  refine tpi (y := (-1)) (rfl) ?_
  refine lv_istore (lv' := [(4, .int (-1)), (0, .ref (z 0)), (1, .int 0), (2, .int 2), (3, .int p0)]) hx hb dX10_keptBy_10 hl (by decide) rfl (fun ls hl => ?_)
  refine lv_iload hx hb dX10_keptBy_12 (lv_at hl 0 rfl) ?_
  refine lv_iconst (v := (-1)) hx hb dX10_keptBy_14 (by decide) ?_
  refine lv_icmp_eq (tgt := 28) hx hb dX10_keptBy_15 (by decide) (fun _ => ?_) (fun c_1 => absurd c_1 (by decide))
  refine lv_iconst (v := (-1)) hx hb dX10_keptBy_28 (by decide) ?_
  refine lv_goto (tgt := 60) hx hb dX10_keptBy_29 (by decide) ?_
  exact fiI hx hb hr hlk hK hP hD hS dX10_keptBy_60 (Nat.le_of_ble_eq_true rfl) (Nat.le_of_ble_eq_true rfl) (⟨rfl, rfl⟩)
set_option maxHeartbeats 4000000 in
set_option maxRecDepth 100000 in
theorem c_X10_keptBy_3 (l : Launch) (V : GV) (z : Nat → Nat) (p0 : Int32) : Ct l V yX10_keptBy (.code yX10_keptBy cX10_keptBy 5 (some .int)) 1 [.ref (z 0), .int 0, .int 3, .int p0] [(z 0, .inr (10, mo z 0 0 0 0 0 0 0 0 0 0 (-1) 0 0 0 0 1)), (z 25, aI V 40000 (upd (upd (upd (fun _ => 0) 1 (-1)) 2 (-1)) 3 (-1)))] 0 0 (QI V (fun (r : Int32) (w : va_W) => (r = (-1) ∧ w = [(z 0, .inr (10, mo z 0 0 0 0 0 0 0 0 0 0 (-1) 0 0 0 0 1)), (z 25, aI V 40000 (upd (upd (upd (fun _ => 0) 1 (-1)) 2 (-1)) 3 (-1)))]))) := by
  refine Ct.of (by decide) (Nat.le_of_ble_eq_true rfl) (fun p e s m below meth c A ls hx hb hr hml hown hlk hnm hg hP hK hD hE hA hS hl => ?_)
  have hl : lv_has ls 5 [(0, .ref (z 0)), (1, .int 0), (2, .int 3), (3, .int p0)] := hl
  refine lv_aload_n hx hb dX10_keptBy_0 rfl (lv_at hl 0 rfl) ?_
  refine va_get (ci := 10) (v := .ref (z 25)) (C := RX10) (T := TX10) (N := 40) hx hb hg inX10 hown hK hP 0 rfl rfl 25 (by decide) (hg _ q_6_9) (fun _ h9 => h9) rfl dX10_keptBy_1 ?_
  refine lv_iconst (v := 4) hx hb dX10_keptBy_4 (by decide) ?_
  refine lv_iload_n hx hb dX10_keptBy_5 rfl (lv_at hl 1 rfl) ?_
  refine lv_imul hx hb dX10_keptBy_6 ?_
  refine tpi (y := 0) (by decide +kernel) ?_
  refine lv_iload_n hx hb dX10_keptBy_7 rfl (lv_at hl 2 rfl) ?_
  refine lv_iadd hx hb dX10_keptBy_8 ?_
  refine tpi (y := 3) (by decide +kernel) ?_
  refine va_iald hx hb hK hP 1 0 rfl rfl (vin (by decide +kernel)) dX10_keptBy_9 ?_
  refine tpi (y := (-1)) (rfl) ?_
  refine lv_istore (lv' := [(4, .int (-1)), (0, .ref (z 0)), (1, .int 0), (2, .int 3), (3, .int p0)]) hx hb dX10_keptBy_10 hl (by decide) rfl (fun ls hl => ?_)
  refine lv_iload hx hb dX10_keptBy_12 (lv_at hl 0 rfl) ?_
  refine lv_iconst (v := (-1)) hx hb dX10_keptBy_14 (by decide) ?_
  refine lv_icmp_eq (tgt := 28) hx hb dX10_keptBy_15 (by decide) (fun _ => ?_) (fun c_1 => absurd c_1 (by decide))
  refine lv_iconst (v := (-1)) hx hb dX10_keptBy_28 (by decide) ?_
  refine lv_goto (tgt := 60) hx hb dX10_keptBy_29 (by decide) ?_
  exact fiI hx hb hr hlk hK hP hD hS dX10_keptBy_60 (Nat.le_of_ble_eq_true rfl) (Nat.le_of_ble_eq_true rfl) (⟨rfl, rfl⟩)
set_option maxHeartbeats 4000000 in
set_option maxRecDepth 100000 in
theorem c_X10_standNow_2 (l : Launch) (V : GV) (z : Nat → Nat) : Ct l V yX10_standNow (.code yX10_standNow cX10_standNow 3 (some .int)) 1 [.ref (z 0)] [(z 1, aI V 3075 (fun _ => 0)), (z 0, .inr (10, mo z 0 0 0 0 0 0 0 0 0 0 (-1) 0 0 0 0 1))] 0 0 (QI V (fun (r : Int32) (w : va_W) => (r = 0 ∧ w = [(z 1, aI V 3075 (fun _ => 0)), (z 0, .inr (10, mo z 0 0 0 0 0 0 0 0 0 0 (-1) 0 0 0 0 1))]))) := by
  refine Ct.of (by decide) (Nat.le_of_ble_eq_true rfl) (fun p e s m below meth c A ls hx hb hr hml hown hlk hnm hg hP hK hD hE hA hS hl => ?_)
  have hl : lv_has ls 3 [(0, .ref (z 0))] := hl
  refine lv_sipush (v := 625) hx hb dX10_standNow_0 (by decide) ?_
  refine lv_aload_n hx hb dX10_standNow_3 rfl (lv_at hl 0 rfl) ?_
  refine va_get (ci := 10) (v := .ref (z 1)) (C := RX10) (T := TX10) (N := 40) hx hb hg inX10 hown hK hP 1 rfl rfl 1 (by decide) (hg _ q_5_225) (fun _ h9 => h9) rfl dX10_standNow_4 ?_
  refine lv_bipush (v := 50) hx hb dX10_standNow_7 (by decide) ?_
  refine va_iald hx hb hK hP 0 0 rfl rfl (vin (by decide +kernel)) dX10_standNow_9 ?_
  refine tpi (y := 0) (rfl) ?_
  refine lv_imul hx hb dX10_standNow_10 ?_
  refine tpi (y := 0) (by decide +kernel) ?_
  refine lv_istore_n (lv' := [(1, .int 0), (0, .ref (z 0))]) hx hb dX10_standNow_11 rfl hl (by decide) rfl (fun ls hl => ?_)
  refine lv_iconst (v := 0) hx hb dX10_standNow_12 (by decide) ?_
  refine lv_istore_n (lv' := [(2, .int 0), (1, .int 0), (0, .ref (z 0))]) hx hb dX10_standNow_13 rfl hl (by decide) rfl (fun ls hl => ?_)
  refine lv_iload_n hx hb dX10_standNow_14 rfl (lv_at hl 0 rfl) ?_
  refine lv_aload_n hx hb dX10_standNow_15 rfl (lv_at hl 2 rfl) ?_
  refine va_get (ci := 10) (v := .ref (z 1)) (C := RX10) (T := TX10) (N := 40) hx hb hg inX10 hown hK hP 1 rfl rfl 1 (by decide) (hg _ q_5_225) (fun _ h9 => h9) rfl dX10_standNow_16 ?_
  refine lv_iconst (v := 1) hx hb dX10_standNow_19 (by decide) ?_
  refine va_iald hx hb hK hP 0 0 rfl rfl (vin (by decide +kernel)) dX10_standNow_20 ?_
  refine tpi (y := 0) (rfl) ?_
  refine lv_icmp_ge (tgt := 47) hx hb dX10_standNow_21 (by decide) (fun _ => ?_) (fun c_1 => absurd c_1 (by decide))
  refine lv_iload_n hx hb dX10_standNow_47 rfl (lv_at hl 1 rfl) ?_
  exact fiI hx hb hr hlk hK hP hD hS dX10_standNow_48 (Nat.le_of_ble_eq_true rfl) (Nat.le_of_ble_eq_true rfl) (⟨rfl, rfl⟩)
theorem dX10_toldFar_0 : decode cX10_toldFar 0 = .ok (.iload_n 0, 1) := by decide +kernel
theorem dX10_toldFar_1 : decode cX10_toldFar 1 = .ok (.ldc_w 361, 3) := by decide +kernel
theorem dX10_toldFar_4 : decode cX10_toldFar 4 = .ok (.if_icmp .ne 7, 3) := by decide +kernel
theorem dX10_toldFar_7 : decode cX10_toldFar 7 = .ok (.iconst (-1), 1) := by decide +kernel
theorem dX10_toldFar_8 : decode cX10_toldFar 8 = .ok (.goto 4, 3) := by decide +kernel
theorem dX10_toldFar_12 : decode cX10_toldFar 12 = .ok (.ireturn, 1) := by decide +kernel
set_option maxHeartbeats 4000000 in
set_option maxRecDepth 100000 in
theorem c_X10_toldFar_0 (l : Launch) (V : GV) : Ct l V yX10_toldFar (.code yX10_toldFar cX10_toldFar 1 (some .int)) 1 [.int 268435456] [] 0 0 (QI V (fun (r : Int32) (w : va_W) => (r = (-1) ∧ w = []))) := by
  refine Ct.of (by decide) (Nat.le_of_ble_eq_true rfl) (fun p e s m below meth c A ls hx hb hr hml hown hlk hnm hg hP hK hD hE hA hS hl => ?_)
  have hl : lv_has ls 1 [(0, .int 268435456)] := hl
  refine lv_iload_n hx hb dX10_toldFar_0 rfl (lv_at hl 0 rfl) ?_
  refine lv_ldcw (v := 268435456) hx hb hown (hg _ q_7_202) dX10_toldFar_1 ?_
  refine lv_icmp_ne (tgt := 11) hx hb dX10_toldFar_4 (by decide) (fun c_1 => absurd c_1 (by decide)) (fun _ => ?_)
  refine lv_iconst (v := (-1)) hx hb dX10_toldFar_7 (by decide) ?_
  refine lv_goto (tgt := 12) hx hb dX10_toldFar_8 (by decide) ?_
  exact fiI hx hb hr hlk hK hP hD hS dX10_toldFar_12 (Nat.le_of_ble_eq_true rfl) (Nat.le_of_ble_eq_true rfl) (⟨rfl, rfl⟩)
theorem dX10_keeps_0 : decode cX10_keeps 0 = .ok (.aload_n 0, 1) := by decide +kernel
theorem dX10_keeps_1 : decode cX10_keeps 1 = .ok (.iconst 0, 1) := by decide +kernel
theorem dX10_keeps_2 : decode cX10_keeps 2 = .ok (.putfield 1, 3) := by decide +kernel
theorem dX10_keeps_5 : decode cX10_keeps 5 = .ok (.iload_n 1, 1) := by decide +kernel
theorem q_7_188 : Cond.code yX10_isHigh prog_12_method_87_code 1 (some FieldType.boolean) ∈ gw := gw_7 (i := 188) (rfl) rfl
theorem q_7_187 : Cond.static yX10_isHigh ∈ gw := gw_7 (i := 187) (by decide +kernel) rfl
theorem mt_X10_isHigh : MtS yX10_isHigh cX10_isHigh 1 (some .boolean) 1 := ⟨⟨q_7_188, q_1_9, by decide +kernel, by decide +kernel, by decide +kernel⟩, q_7_187⟩
theorem q_7_186 : Cond.methodLink "BeaconDelayModel" 370 yX10_isHigh ∈ gw := gw_7 (i := 186) (by decide +kernel) rfl
theorem dX10_keeps_6 : decode cX10_keeps 6 = .ok (.invokestatic 370, 3) := by decide +kernel
theorem dX10_keeps_9 : decode cX10_keeps 9 = .ok (.ifCond .ne 6, 3) := by decide +kernel
theorem dX10_keeps_12 : decode cX10_keeps 12 = .ok (.bipush (-3), 2) := by decide +kernel
theorem dX10_keeps_14 : decode cX10_keeps 14 = .ok (.ireturn, 1) := by decide +kernel
theorem dX10_keeps_15 : decode cX10_keeps 15 = .ok (.aload_n 0, 1) := by decide +kernel
theorem q_7_197 : Cond.code yX10_laysStands prog_12_method_83_code 4 none ∈ gw := gw_7 (i := 197) (rfl) rfl
theorem q_7_196 : Cond.instanceMethod yX10_laysStands ∈ gw := gw_7 (i := 196) (by decide +kernel) rfl
theorem q_s_105 : Cond.selects "BeaconDelayModel" yX10_laysStands yX10_laysStands ∈ gw := gw_s (i := 105) (by decide +kernel) rfl
theorem mt_X10_laysStands : MtV yX10_laysStands cX10_laysStands 4 none 0 := ⟨⟨q_7_197, q_1_9, by decide +kernel, by decide +kernel, by decide +kernel⟩, q_7_196, q_s_105⟩
theorem q_7_194 : Cond.methodLink "BeaconDelayModel" 362 yX10_laysStands ∈ gw := gw_7 (i := 194) (by decide +kernel) rfl
theorem dX10_keeps_16 : decode cX10_keeps 16 = .ok (.invokevirtual 362, 3) := by decide +kernel
theorem dX10_keeps_19 : decode cX10_keeps 19 = .ok (.iconst 0, 1) := by decide +kernel
theorem dX10_keeps_20 : decode cX10_keeps 20 = .ok (.istore_n 2, 1) := by decide +kernel
theorem dX10_keeps_21 : decode cX10_keeps 21 = .ok (.iload_n 2, 1) := by decide +kernel
theorem dX10_keeps_22 : decode cX10_keeps 22 = .ok (.aload_n 0, 1) := by decide +kernel
theorem dX10_keeps_23 : decode cX10_keeps 23 = .ok (.getfield 355, 3) := by decide +kernel
theorem dX10_keeps_26 : decode cX10_keeps 26 = .ok (.if_icmp .ge 23, 3) := by decide +kernel
theorem dX10_keeps_29 : decode cX10_keeps 29 = .ok (.aload_n 0, 1) := by decide +kernel
theorem dX10_keeps_30 : decode cX10_keeps 30 = .ok (.getfield 52, 3) := by decide +kernel
theorem dX10_keeps_33 : decode cX10_keeps 33 = .ok (.aload_n 0, 1) := by decide +kernel
theorem dX10_keeps_34 : decode cX10_keeps 34 = .ok (.getfield 45, 3) := by decide +kernel
theorem dX10_keeps_37 : decode cX10_keeps 37 = .ok (.iload_n 2, 1) := by decide +kernel
theorem dX10_keeps_38 : decode cX10_keeps 38 = .ok (.iaload, 1) := by decide +kernel
theorem dX10_keeps_39 : decode cX10_keeps 39 = .ok (.ldc_w 361, 3) := by decide +kernel
theorem dX10_keeps_42 : decode cX10_keeps 42 = .ok (.iastore, 1) := by decide +kernel
theorem dX10_keeps_43 : decode cX10_keeps 43 = .ok (.iinc 2 1, 3) := by decide +kernel
theorem dX10_keeps_46 : decode cX10_keeps 46 = .ok (.goto (-25), 3) := by decide +kernel
theorem dX10_keeps_49 : decode cX10_keeps 49 = .ok (.iconst 1, 1) := by decide +kernel
theorem dX10_keeps_50 : decode cX10_keeps 50 = .ok (.istore_n 2, 1) := by decide +kernel
theorem dX10_keeps_51 : decode cX10_keeps 51 = .ok (.iload_n 2, 1) := by decide +kernel
theorem dX10_keeps_52 : decode cX10_keeps 52 = .ok (.ifCond .eq 128, 3) := by decide +kernel
theorem dX10_keeps_55 : decode cX10_keeps 55 = .ok (.iconst 0, 1) := by decide +kernel
theorem dX10_keeps_56 : decode cX10_keeps 56 = .ok (.istore_n 2, 1) := by decide +kernel
theorem dX10_keeps_57 : decode cX10_keeps 57 = .ok (.iconst 0, 1) := by decide +kernel
theorem dX10_keeps_58 : decode cX10_keeps 58 = .ok (.istore_n 3, 1) := by decide +kernel
theorem dX10_keeps_59 : decode cX10_keeps 59 = .ok (.iload_n 3, 1) := by decide +kernel
theorem dX10_keeps_60 : decode cX10_keeps 60 = .ok (.aload_n 0, 1) := by decide +kernel
theorem dX10_keeps_61 : decode cX10_keeps 61 = .ok (.getfield 355, 3) := by decide +kernel
theorem dX10_keeps_64 : decode cX10_keeps 64 = .ok (.if_icmp .ge 113, 3) := by decide +kernel
theorem dX10_keeps_67 : decode cX10_keeps 67 = .ok (.aload_n 0, 1) := by decide +kernel
theorem dX10_keeps_68 : decode cX10_keeps 68 = .ok (.getfield 45, 3) := by decide +kernel
theorem dX10_keeps_71 : decode cX10_keeps 71 = .ok (.iload_n 3, 1) := by decide +kernel
theorem dX10_keeps_72 : decode cX10_keeps 72 = .ok (.iaload, 1) := by decide +kernel
theorem dX10_keeps_73 : decode cX10_keeps 73 = .ok (.istore 4, 2) := by decide +kernel
theorem dX10_keeps_75 : decode cX10_keeps 75 = .ok (.iconst 0, 1) := by decide +kernel
theorem dX10_keeps_76 : decode cX10_keeps 76 = .ok (.istore 5, 2) := by decide +kernel
theorem dX10_keeps_78 : decode cX10_keeps 78 = .ok (.iconst 0, 1) := by decide +kernel
theorem dX10_keeps_79 : decode cX10_keeps 79 = .ok (.istore 6, 2) := by decide +kernel
theorem dX10_keeps_81 : decode cX10_keeps 81 = .ok (.iload 6, 2) := by decide +kernel
theorem dX10_keeps_83 : decode cX10_keeps 83 = .ok (.iconst 4, 1) := by decide +kernel
theorem dX10_keeps_84 : decode cX10_keeps 84 = .ok (.if_icmp .ge 52, 3) := by decide +kernel
theorem dX10_keeps_87 : decode cX10_keeps 87 = .ok (.aload_n 0, 1) := by decide +kernel
theorem dX10_keeps_88 : decode cX10_keeps 88 = .ok (.getfield 52, 3) := by decide +kernel
theorem dX10_keeps_91 : decode cX10_keeps 91 = .ok (.iload 4, 2) := by decide +kernel
theorem dX10_keeps_93 : decode cX10_keeps 93 = .ok (.iaload, 1) := by decide +kernel
theorem dX10_keeps_94 : decode cX10_keeps 94 = .ok (.ldc_w 361, 3) := by decide +kernel
theorem dX10_keeps_97 : decode cX10_keeps 97 = .ok (.if_icmp .ne 39, 3) := by decide +kernel
theorem dX10_keeps_100 : decode cX10_keeps 100 = .ok (.aload_n 0, 1) := by decide +kernel
theorem dX10_keeps_101 : decode cX10_keeps 101 = .ok (.iload 4, 2) := by decide +kernel
theorem dX10_keeps_103 : decode cX10_keeps 103 = .ok (.iload 6, 2) := by decide +kernel
theorem dX10_keeps_105 : decode cX10_keeps 105 = .ok (.iload_n 1, 1) := by decide +kernel
theorem q_7_239 : Cond.code yX10_keptBy prog_12_method_95_code 5 (some FieldType.int) ∈ gw := gw_7 (i := 239) (rfl) rfl
theorem q_7_238 : Cond.instanceMethod yX10_keptBy ∈ gw := gw_7 (i := 238) (by decide +kernel) rfl
theorem q_s_111 : Cond.selects "BeaconDelayModel" yX10_keptBy yX10_keptBy ∈ gw := gw_s (i := 111) (by decide +kernel) rfl
theorem mt_X10_keptBy : MtV yX10_keptBy cX10_keptBy 5 (some .int) 3 := ⟨⟨q_7_239, q_1_9, by decide +kernel, by decide +kernel, by decide +kernel⟩, q_7_238, q_s_111⟩
theorem q_7_236 : Cond.methodLink "BeaconDelayModel" 399 yX10_keptBy ∈ gw := gw_7 (i := 236) (by decide +kernel) rfl
theorem dX10_keeps_106 : decode cX10_keeps 106 = .ok (.invokevirtual 399, 3) := by decide +kernel
theorem dX10_keeps_109 : decode cX10_keeps 109 = .ok (.iload 5, 2) := by decide +kernel
theorem dX10_keeps_111 : decode cX10_keeps 111 = .ok (.if_icmp .le 15, 3) := by decide +kernel
theorem dX10_keeps_114 : decode cX10_keeps 114 = .ok (.aload_n 0, 1) := by decide +kernel
theorem dX10_keeps_115 : decode cX10_keeps 115 = .ok (.iload 4, 2) := by decide +kernel
theorem dX10_keeps_117 : decode cX10_keeps 117 = .ok (.iload 6, 2) := by decide +kernel
theorem dX10_keeps_119 : decode cX10_keeps 119 = .ok (.iload_n 1, 1) := by decide +kernel
theorem dX10_keeps_120 : decode cX10_keeps 120 = .ok (.invokevirtual 399, 3) := by decide +kernel
theorem dX10_keeps_123 : decode cX10_keeps 123 = .ok (.goto 5, 3) := by decide +kernel
theorem dX10_keeps_128 : decode cX10_keeps 128 = .ok (.istore 5, 2) := by decide +kernel
theorem dX10_keeps_130 : decode cX10_keeps 130 = .ok (.iinc 6 1, 3) := by decide +kernel
theorem dX10_keeps_133 : decode cX10_keeps 133 = .ok (.goto (-52), 3) := by decide +kernel
theorem dX10_keeps_126 : decode cX10_keeps 126 = .ok (.iload 5, 2) := by decide +kernel
theorem dX10_keeps_136 : decode cX10_keeps 136 = .ok (.aload_n 0, 1) := by decide +kernel
theorem dX10_keeps_137 : decode cX10_keeps 137 = .ok (.getfield 52, 3) := by decide +kernel
theorem dX10_keeps_140 : decode cX10_keeps 140 = .ok (.iload 4, 2) := by decide +kernel
theorem dX10_keeps_142 : decode cX10_keeps 142 = .ok (.iaload, 1) := by decide +kernel
theorem dX10_keeps_143 : decode cX10_keeps 143 = .ok (.ldc_w 361, 3) := by decide +kernel
theorem dX10_keeps_146 : decode cX10_keeps 146 = .ok (.if_icmp .lt 25, 3) := by decide +kernel
theorem dX10_keeps_149 : decode cX10_keeps 149 = .ok (.iload 5, 2) := by decide +kernel
theorem dX10_keeps_151 : decode cX10_keeps 151 = .ok (.ldc_w 361, 3) := by decide +kernel
theorem dX10_keeps_154 : decode cX10_keeps 154 = .ok (.if_icmp .ne 6, 3) := by decide +kernel
theorem dX10_keeps_157 : decode cX10_keeps 157 = .ok (.goto 14, 3) := by decide +kernel
theorem dX10_keeps_171 : decode cX10_keeps 171 = .ok (.iinc 3 1, 3) := by decide +kernel
theorem dX10_keeps_174 : decode cX10_keeps 174 = .ok (.goto (-115), 3) := by decide +kernel
theorem dX10_keeps_177 : decode cX10_keeps 177 = .ok (.goto (-126), 3) := by decide +kernel
theorem dX10_keeps_180 : decode cX10_keeps 180 = .ok (.aload_n 0, 1) := by decide +kernel
theorem dX10_keeps_181 : decode cX10_keeps 181 = .ok (.getfield 52, 3) := by decide +kernel
theorem dX10_keeps_184 : decode cX10_keeps 184 = .ok (.aload_n 0, 1) := by decide +kernel
theorem dX10_keeps_185 : decode cX10_keeps 185 = .ok (.invokevirtual 269, 3) := by decide +kernel
theorem dX10_keeps_188 : decode cX10_keeps 188 = .ok (.iaload, 1) := by decide +kernel
theorem q_7_209 : Cond.code yX10_toldFar prog_12_method_86_code 1 (some FieldType.int) ∈ gw := gw_7 (i := 209) (rfl) rfl
theorem q_7_208 : Cond.static yX10_toldFar ∈ gw := gw_7 (i := 208) (by decide +kernel) rfl
theorem mt_X10_toldFar : MtS yX10_toldFar cX10_toldFar 1 (some .int) 1 := ⟨⟨q_7_209, q_1_9, by decide +kernel, by decide +kernel, by decide +kernel⟩, q_7_208⟩
theorem q_7_207 : Cond.methodLink "BeaconDelayModel" 379 yX10_toldFar ∈ gw := gw_7 (i := 207) (by decide +kernel) rfl
theorem dX10_keeps_189 : decode cX10_keeps 189 = .ok (.invokestatic 379, 3) := by decide +kernel
theorem dX10_keeps_192 : decode cX10_keeps 192 = .ok (.ireturn, 1) := by decide +kernel
set_option maxHeartbeats 4000000 in
set_option maxRecDepth 100000 in
theorem c_X10_keeps_0 (l : Launch) (V : GV) (z : Nat → Nat) (p0 : Int32) : Ct l V yX10_keeps (.code yX10_keeps cX10_keeps 7 (some .int)) 4 [.ref (z 0), .int p0] [(z 0, .inr (10, mo z 0 0 0 0 0 0 0 0 0 0 (-1) 0 0 0 0 0)), (z 24, aI V 10000 (fun _ => 0)), (z 25, aI V 40000 (fun _ => 0)), (z 26, aI V 10000 (fun _ => 0)), (z 28, aZ V 10000 (fun _ => 0)), (z 1, aI V 3075 (fun _ => 0))] 0 0 (QI V (fun (r : Int32) (w : va_W) => (p0.toInt64 < 0 ∧ r = (-3) ∧ w = [(z 0, .inr (10, mo z 0 0 0 0 0 0 0 0 0 0 (-1) 0 0 0 0 0)), (z 24, aI V 10000 (fun _ => 0)), (z 25, aI V 40000 (fun _ => 0)), (z 26, aI V 10000 (fun _ => 0)), (z 28, aZ V 10000 (fun _ => 0)), (z 1, aI V 3075 (fun _ => 0))]) ∨ ((¬ p0.toInt64 < 0) ∧ 4 < p0.toInt64 ∧ r = (-3) ∧ w = [(z 0, .inr (10, mo z 0 0 0 0 0 0 0 0 0 0 (-1) 0 0 0 0 0)), (z 24, aI V 10000 (fun _ => 0)), (z 25, aI V 40000 (fun _ => 0)), (z 26, aI V 10000 (fun _ => 0)), (z 28, aZ V 10000 (fun _ => 0)), (z 1, aI V 3075 (fun _ => 0))]) ∨ ((¬ p0.toInt64 < 0) ∧ (¬ 4 < p0.toInt64) ∧ p0 ≤ 4 ∧ p0 ≤ 4 ∧ r = (-1) ∧ w = [(z 0, .inr (10, mo z 0 0 0 0 0 0 0 0 0 0 (-1) 0 0 0 0 1)), (z 24, aI V 10000 (fun _ => 0)), (z 25, aI V 40000 (upd (upd (upd (fun _ => 0) 1 (-1)) 2 (-1)) 3 (-1))), (z 26, aI V 10000 (upd (fun _ => 0) 0 268435456)), (z 28, aZ V 10000 (upd (fun _ => 0) 0 1)), (z 1, aI V 3075 (fun _ => 0))]))) := by
  refine Ct.of (by decide) (Nat.le_of_ble_eq_true rfl) (fun p e s m below meth c A ls hx hb hr hml hown hlk hnm hg hP hK hD hE hA hS hl => ?_)
  have hl : lv_has ls 7 [(0, .ref (z 0)), (1, .int p0)] := hl
  refine lv_aload_n hx hb dX10_keeps_0 rfl (lv_at hl 0 rfl) ?_
  refine lv_iconst (v := 0) hx hb dX10_keeps_1 (by decide) ?_
  refine va_put (ci := 10) (v := .int 0) (ty := .int) (C := RX10) (T := TX10) (N := 40) hx hb hg inX10 tyX10 tyX10_ok nmX10 hown hK hP hD hS 0 rfl rfl 0 (by decide) (hg _ q_5_224) (fun _ h9 => h9) rfl (by decide +kernel) rfl rfl (Nat.le_of_ble_eq_true rfl) dX10_keeps_2 (fun H locs hP hD hS => ?_)
  have hP : va_P V.1 vwCl [(z 0, .inr (10, mo z 0 0 0 0 0 0 0 0 0 0 (-1) 0 0 0 0 0)), (z 24, aI V 10000 (fun _ => 0)), (z 25, aI V 40000 (fun _ => 0)), (z 26, aI V 10000 (fun _ => 0)), (z 28, aZ V 10000 (fun _ => 0)), (z 1, aI V 3075 (fun _ => 0))] H := hP
  have hD : va_D A [(z 0, .inr (10, mo z 0 0 0 0 0 0 0 0 0 0 (-1) 0 0 0 0 0)), (z 24, aI V 10000 (fun _ => 0)), (z 25, aI V 40000 (fun _ => 0)), (z 26, aI V 10000 (fun _ => 0)), (z 28, aZ V 10000 (fun _ => 0)), (z 1, aI V 3075 (fun _ => 0))] := hD
  refine lv_iload_n hx hb dX10_keeps_5 rfl (lv_at hl 1 rfl) ?_
  refine jnI (wr := [(z 0, .inr (10, mo z 0 0 0 0 0 0 0 0 0 0 (-1) 0 0 0 0 0)), (z 24, aI V 10000 (fun _ => 0)), (z 25, aI V 40000 (fun _ => 0)), (z 26, aI V 10000 (fun _ => 0)), (z 28, aZ V 10000 (fun _ => 0)), (z 1, aI V 3075 (fun _ => 0))]) (rnS (rest := []) ⟨hx, hb, hml, hown, hg⟩ (c_X10_isHigh_0 l V p0) mt_X10_isHigh q_7_186 ⟨Nat.le_of_ble_eq_true rfl, Nat.le_of_ble_eq_true rfl⟩ hK hP hD hS hA hE [] rfl rfl rfl hl.1 rfl (Nat.le_of_ble_eq_true rfl) dX10_keeps_6 ⟨Nat.le_of_ble_eq_true rfl, Nat.le_of_ble_eq_true rfl⟩) hP hD hS hA [] [0, 1, 2, 3, 4, 5] rfl rfl rfl (by decide) (fun r_1 w H locs hw hP hD hS => ?_)
  rcases hw with ⟨c_2, rfl, rfl⟩ | ⟨c_3, c_4, rfl, rfl⟩ | ⟨c_5, c_6, rfl, rfl⟩
  · have hP : va_P V.1 vwCl [(z 0, .inr (10, mo z 0 0 0 0 0 0 0 0 0 0 (-1) 0 0 0 0 0)), (z 24, aI V 10000 (fun _ => 0)), (z 25, aI V 40000 (fun _ => 0)), (z 26, aI V 10000 (fun _ => 0)), (z 28, aZ V 10000 (fun _ => 0)), (z 1, aI V 3075 (fun _ => 0))] H := hP
    have hD : va_D A [(z 0, .inr (10, mo z 0 0 0 0 0 0 0 0 0 0 (-1) 0 0 0 0 0)), (z 24, aI V 10000 (fun _ => 0)), (z 25, aI V 40000 (fun _ => 0)), (z 26, aI V 10000 (fun _ => 0)), (z 28, aZ V 10000 (fun _ => 0)), (z 1, aI V 3075 (fun _ => 0))] := hD
    refine lv_if_ne (tgt := 15) hx hb dX10_keeps_9 (by decide) (fun c_7 => absurd c_7 (by decide)) (fun _ => ?_)
    refine lv_bipush (v := (-3)) hx hb dX10_keeps_12 (by decide) ?_
    exact fiI hx hb hr hlk hK hP hD hS dX10_keeps_14 (Nat.le_of_ble_eq_true rfl) (Nat.le_of_ble_eq_true rfl) (Or.inl ⟨c_2, rfl, rfl⟩)
  · have hP : va_P V.1 vwCl [(z 0, .inr (10, mo z 0 0 0 0 0 0 0 0 0 0 (-1) 0 0 0 0 0)), (z 24, aI V 10000 (fun _ => 0)), (z 25, aI V 40000 (fun _ => 0)), (z 26, aI V 10000 (fun _ => 0)), (z 28, aZ V 10000 (fun _ => 0)), (z 1, aI V 3075 (fun _ => 0))] H := hP
    have hD : va_D A [(z 0, .inr (10, mo z 0 0 0 0 0 0 0 0 0 0 (-1) 0 0 0 0 0)), (z 24, aI V 10000 (fun _ => 0)), (z 25, aI V 40000 (fun _ => 0)), (z 26, aI V 10000 (fun _ => 0)), (z 28, aZ V 10000 (fun _ => 0)), (z 1, aI V 3075 (fun _ => 0))] := hD
    refine lv_if_ne (tgt := 15) hx hb dX10_keeps_9 (by decide) (fun c_8 => absurd c_8 (by decide)) (fun _ => ?_)
    refine lv_bipush (v := (-3)) hx hb dX10_keeps_12 (by decide) ?_
    exact fiI hx hb hr hlk hK hP hD hS dX10_keeps_14 (Nat.le_of_ble_eq_true rfl) (Nat.le_of_ble_eq_true rfl) (Or.inr (Or.inl ⟨c_3, c_4, rfl, rfl⟩))
  · have hP : va_P V.1 vwCl [(z 0, .inr (10, mo z 0 0 0 0 0 0 0 0 0 0 (-1) 0 0 0 0 0)), (z 24, aI V 10000 (fun _ => 0)), (z 25, aI V 40000 (fun _ => 0)), (z 26, aI V 10000 (fun _ => 0)), (z 28, aZ V 10000 (fun _ => 0)), (z 1, aI V 3075 (fun _ => 0))] H := hP
    have hD : va_D A [(z 0, .inr (10, mo z 0 0 0 0 0 0 0 0 0 0 (-1) 0 0 0 0 0)), (z 24, aI V 10000 (fun _ => 0)), (z 25, aI V 40000 (fun _ => 0)), (z 26, aI V 10000 (fun _ => 0)), (z 28, aZ V 10000 (fun _ => 0)), (z 1, aI V 3075 (fun _ => 0))] := hD
    refine lv_if_ne (tgt := 15) hx hb dX10_keeps_9 (by decide) (fun _ => ?_) (fun c_9 => absurd c_9 (by decide))
    refine lv_aload_n hx hb dX10_keeps_15 rfl (lv_at hl 0 rfl) ?_
    refine jnV (wr := [(z 26, aI V 10000 (fun _ => 0))]) (rnV (rest := []) ⟨hx, hb, hml, hown, hg⟩ (c_X10_laysStands_0 l V z) mt_X10_laysStands q_7_194 ⟨Nat.le_of_ble_eq_true rfl, Nat.le_of_ble_eq_true rfl⟩ hK hP hD hS hA hE [0, 1, 2, 4, 5] rfl rfl 0 rfl rfl rfl rfl hl.1 rfl (Nat.le_of_ble_eq_true rfl) dX10_keeps_16 ⟨Nat.le_of_ble_eq_true rfl, Nat.le_of_ble_eq_true rfl⟩) hP hD hS hA [0, 1, 2, 4, 5] [3] rfl rfl rfl (by decide) (fun  w H locs hw hP hD hS => ?_)
    subst hw
    have hP : va_P V.1 vwCl [(z 26, aI V 10000 (fun _ => 0)), (z 0, .inr (10, mo z 0 0 0 0 0 0 0 0 0 0 (-1) 0 0 0 0 1)), (z 24, aI V 10000 (fun _ => 0)), (z 25, aI V 40000 (upd (upd (upd (fun _ => 0) 1 (-1)) 2 (-1)) 3 (-1))), (z 28, aZ V 10000 (upd (fun _ => 0) 0 1)), (z 1, aI V 3075 (fun _ => 0))] H := hP
    have hD : va_D A [(z 26, aI V 10000 (fun _ => 0)), (z 0, .inr (10, mo z 0 0 0 0 0 0 0 0 0 0 (-1) 0 0 0 0 1)), (z 24, aI V 10000 (fun _ => 0)), (z 25, aI V 40000 (upd (upd (upd (fun _ => 0) 1 (-1)) 2 (-1)) 3 (-1))), (z 28, aZ V 10000 (upd (fun _ => 0) 0 1)), (z 1, aI V 3075 (fun _ => 0))] := hD
    refine lv_iconst (v := 0) hx hb dX10_keeps_19 (by decide) ?_
    refine lv_istore_n (lv' := [(2, .int 0), (0, .ref (z 0)), (1, .int p0)]) hx hb dX10_keeps_20 rfl hl (by decide) rfl (fun ls hl => ?_)
    refine lv_iload_n hx hb dX10_keeps_21 rfl (lv_at hl 0 rfl) ?_
    refine lv_aload_n hx hb dX10_keeps_22 rfl (lv_at hl 1 rfl) ?_
    refine va_get (ci := 10) (v := .int 1) (C := RX10) (T := TX10) (N := 40) hx hb hg inX10 hown hK hP 1 rfl rfl 29 (by decide) (hg _ q_6_13) (fun _ h9 => h9) rfl dX10_keeps_23 ?_
    refine lv_icmp_ge (tgt := 49) hx hb dX10_keeps_26 (by decide) (fun c_10 => absurd c_10 (by decide)) (fun _ => ?_)
    refine lv_aload_n hx hb dX10_keeps_29 rfl (lv_at hl 1 rfl) ?_
    refine va_get (ci := 10) (v := .ref (z 26)) (C := RX10) (T := TX10) (N := 40) hx hb hg inX10 hown hK hP 1 rfl rfl 26 (by decide) (hg _ q_6_10) (fun _ h9 => h9) rfl dX10_keeps_30 ?_
    refine lv_aload_n hx hb dX10_keeps_33 rfl (lv_at hl 1 rfl) ?_
    refine va_get (ci := 10) (v := .ref (z 24)) (C := RX10) (T := TX10) (N := 40) hx hb hg inX10 hown hK hP 1 rfl rfl 24 (by decide) (hg _ q_6_8) (fun _ h9 => h9) rfl dX10_keeps_34 ?_
    refine lv_iload_n hx hb dX10_keeps_37 rfl (lv_at hl 0 rfl) ?_
    refine va_iald hx hb hK hP 2 0 rfl rfl (vin (by decide +kernel)) dX10_keeps_38 ?_
    refine tpi (y := 0) (rfl) ?_
    refine lv_ldcw (v := 268435456) hx hb hown (hg _ q_7_202) dX10_keeps_39 ?_
    refine va_iast hx hb hK hP hD hS 0 0 rfl rfl (vin (by decide +kernel)) dX10_keeps_42 (fun H locs hP hD hS => ?_)
    have hP : va_P V.1 vwCl [(z 26, aI V 10000 (upd (fun _ => 0) 0 268435456)), (z 0, .inr (10, mo z 0 0 0 0 0 0 0 0 0 0 (-1) 0 0 0 0 1)), (z 24, aI V 10000 (fun _ => 0)), (z 25, aI V 40000 (upd (upd (upd (fun _ => 0) 1 (-1)) 2 (-1)) 3 (-1))), (z 28, aZ V 10000 (upd (fun _ => 0) 0 1)), (z 1, aI V 3075 (fun _ => 0))] H := hP
    have hD : va_D A [(z 26, aI V 10000 (upd (fun _ => 0) 0 268435456)), (z 0, .inr (10, mo z 0 0 0 0 0 0 0 0 0 0 (-1) 0 0 0 0 1)), (z 24, aI V 10000 (fun _ => 0)), (z 25, aI V 40000 (upd (upd (upd (fun _ => 0) 1 (-1)) 2 (-1)) 3 (-1))), (z 28, aZ V 10000 (upd (fun _ => 0) 0 1)), (z 1, aI V 3075 (fun _ => 0))] := hD
    refine lv_iinc (v := 1) (lv' := [(2, .int 1), (0, .ref (z 0)), (1, .int p0)]) hx hb dX10_keeps_43 hl (k := 0) rfl (by decide +kernel) (by decide) rfl (fun ls hl => ?_)
    refine lv_goto (tgt := 21) hx hb dX10_keeps_46 (by decide) ?_
    refine lv_iload_n hx hb dX10_keeps_21 rfl (lv_at hl 0 rfl) ?_
    refine lv_aload_n hx hb dX10_keeps_22 rfl (lv_at hl 1 rfl) ?_
    refine va_get (ci := 10) (v := .int 1) (C := RX10) (T := TX10) (N := 40) hx hb hg inX10 hown hK hP 1 rfl rfl 29 (by decide) (hg _ q_6_13) (fun _ h9 => h9) rfl dX10_keeps_23 ?_
    refine lv_icmp_ge (tgt := 49) hx hb dX10_keeps_26 (by decide) (fun _ => ?_) (fun c_11 => absurd c_11 (by decide))
    refine lv_iconst (v := 1) hx hb dX10_keeps_49 (by decide) ?_
    refine lv_istore_n (lv' := [(2, .int 1), (0, .ref (z 0)), (1, .int p0)]) hx hb dX10_keeps_50 rfl hl (by decide) rfl (fun ls hl => ?_)
    refine lv_iload_n hx hb dX10_keeps_51 rfl (lv_at hl 0 rfl) ?_
    refine lv_if_eq (tgt := 180) hx hb dX10_keeps_52 (by decide) (fun c_12 => absurd c_12 (by decide)) (fun _ => ?_)
    refine lv_iconst (v := 0) hx hb dX10_keeps_55 (by decide) ?_
    refine lv_istore_n (lv' := [(2, .int 0), (0, .ref (z 0)), (1, .int p0)]) hx hb dX10_keeps_56 rfl hl (by decide) rfl (fun ls hl => ?_)
    refine lv_iconst (v := 0) hx hb dX10_keeps_57 (by decide) ?_
    refine lv_istore_n (lv' := [(3, .int 0), (2, .int 0), (0, .ref (z 0)), (1, .int p0)]) hx hb dX10_keeps_58 rfl hl (by decide) rfl (fun ls hl => ?_)
    refine lv_iload_n hx hb dX10_keeps_59 rfl (lv_at hl 0 rfl) ?_
    refine lv_aload_n hx hb dX10_keeps_60 rfl (lv_at hl 2 rfl) ?_
    refine va_get (ci := 10) (v := .int 1) (C := RX10) (T := TX10) (N := 40) hx hb hg inX10 hown hK hP 1 rfl rfl 29 (by decide) (hg _ q_6_13) (fun _ h9 => h9) rfl dX10_keeps_61 ?_
    refine lv_icmp_ge (tgt := 177) hx hb dX10_keeps_64 (by decide) (fun c_13 => absurd c_13 (by decide)) (fun _ => ?_)
    refine lv_aload_n hx hb dX10_keeps_67 rfl (lv_at hl 2 rfl) ?_
    refine va_get (ci := 10) (v := .ref (z 24)) (C := RX10) (T := TX10) (N := 40) hx hb hg inX10 hown hK hP 1 rfl rfl 24 (by decide) (hg _ q_6_8) (fun _ h9 => h9) rfl dX10_keeps_68 ?_
    refine lv_iload_n hx hb dX10_keeps_71 rfl (lv_at hl 0 rfl) ?_
    refine va_iald hx hb hK hP 2 0 rfl rfl (vin (by decide +kernel)) dX10_keeps_72 ?_
    refine tpi (y := 0) (rfl) ?_
    refine lv_istore (lv' := [(4, .int 0), (3, .int 0), (2, .int 0), (0, .ref (z 0)), (1, .int p0)]) hx hb dX10_keeps_73 hl (by decide) rfl (fun ls hl => ?_)
    refine lv_iconst (v := 0) hx hb dX10_keeps_75 (by decide) ?_
    refine lv_istore (lv' := [(5, .int 0), (4, .int 0), (3, .int 0), (2, .int 0), (0, .ref (z 0)), (1, .int p0)]) hx hb dX10_keeps_76 hl (by decide) rfl (fun ls hl => ?_)
    refine lv_iconst (v := 0) hx hb dX10_keeps_78 (by decide) ?_
    refine lv_istore (lv' := [(6, .int 0), (5, .int 0), (4, .int 0), (3, .int 0), (2, .int 0), (0, .ref (z 0)), (1, .int p0)]) hx hb dX10_keeps_79 hl (by decide) rfl (fun ls hl => ?_)
    refine lv_iload hx hb dX10_keeps_81 (lv_at hl 0 rfl) ?_
    refine lv_iconst (v := 4) hx hb dX10_keeps_83 (by decide) ?_
    refine lv_icmp_ge (tgt := 136) hx hb dX10_keeps_84 (by decide) (fun c_14 => absurd c_14 (by decide)) (fun _ => ?_)
    refine lv_aload_n hx hb dX10_keeps_87 rfl (lv_at hl 5 rfl) ?_
    refine va_get (ci := 10) (v := .ref (z 26)) (C := RX10) (T := TX10) (N := 40) hx hb hg inX10 hown hK hP 1 rfl rfl 26 (by decide) (hg _ q_6_10) (fun _ h9 => h9) rfl dX10_keeps_88 ?_
    refine lv_iload hx hb dX10_keeps_91 (lv_at hl 2 rfl) ?_
    refine va_iald hx hb hK hP 0 0 rfl rfl (vin (by decide +kernel)) dX10_keeps_93 ?_
    refine tpi (y := 268435456) (rfl) ?_
    refine lv_ldcw (v := 268435456) hx hb hown (hg _ q_7_202) dX10_keeps_94 ?_
    refine lv_icmp_ne (tgt := 136) hx hb dX10_keeps_97 (by decide) (fun c_15 => absurd c_15 (by decide)) (fun _ => ?_)
    refine lv_aload_n hx hb dX10_keeps_100 rfl (lv_at hl 5 rfl) ?_
    refine lv_iload hx hb dX10_keeps_101 (lv_at hl 2 rfl) ?_
    refine lv_iload hx hb dX10_keeps_103 (lv_at hl 0 rfl) ?_
    refine lv_iload_n hx hb dX10_keeps_105 rfl (lv_at hl 6 rfl) ?_
    refine jnI (wr := [(z 24, aI V 10000 (fun _ => 0)), (z 28, aZ V 10000 (upd (fun _ => 0) 0 1))]) (rnV (rest := []) ⟨hx, hb, hml, hown, hg⟩ (c_X10_keptBy_0 l V z p0) mt_X10_keptBy q_7_236 ⟨Nat.le_of_ble_eq_true rfl, Nat.le_of_ble_eq_true rfl⟩ hK hP hD hS hA hE [0, 1, 3, 5] rfl rfl 1 rfl rfl rfl rfl hl.1 rfl (Nat.le_of_ble_eq_true rfl) dX10_keeps_106 ⟨Nat.le_of_ble_eq_true rfl, Nat.le_of_ble_eq_true rfl⟩) hP hD hS hA [0, 1, 3, 5] [2, 4] rfl rfl rfl (by decide) (fun r_16 w H locs hw hP hD hS => ?_)
    rcases hw with ⟨c_17, rfl, rfl⟩ | ⟨c_18, rfl, rfl⟩
    · have hP : va_P V.1 vwCl [(z 24, aI V 10000 (fun _ => 0)), (z 28, aZ V 10000 (upd (fun _ => 0) 0 1)), (z 26, aI V 10000 (upd (fun _ => 0) 0 268435456)), (z 0, .inr (10, mo z 0 0 0 0 0 0 0 0 0 0 (-1) 0 0 0 0 1)), (z 25, aI V 40000 (upd (upd (upd (fun _ => 0) 1 (-1)) 2 (-1)) 3 (-1))), (z 1, aI V 3075 (fun _ => 0))] H := hP
      have hD : va_D A [(z 24, aI V 10000 (fun _ => 0)), (z 28, aZ V 10000 (upd (fun _ => 0) 0 1)), (z 26, aI V 10000 (upd (fun _ => 0) 0 268435456)), (z 0, .inr (10, mo z 0 0 0 0 0 0 0 0 0 0 (-1) 0 0 0 0 1)), (z 25, aI V 40000 (upd (upd (upd (fun _ => 0) 1 (-1)) 2 (-1)) 3 (-1))), (z 1, aI V 3075 (fun _ => 0))] := hD
      refine lv_iload hx hb dX10_keeps_109 (lv_at hl 1 rfl) ?_
      refine lv_icmp_le (tgt := 126) hx hb dX10_keeps_111 (by decide) (fun c_19 => absurd c_19 (by decide)) (fun _ => ?_)
      refine lv_aload_n hx hb dX10_keeps_114 rfl (lv_at hl 5 rfl) ?_
      refine lv_iload hx hb dX10_keeps_115 (lv_at hl 2 rfl) ?_
      refine lv_iload hx hb dX10_keeps_117 (lv_at hl 0 rfl) ?_
      refine lv_iload_n hx hb dX10_keeps_119 rfl (lv_at hl 6 rfl) ?_
      refine jnI (wr := [(z 24, aI V 10000 (fun _ => 0)), (z 28, aZ V 10000 (upd (fun _ => 0) 0 1))]) (rnV (rest := []) ⟨hx, hb, hml, hown, hg⟩ (c_X10_keptBy_0 l V z p0) mt_X10_keptBy q_7_236 ⟨Nat.le_of_ble_eq_true rfl, Nat.le_of_ble_eq_true rfl⟩ hK hP hD hS hA hE [2, 3, 4, 5] rfl rfl 3 rfl rfl rfl rfl hl.1 rfl (Nat.le_of_ble_eq_true rfl) dX10_keeps_120 ⟨Nat.le_of_ble_eq_true rfl, Nat.le_of_ble_eq_true rfl⟩) hP hD hS hA [2, 3, 4, 5] [0, 1] rfl rfl rfl (by decide) (fun r_20 w H locs hw hP hD hS => ?_)
      rcases hw with ⟨c_21, rfl, rfl⟩ | ⟨c_22, rfl, rfl⟩
      · have hP : va_P V.1 vwCl [(z 24, aI V 10000 (fun _ => 0)), (z 28, aZ V 10000 (upd (fun _ => 0) 0 1)), (z 26, aI V 10000 (upd (fun _ => 0) 0 268435456)), (z 0, .inr (10, mo z 0 0 0 0 0 0 0 0 0 0 (-1) 0 0 0 0 1)), (z 25, aI V 40000 (upd (upd (upd (fun _ => 0) 1 (-1)) 2 (-1)) 3 (-1))), (z 1, aI V 3075 (fun _ => 0))] H := hP
        have hD : va_D A [(z 24, aI V 10000 (fun _ => 0)), (z 28, aZ V 10000 (upd (fun _ => 0) 0 1)), (z 26, aI V 10000 (upd (fun _ => 0) 0 268435456)), (z 0, .inr (10, mo z 0 0 0 0 0 0 0 0 0 0 (-1) 0 0 0 0 1)), (z 25, aI V 40000 (upd (upd (upd (fun _ => 0) 1 (-1)) 2 (-1)) 3 (-1))), (z 1, aI V 3075 (fun _ => 0))] := hD
        refine lv_goto (tgt := 128) hx hb dX10_keeps_123 (by decide) ?_
        refine lv_istore (lv' := [(5, .int 268435456), (6, .int 0), (4, .int 0), (3, .int 0), (2, .int 0), (0, .ref (z 0)), (1, .int p0)]) hx hb dX10_keeps_128 hl (by decide) rfl (fun ls hl => ?_)
        refine lv_iinc (v := 1) (lv' := [(6, .int 1), (5, .int 268435456), (4, .int 0), (3, .int 0), (2, .int 0), (0, .ref (z 0)), (1, .int p0)]) hx hb dX10_keeps_130 hl (k := 1) rfl (by decide +kernel) (by decide) rfl (fun ls hl => ?_)
        refine lv_goto (tgt := 81) hx hb dX10_keeps_133 (by decide) ?_
        refine lv_iload hx hb dX10_keeps_81 (lv_at hl 0 rfl) ?_
        refine lv_iconst (v := 4) hx hb dX10_keeps_83 (by decide) ?_
        refine lv_icmp_ge (tgt := 136) hx hb dX10_keeps_84 (by decide) (fun c_23 => absurd c_23 (by decide)) (fun _ => ?_)
        refine lv_aload_n hx hb dX10_keeps_87 rfl (lv_at hl 5 rfl) ?_
        refine va_get (ci := 10) (v := .ref (z 26)) (C := RX10) (T := TX10) (N := 40) hx hb hg inX10 hown hK hP 3 rfl rfl 26 (by decide) (hg _ q_6_10) (fun _ h9 => h9) rfl dX10_keeps_88 ?_
        refine lv_iload hx hb dX10_keeps_91 (lv_at hl 2 rfl) ?_
        refine va_iald hx hb hK hP 2 0 rfl rfl (vin (by decide +kernel)) dX10_keeps_93 ?_
        refine tpi (y := 268435456) (rfl) ?_
        refine lv_ldcw (v := 268435456) hx hb hown (hg _ q_7_202) dX10_keeps_94 ?_
        refine lv_icmp_ne (tgt := 136) hx hb dX10_keeps_97 (by decide) (fun c_24 => absurd c_24 (by decide)) (fun _ => ?_)
        refine lv_aload_n hx hb dX10_keeps_100 rfl (lv_at hl 5 rfl) ?_
        refine lv_iload hx hb dX10_keeps_101 (lv_at hl 2 rfl) ?_
        refine lv_iload hx hb dX10_keeps_103 (lv_at hl 0 rfl) ?_
        refine lv_iload_n hx hb dX10_keeps_105 rfl (lv_at hl 6 rfl) ?_
        refine jnI (wr := [(z 24, aI V 10000 (fun _ => 0)), (z 28, aZ V 10000 (upd (fun _ => 0) 0 1)), (z 26, aI V 10000 (upd (fun _ => 0) 0 268435456)), (z 1, aI V 3075 (fun _ => 0))]) (rnV (rest := []) ⟨hx, hb, hml, hown, hg⟩ (c_X10_keptBy_1 l V z p0) mt_X10_keptBy q_7_236 ⟨Nat.le_of_ble_eq_true rfl, Nat.le_of_ble_eq_true rfl⟩ hK hP hD hS hA hE [3, 4] rfl rfl 3 rfl rfl rfl rfl hl.1 rfl (Nat.le_of_ble_eq_true rfl) dX10_keeps_106 ⟨Nat.le_of_ble_eq_true rfl, Nat.le_of_ble_eq_true rfl⟩) hP hD hS hA [3, 4] [0, 1, 2, 5] rfl rfl rfl (by decide) (fun r_25 w H locs hw hP hD hS => ?_)
        obtain ⟨rfl, rfl⟩ := hw
        have hP : va_P V.1 vwCl [(z 24, aI V 10000 (fun _ => 0)), (z 28, aZ V 10000 (upd (fun _ => 0) 0 1)), (z 26, aI V 10000 (upd (fun _ => 0) 0 268435456)), (z 1, aI V 3075 (fun _ => 0)), (z 0, .inr (10, mo z 0 0 0 0 0 0 0 0 0 0 (-1) 0 0 0 0 1)), (z 25, aI V 40000 (upd (upd (upd (fun _ => 0) 1 (-1)) 2 (-1)) 3 (-1)))] H := hP
        have hD : va_D A [(z 24, aI V 10000 (fun _ => 0)), (z 28, aZ V 10000 (upd (fun _ => 0) 0 1)), (z 26, aI V 10000 (upd (fun _ => 0) 0 268435456)), (z 1, aI V 3075 (fun _ => 0)), (z 0, .inr (10, mo z 0 0 0 0 0 0 0 0 0 0 (-1) 0 0 0 0 1)), (z 25, aI V 40000 (upd (upd (upd (fun _ => 0) 1 (-1)) 2 (-1)) 3 (-1)))] := hD
        refine lv_iload hx hb dX10_keeps_109 (lv_at hl 1 rfl) ?_
        refine lv_icmp_le (tgt := 126) hx hb dX10_keeps_111 (by decide) (fun _ => ?_) (fun c_26 => absurd c_26 (by decide))
        refine lv_iload hx hb dX10_keeps_126 (lv_at hl 1 rfl) ?_
        refine lv_istore (lv' := [(5, .int 268435456), (6, .int 1), (4, .int 0), (3, .int 0), (2, .int 0), (0, .ref (z 0)), (1, .int p0)]) hx hb dX10_keeps_128 hl (by decide) rfl (fun ls hl => ?_)
        refine lv_iinc (v := 2) (lv' := [(6, .int 2), (5, .int 268435456), (4, .int 0), (3, .int 0), (2, .int 0), (0, .ref (z 0)), (1, .int p0)]) hx hb dX10_keeps_130 hl (k := 1) rfl (by decide +kernel) (by decide) rfl (fun ls hl => ?_)
        refine lv_goto (tgt := 81) hx hb dX10_keeps_133 (by decide) ?_
        refine lv_iload hx hb dX10_keeps_81 (lv_at hl 0 rfl) ?_
        refine lv_iconst (v := 4) hx hb dX10_keeps_83 (by decide) ?_
        refine lv_icmp_ge (tgt := 136) hx hb dX10_keeps_84 (by decide) (fun c_27 => absurd c_27 (by decide)) (fun _ => ?_)
        refine lv_aload_n hx hb dX10_keeps_87 rfl (lv_at hl 5 rfl) ?_
        refine va_get (ci := 10) (v := .ref (z 26)) (C := RX10) (T := TX10) (N := 40) hx hb hg inX10 hown hK hP 4 rfl rfl 26 (by decide) (hg _ q_6_10) (fun _ h9 => h9) rfl dX10_keeps_88 ?_
        refine lv_iload hx hb dX10_keeps_91 (lv_at hl 2 rfl) ?_
        refine va_iald hx hb hK hP 2 0 rfl rfl (vin (by decide +kernel)) dX10_keeps_93 ?_
        refine tpi (y := 268435456) (rfl) ?_
        refine lv_ldcw (v := 268435456) hx hb hown (hg _ q_7_202) dX10_keeps_94 ?_
        refine lv_icmp_ne (tgt := 136) hx hb dX10_keeps_97 (by decide) (fun c_28 => absurd c_28 (by decide)) (fun _ => ?_)
        refine lv_aload_n hx hb dX10_keeps_100 rfl (lv_at hl 5 rfl) ?_
        refine lv_iload hx hb dX10_keeps_101 (lv_at hl 2 rfl) ?_
        refine lv_iload hx hb dX10_keeps_103 (lv_at hl 0 rfl) ?_
        refine lv_iload_n hx hb dX10_keeps_105 rfl (lv_at hl 6 rfl) ?_
        refine jnI (wr := [(z 24, aI V 10000 (fun _ => 0)), (z 28, aZ V 10000 (upd (fun _ => 0) 0 1)), (z 26, aI V 10000 (upd (fun _ => 0) 0 268435456)), (z 1, aI V 3075 (fun _ => 0))]) (rnV (rest := []) ⟨hx, hb, hml, hown, hg⟩ (c_X10_keptBy_2 l V z p0) mt_X10_keptBy q_7_236 ⟨Nat.le_of_ble_eq_true rfl, Nat.le_of_ble_eq_true rfl⟩ hK hP hD hS hA hE [4, 5] rfl rfl 4 rfl rfl rfl rfl hl.1 rfl (Nat.le_of_ble_eq_true rfl) dX10_keeps_106 ⟨Nat.le_of_ble_eq_true rfl, Nat.le_of_ble_eq_true rfl⟩) hP hD hS hA [4, 5] [0, 1, 2, 3] rfl rfl rfl (by decide) (fun r_29 w H locs hw hP hD hS => ?_)
        obtain ⟨rfl, rfl⟩ := hw
        have hP : va_P V.1 vwCl [(z 24, aI V 10000 (fun _ => 0)), (z 28, aZ V 10000 (upd (fun _ => 0) 0 1)), (z 26, aI V 10000 (upd (fun _ => 0) 0 268435456)), (z 1, aI V 3075 (fun _ => 0)), (z 0, .inr (10, mo z 0 0 0 0 0 0 0 0 0 0 (-1) 0 0 0 0 1)), (z 25, aI V 40000 (upd (upd (upd (fun _ => 0) 1 (-1)) 2 (-1)) 3 (-1)))] H := hP
        have hD : va_D A [(z 24, aI V 10000 (fun _ => 0)), (z 28, aZ V 10000 (upd (fun _ => 0) 0 1)), (z 26, aI V 10000 (upd (fun _ => 0) 0 268435456)), (z 1, aI V 3075 (fun _ => 0)), (z 0, .inr (10, mo z 0 0 0 0 0 0 0 0 0 0 (-1) 0 0 0 0 1)), (z 25, aI V 40000 (upd (upd (upd (fun _ => 0) 1 (-1)) 2 (-1)) 3 (-1)))] := hD
        refine lv_iload hx hb dX10_keeps_109 (lv_at hl 1 rfl) ?_
        refine lv_icmp_le (tgt := 126) hx hb dX10_keeps_111 (by decide) (fun _ => ?_) (fun c_30 => absurd c_30 (by decide))
        refine lv_iload hx hb dX10_keeps_126 (lv_at hl 1 rfl) ?_
        refine lv_istore (lv' := [(5, .int 268435456), (6, .int 2), (4, .int 0), (3, .int 0), (2, .int 0), (0, .ref (z 0)), (1, .int p0)]) hx hb dX10_keeps_128 hl (by decide) rfl (fun ls hl => ?_)
        refine lv_iinc (v := 3) (lv' := [(6, .int 3), (5, .int 268435456), (4, .int 0), (3, .int 0), (2, .int 0), (0, .ref (z 0)), (1, .int p0)]) hx hb dX10_keeps_130 hl (k := 1) rfl (by decide +kernel) (by decide) rfl (fun ls hl => ?_)
        refine lv_goto (tgt := 81) hx hb dX10_keeps_133 (by decide) ?_
        refine lv_iload hx hb dX10_keeps_81 (lv_at hl 0 rfl) ?_
        refine lv_iconst (v := 4) hx hb dX10_keeps_83 (by decide) ?_
        refine lv_icmp_ge (tgt := 136) hx hb dX10_keeps_84 (by decide) (fun c_31 => absurd c_31 (by decide)) (fun _ => ?_)
        refine lv_aload_n hx hb dX10_keeps_87 rfl (lv_at hl 5 rfl) ?_
        refine va_get (ci := 10) (v := .ref (z 26)) (C := RX10) (T := TX10) (N := 40) hx hb hg inX10 hown hK hP 4 rfl rfl 26 (by decide) (hg _ q_6_10) (fun _ h9 => h9) rfl dX10_keeps_88 ?_
        refine lv_iload hx hb dX10_keeps_91 (lv_at hl 2 rfl) ?_
        refine va_iald hx hb hK hP 2 0 rfl rfl (vin (by decide +kernel)) dX10_keeps_93 ?_
        refine tpi (y := 268435456) (rfl) ?_
        refine lv_ldcw (v := 268435456) hx hb hown (hg _ q_7_202) dX10_keeps_94 ?_
        refine lv_icmp_ne (tgt := 136) hx hb dX10_keeps_97 (by decide) (fun c_32 => absurd c_32 (by decide)) (fun _ => ?_)
        refine lv_aload_n hx hb dX10_keeps_100 rfl (lv_at hl 5 rfl) ?_
        refine lv_iload hx hb dX10_keeps_101 (lv_at hl 2 rfl) ?_
        refine lv_iload hx hb dX10_keeps_103 (lv_at hl 0 rfl) ?_
        refine lv_iload_n hx hb dX10_keeps_105 rfl (lv_at hl 6 rfl) ?_
        refine jnI (wr := [(z 24, aI V 10000 (fun _ => 0)), (z 28, aZ V 10000 (upd (fun _ => 0) 0 1)), (z 26, aI V 10000 (upd (fun _ => 0) 0 268435456)), (z 1, aI V 3075 (fun _ => 0))]) (rnV (rest := []) ⟨hx, hb, hml, hown, hg⟩ (c_X10_keptBy_3 l V z p0) mt_X10_keptBy q_7_236 ⟨Nat.le_of_ble_eq_true rfl, Nat.le_of_ble_eq_true rfl⟩ hK hP hD hS hA hE [4, 5] rfl rfl 4 rfl rfl rfl rfl hl.1 rfl (Nat.le_of_ble_eq_true rfl) dX10_keeps_106 ⟨Nat.le_of_ble_eq_true rfl, Nat.le_of_ble_eq_true rfl⟩) hP hD hS hA [4, 5] [0, 1, 2, 3] rfl rfl rfl (by decide) (fun r_33 w H locs hw hP hD hS => ?_)
        obtain ⟨rfl, rfl⟩ := hw
        have hP : va_P V.1 vwCl [(z 24, aI V 10000 (fun _ => 0)), (z 28, aZ V 10000 (upd (fun _ => 0) 0 1)), (z 26, aI V 10000 (upd (fun _ => 0) 0 268435456)), (z 1, aI V 3075 (fun _ => 0)), (z 0, .inr (10, mo z 0 0 0 0 0 0 0 0 0 0 (-1) 0 0 0 0 1)), (z 25, aI V 40000 (upd (upd (upd (fun _ => 0) 1 (-1)) 2 (-1)) 3 (-1)))] H := hP
        have hD : va_D A [(z 24, aI V 10000 (fun _ => 0)), (z 28, aZ V 10000 (upd (fun _ => 0) 0 1)), (z 26, aI V 10000 (upd (fun _ => 0) 0 268435456)), (z 1, aI V 3075 (fun _ => 0)), (z 0, .inr (10, mo z 0 0 0 0 0 0 0 0 0 0 (-1) 0 0 0 0 1)), (z 25, aI V 40000 (upd (upd (upd (fun _ => 0) 1 (-1)) 2 (-1)) 3 (-1)))] := hD
        refine lv_iload hx hb dX10_keeps_109 (lv_at hl 1 rfl) ?_
        refine lv_icmp_le (tgt := 126) hx hb dX10_keeps_111 (by decide) (fun _ => ?_) (fun c_34 => absurd c_34 (by decide))
        refine lv_iload hx hb dX10_keeps_126 (lv_at hl 1 rfl) ?_
        refine lv_istore (lv' := [(5, .int 268435456), (6, .int 3), (4, .int 0), (3, .int 0), (2, .int 0), (0, .ref (z 0)), (1, .int p0)]) hx hb dX10_keeps_128 hl (by decide) rfl (fun ls hl => ?_)
        refine lv_iinc (v := 4) (lv' := [(6, .int 4), (5, .int 268435456), (4, .int 0), (3, .int 0), (2, .int 0), (0, .ref (z 0)), (1, .int p0)]) hx hb dX10_keeps_130 hl (k := 1) rfl (by decide +kernel) (by decide) rfl (fun ls hl => ?_)
        refine lv_goto (tgt := 81) hx hb dX10_keeps_133 (by decide) ?_
        refine lv_iload hx hb dX10_keeps_81 (lv_at hl 0 rfl) ?_
        refine lv_iconst (v := 4) hx hb dX10_keeps_83 (by decide) ?_
        refine lv_icmp_ge (tgt := 136) hx hb dX10_keeps_84 (by decide) (fun _ => ?_) (fun c_35 => absurd c_35 (by decide))
        refine lv_aload_n hx hb dX10_keeps_136 rfl (lv_at hl 5 rfl) ?_
        refine va_get (ci := 10) (v := .ref (z 26)) (C := RX10) (T := TX10) (N := 40) hx hb hg inX10 hown hK hP 4 rfl rfl 26 (by decide) (hg _ q_6_10) (fun _ h9 => h9) rfl dX10_keeps_137 ?_
        refine lv_iload hx hb dX10_keeps_140 (lv_at hl 2 rfl) ?_
        refine va_iald hx hb hK hP 2 0 rfl rfl (vin (by decide +kernel)) dX10_keeps_142 ?_
        refine tpi (y := 268435456) (rfl) ?_
        refine lv_ldcw (v := 268435456) hx hb hown (hg _ q_7_202) dX10_keeps_143 ?_
        refine lv_icmp_lt (tgt := 171) hx hb dX10_keeps_146 (by decide) (fun c_36 => absurd c_36 (by decide)) (fun _ => ?_)
        refine lv_iload hx hb dX10_keeps_149 (lv_at hl 1 rfl) ?_
        refine lv_ldcw (v := 268435456) hx hb hown (hg _ q_7_202) dX10_keeps_151 ?_
        refine lv_icmp_ne (tgt := 160) hx hb dX10_keeps_154 (by decide) (fun c_37 => absurd c_37 (by decide)) (fun _ => ?_)
        refine lv_goto (tgt := 171) hx hb dX10_keeps_157 (by decide) ?_
        refine lv_iinc (v := 1) (lv' := [(3, .int 1), (6, .int 4), (5, .int 268435456), (4, .int 0), (2, .int 0), (0, .ref (z 0)), (1, .int p0)]) hx hb dX10_keeps_171 hl (k := 3) rfl (by decide +kernel) (by decide) rfl (fun ls hl => ?_)
        refine lv_goto (tgt := 59) hx hb dX10_keeps_174 (by decide) ?_
        refine lv_iload_n hx hb dX10_keeps_59 rfl (lv_at hl 0 rfl) ?_
        refine lv_aload_n hx hb dX10_keeps_60 rfl (lv_at hl 5 rfl) ?_
        refine va_get (ci := 10) (v := .int 1) (C := RX10) (T := TX10) (N := 40) hx hb hg inX10 hown hK hP 4 rfl rfl 29 (by decide) (hg _ q_6_13) (fun _ h9 => h9) rfl dX10_keeps_61 ?_
        refine lv_icmp_ge (tgt := 177) hx hb dX10_keeps_64 (by decide) (fun _ => ?_) (fun c_38 => absurd c_38 (by decide))
        refine lv_goto (tgt := 51) hx hb dX10_keeps_177 (by decide) ?_
        refine lv_iload_n hx hb dX10_keeps_51 rfl (lv_at hl 4 rfl) ?_
        refine lv_if_eq (tgt := 180) hx hb dX10_keeps_52 (by decide) (fun _ => ?_) (fun c_39 => absurd c_39 (by decide))
        refine lv_aload_n hx hb dX10_keeps_180 rfl (lv_at hl 5 rfl) ?_
        refine va_get (ci := 10) (v := .ref (z 26)) (C := RX10) (T := TX10) (N := 40) hx hb hg inX10 hown hK hP 4 rfl rfl 26 (by decide) (hg _ q_6_10) (fun _ h9 => h9) rfl dX10_keeps_181 ?_
        refine lv_aload_n hx hb dX10_keeps_184 rfl (lv_at hl 5 rfl) ?_
        refine jnI (wr := [(z 24, aI V 10000 (fun _ => 0)), (z 28, aZ V 10000 (upd (fun _ => 0) 0 1)), (z 26, aI V 10000 (upd (fun _ => 0) 0 268435456)), (z 25, aI V 40000 (upd (upd (upd (fun _ => 0) 1 (-1)) 2 (-1)) 3 (-1)))]) (rnV (rest := [.ref (z 26)]) ⟨hx, hb, hml, hown, hg⟩ (c_X10_standNow_2 l V z) mt_X10_standNow q_7_11 ⟨Nat.le_of_ble_eq_true rfl, Nat.le_of_ble_eq_true rfl⟩ hK hP hD hS hA hE [3, 4] rfl rfl 4 rfl rfl rfl rfl hl.1 rfl (Nat.le_of_ble_eq_true rfl) dX10_keeps_185 ⟨Nat.le_of_ble_eq_true rfl, Nat.le_of_ble_eq_true rfl⟩) hP hD hS hA [3, 4] [0, 1, 2, 5] rfl rfl rfl (by decide) (fun r_40 w H locs hw hP hD hS => ?_)
        obtain ⟨rfl, rfl⟩ := hw
        have hP : va_P V.1 vwCl [(z 24, aI V 10000 (fun _ => 0)), (z 28, aZ V 10000 (upd (fun _ => 0) 0 1)), (z 26, aI V 10000 (upd (fun _ => 0) 0 268435456)), (z 25, aI V 40000 (upd (upd (upd (fun _ => 0) 1 (-1)) 2 (-1)) 3 (-1))), (z 1, aI V 3075 (fun _ => 0)), (z 0, .inr (10, mo z 0 0 0 0 0 0 0 0 0 0 (-1) 0 0 0 0 1))] H := hP
        have hD : va_D A [(z 24, aI V 10000 (fun _ => 0)), (z 28, aZ V 10000 (upd (fun _ => 0) 0 1)), (z 26, aI V 10000 (upd (fun _ => 0) 0 268435456)), (z 25, aI V 40000 (upd (upd (upd (fun _ => 0) 1 (-1)) 2 (-1)) 3 (-1))), (z 1, aI V 3075 (fun _ => 0)), (z 0, .inr (10, mo z 0 0 0 0 0 0 0 0 0 0 (-1) 0 0 0 0 1))] := hD
        refine va_iald hx hb hK hP 2 0 rfl rfl (vin (by decide +kernel)) dX10_keeps_188 ?_
        refine tpi (y := 268435456) (rfl) ?_
        refine jnI (wr := [(z 24, aI V 10000 (fun _ => 0)), (z 28, aZ V 10000 (upd (fun _ => 0) 0 1)), (z 26, aI V 10000 (upd (fun _ => 0) 0 268435456)), (z 25, aI V 40000 (upd (upd (upd (fun _ => 0) 1 (-1)) 2 (-1)) 3 (-1))), (z 1, aI V 3075 (fun _ => 0)), (z 0, .inr (10, mo z 0 0 0 0 0 0 0 0 0 0 (-1) 0 0 0 0 1))]) (rnS (rest := []) ⟨hx, hb, hml, hown, hg⟩ (c_X10_toldFar_0 l V) mt_X10_toldFar q_7_207 ⟨Nat.le_of_ble_eq_true rfl, Nat.le_of_ble_eq_true rfl⟩ hK hP hD hS hA hE [] rfl rfl rfl hl.1 rfl (Nat.le_of_ble_eq_true rfl) dX10_keeps_189 ⟨Nat.le_of_ble_eq_true rfl, Nat.le_of_ble_eq_true rfl⟩) hP hD hS hA [] [0, 1, 2, 3, 4, 5] rfl rfl rfl (by decide) (fun r_41 w H locs hw hP hD hS => ?_)
        obtain ⟨rfl, rfl⟩ := hw
        have hP : va_P V.1 vwCl [(z 24, aI V 10000 (fun _ => 0)), (z 28, aZ V 10000 (upd (fun _ => 0) 0 1)), (z 26, aI V 10000 (upd (fun _ => 0) 0 268435456)), (z 25, aI V 40000 (upd (upd (upd (fun _ => 0) 1 (-1)) 2 (-1)) 3 (-1))), (z 1, aI V 3075 (fun _ => 0)), (z 0, .inr (10, mo z 0 0 0 0 0 0 0 0 0 0 (-1) 0 0 0 0 1))] H := hP
        have hD : va_D A [(z 24, aI V 10000 (fun _ => 0)), (z 28, aZ V 10000 (upd (fun _ => 0) 0 1)), (z 26, aI V 10000 (upd (fun _ => 0) 0 268435456)), (z 25, aI V 40000 (upd (upd (upd (fun _ => 0) 1 (-1)) 2 (-1)) 3 (-1))), (z 1, aI V 3075 (fun _ => 0)), (z 0, .inr (10, mo z 0 0 0 0 0 0 0 0 0 0 (-1) 0 0 0 0 1))] := hD
        have hP := subP (ws' := [(z 0, .inr (10, mo z 0 0 0 0 0 0 0 0 0 0 (-1) 0 0 0 0 1)), (z 24, aI V 10000 (fun _ => 0)), (z 25, aI V 40000 (upd (upd (upd (fun _ => 0) 1 (-1)) 2 (-1)) 3 (-1))), (z 26, aI V 10000 (upd (fun _ => 0) 0 268435456)), (z 28, aZ V 10000 (upd (fun _ => 0) 0 1)), (z 1, aI V 3075 (fun _ => 0))]) hP [5, 0, 3, 2, 1, 4] rfl
        have hD := hD.sub (ws' := [(z 0, .inr (10, mo z 0 0 0 0 0 0 0 0 0 0 (-1) 0 0 0 0 1)), (z 24, aI V 10000 (fun _ => 0)), (z 25, aI V 40000 (upd (upd (upd (fun _ => 0) 1 (-1)) 2 (-1)) 3 (-1))), (z 26, aI V 10000 (upd (fun _ => 0) 0 268435456)), (z 28, aZ V 10000 (upd (fun _ => 0) 0 1)), (z 1, aI V 3075 (fun _ => 0))]) [5, 0, 3, 2, 1, 4] rfl rfl
        exact fiI hx hb hr hlk hK hP hD hS dX10_keeps_192 (Nat.le_of_ble_eq_true rfl) (Nat.le_of_ble_eq_true rfl) (Or.inr (Or.inr (⟨c_5, c_6, c_17, c_21, rfl, rfl⟩)))
      · exact False.elim (by simp only [tI_lt, tI_le, tI_eq, tL_lt, tL_le, tL_eq, tWx, (by decide : (0 : Int64).toInt = 0), (by decide : (4 : Int32).toInt = 4), (by decide : (4 : Int64).toInt = 4)] at c_5 c_6 c_17 c_22; omega)
    · exact False.elim (by simp only [tI_lt, tI_le, tI_eq, tL_lt, tL_le, tL_eq, tWx, (by decide : (0 : Int64).toInt = 0), (by decide : (4 : Int32).toInt = 4), (by decide : (4 : Int64).toInt = 4)] at c_5 c_6 c_18; omega)
theorem dX9_isHeight_0 : decode cX9_isHeight 0 = .ok (.iload_n 0, 1) := by decide +kernel
theorem dX9_isHeight_1 : decode cX9_isHeight 1 = .ok (.ifCond .lt 12, 3) := by decide +kernel
theorem dX9_isHeight_13 : decode cX9_isHeight 13 = .ok (.iconst 0, 1) := by decide +kernel
theorem dX9_isHeight_14 : decode cX9_isHeight 14 = .ok (.ireturn, 1) := by decide +kernel
theorem dX9_isHeight_4 : decode cX9_isHeight 4 = .ok (.iload_n 0, 1) := by decide +kernel
theorem dX9_isHeight_5 : decode cX9_isHeight 5 = .ok (.iconst 4, 1) := by decide +kernel
theorem dX9_isHeight_6 : decode cX9_isHeight 6 = .ok (.if_icmp .gt 7, 3) := by decide +kernel
theorem dX9_isHeight_9 : decode cX9_isHeight 9 = .ok (.iconst 1, 1) := by decide +kernel
theorem dX9_isHeight_10 : decode cX9_isHeight 10 = .ok (.goto 4, 3) := by decide +kernel
set_option maxHeartbeats 4000000 in
set_option maxRecDepth 100000 in
theorem c_X9_isHeight_0 (l : Launch) (V : GV) (p0 : Int32) : Ct l V yX9_isHeight (.code yX9_isHeight cX9_isHeight 1 (some .boolean)) 1 [.int p0] [] 0 0 (QI V (fun (r : Int32) (w : va_W) => (p0 < 0 ∧ r = 0 ∧ w = []) ∨ ((¬ p0 < 0) ∧ 4 < p0 ∧ r = 0 ∧ w = []) ∨ ((¬ p0 < 0) ∧ (¬ 4 < p0) ∧ r = 1 ∧ w = []))) := by
  refine Ct.of (by decide) (Nat.le_of_ble_eq_true rfl) (fun p e s m below meth c A ls hx hb hr hml hown hlk hnm hg hP hK hD hE hA hS hl => ?_)
  have hl : lv_has ls 1 [(0, .int p0)] := hl
  refine lv_iload_n hx hb dX9_isHeight_0 rfl (lv_at hl 0 rfl) ?_
  refine lv_if_lt (tgt := 13) hx hb dX9_isHeight_1 (by decide) (fun c_1 => ?_) (fun c_1 => ?_)
  · refine lv_iconst (v := 0) hx hb dX9_isHeight_13 (by decide) ?_
    exact fiZ rfl hx hb hr hlk hK hP hD hS dX9_isHeight_14 (Nat.le_of_ble_eq_true rfl) (Nat.le_of_ble_eq_true rfl) (Or.inl ⟨c_1, rfl, rfl⟩)
  · refine lv_iload_n hx hb dX9_isHeight_4 rfl (lv_at hl 0 rfl) ?_
    refine lv_iconst (v := 4) hx hb dX9_isHeight_5 (by decide) ?_
    refine lv_icmp_gt (tgt := 13) hx hb dX9_isHeight_6 (by decide) (fun c_2 => ?_) (fun c_2 => ?_)
    · refine lv_iconst (v := 0) hx hb dX9_isHeight_13 (by decide) ?_
      exact fiZ rfl hx hb hr hlk hK hP hD hS dX9_isHeight_14 (Nat.le_of_ble_eq_true rfl) (Nat.le_of_ble_eq_true rfl) (Or.inr (Or.inl ⟨c_1, c_2, rfl, rfl⟩))
    · refine lv_iconst (v := 1) hx hb dX9_isHeight_9 (by decide) ?_
      refine lv_goto (tgt := 14) hx hb dX9_isHeight_10 (by decide) ?_
      exact fiZ rfl hx hb hr hlk hK hP hD hS dX9_isHeight_14 (Nat.le_of_ble_eq_true rfl) (Nat.le_of_ble_eq_true rfl) (Or.inr (Or.inr (⟨c_1, c_2, rfl, rfl⟩)))
theorem dX8_init_0 : decode cX8_init 0 = .ok (.aload_n 0, 1) := by decide +kernel
theorem q_4_61 : Cond.methodLink "BeaconDelay$Ways" 3 objectInit ∈ gw := gw_4 (i := 61) (by decide +kernel) rfl
theorem dX8_init_1 : decode cX8_init 1 = .ok (.invokespecial 3, 3) := by decide +kernel
theorem dX8_init_4 : decode cX8_init 4 = .ok (.aload_n 0, 1) := by decide +kernel
theorem dX8_init_5 : decode cX8_init 5 = .ok (.iconst 4, 1) := by decide +kernel
theorem dX8_init_6 : decode cX8_init 6 = .ok (.newarray .int, 2) := by decide +kernel
theorem q_4_86 : Cond.fieldLink "BeaconDelay$Ways" 9 "BeaconDelay$Ways" "shift" "[I" ∈ gw := gw_4 (i := 86) (by decide +kernel) rfl
theorem dX8_init_8 : decode cX8_init 8 = .ok (.putfield 9, 3) := by decide +kernel
theorem dX8_init_11 : decode cX8_init 11 = .ok (.aload_n 0, 1) := by decide +kernel
theorem dX8_init_12 : decode cX8_init 12 = .ok (.aload_n 1, 1) := by decide +kernel
theorem q_4_81 : Cond.fieldLink "BeaconDelay$Ways" 15 "BeaconDelay$Ways" "laws" "LBeaconDelay$Laws;" ∈ gw := gw_4 (i := 81) (by decide +kernel) rfl
theorem dX8_init_13 : decode cX8_init 13 = .ok (.putfield 15, 3) := by decide +kernel
theorem dX8_init_16 : decode cX8_init 16 = .ok (.aload_n 0, 1) := by decide +kernel
theorem dX8_init_17 : decode cX8_init 17 = .ok (.iload_n 2, 1) := by decide +kernel
theorem q_4_65 : Cond.fieldLink "BeaconDelay$Ways" 19 "BeaconDelay$Ways" "mostHills" "I" ∈ gw := gw_4 (i := 65) (by decide +kernel) rfl
theorem dX8_init_18 : decode cX8_init 18 = .ok (.putfield 19, 3) := by decide +kernel
theorem dX8_init_21 : decode cX8_init 21 = .ok (.aload_n 0, 1) := by decide +kernel
theorem dX8_init_22 : decode cX8_init 22 = .ok (.getstatic 23, 3) := by decide +kernel
theorem dX8_init_25 : decode cX8_init 25 = .ok (.iload_n 2, 1) := by decide +kernel
theorem dX8_init_26 : decode cX8_init 26 = .ok (.iaload, 1) := by decide +kernel
theorem q_4_67 : Cond.fieldLink "BeaconDelay$Ways" 26 "BeaconDelay$Ways" "size" "I" ∈ gw := gw_4 (i := 67) (by decide +kernel) rfl
theorem dX8_init_27 : decode cX8_init 27 = .ok (.putfield 26, 3) := by decide +kernel
theorem dX8_init_30 : decode cX8_init 30 = .ok (.aload_n 0, 1) := by decide +kernel
theorem dX8_init_31 : decode cX8_init 31 = .ok (.aload_n 0, 1) := by decide +kernel
theorem dX8_init_32 : decode cX8_init 32 = .ok (.getfield 26, 3) := by decide +kernel
theorem dX8_init_35 : decode cX8_init 35 = .ok (.newarray .int, 2) := by decide +kernel
theorem q_4_69 : Cond.fieldLink "BeaconDelay$Ways" 29 "BeaconDelay$Ways" "met" "[I" ∈ gw := gw_4 (i := 69) (by decide +kernel) rfl
theorem dX8_init_37 : decode cX8_init 37 = .ok (.putfield 29, 3) := by decide +kernel
theorem dX8_init_40 : decode cX8_init 40 = .ok (.aload_n 0, 1) := by decide +kernel
theorem dX8_init_41 : decode cX8_init 41 = .ok (.aload_n 0, 1) := by decide +kernel
theorem dX8_init_42 : decode cX8_init 42 = .ok (.getfield 26, 3) := by decide +kernel
theorem dX8_init_45 : decode cX8_init 45 = .ok (.newarray .int, 2) := by decide +kernel
theorem q_4_72 : Cond.fieldLink "BeaconDelay$Ways" 32 "BeaconDelay$Ways" "level" "[I" ∈ gw := gw_4 (i := 72) (by decide +kernel) rfl
theorem dX8_init_47 : decode cX8_init 47 = .ok (.putfield 32, 3) := by decide +kernel
theorem dX8_init_50 : decode cX8_init 50 = .ok (.aload_n 0, 1) := by decide +kernel
theorem dX8_init_51 : decode cX8_init 51 = .ok (.getstatic 35, 3) := by decide +kernel
theorem dX8_init_54 : decode cX8_init 54 = .ok (.iload_n 2, 1) := by decide +kernel
theorem dX8_init_55 : decode cX8_init 55 = .ok (.iaload, 1) := by decide +kernel
theorem dX8_init_56 : decode cX8_init 56 = .ok (.newarray .int, 2) := by decide +kernel
theorem q_4_82 : Cond.fieldLink "BeaconDelay$Ways" 38 "BeaconDelay$Ways" "numberOf" "[I" ∈ gw := gw_4 (i := 82) (by decide +kernel) rfl
theorem dX8_init_58 : decode cX8_init 58 = .ok (.putfield 38, 3) := by decide +kernel
theorem dX8_init_61 : decode cX8_init 61 = .ok (.aload_n 0, 1) := by decide +kernel
theorem dX8_init_62 : decode cX8_init 62 = .ok (.aload_n 0, 1) := by decide +kernel
theorem dX8_init_63 : decode cX8_init 63 = .ok (.getfield 26, 3) := by decide +kernel
theorem dX8_init_66 : decode cX8_init 66 = .ok (.newarray .int, 2) := by decide +kernel
theorem q_4_83 : Cond.fieldLink "BeaconDelay$Ways" 41 "BeaconDelay$Ways" "from" "[I" ∈ gw := gw_4 (i := 83) (by decide +kernel) rfl
theorem dX8_init_68 : decode cX8_init 68 = .ok (.putfield 41, 3) := by decide +kernel
theorem dX8_init_71 : decode cX8_init 71 = .ok (.aload_n 0, 1) := by decide +kernel
theorem dX8_init_72 : decode cX8_init 72 = .ok (.aload_n 0, 1) := by decide +kernel
theorem dX8_init_73 : decode cX8_init 73 = .ok (.getfield 26, 3) := by decide +kernel
theorem dX8_init_76 : decode cX8_init 76 = .ok (.iconst 4, 1) := by decide +kernel
theorem dX8_init_77 : decode cX8_init 77 = .ok (.imul, 1) := by decide +kernel
theorem dX8_init_78 : decode cX8_init 78 = .ok (.newarray .int, 2) := by decide +kernel
theorem q_4_84 : Cond.fieldLink "BeaconDelay$Ways" 44 "BeaconDelay$Ways" "next" "[I" ∈ gw := gw_4 (i := 84) (by decide +kernel) rfl
theorem dX8_init_80 : decode cX8_init 80 = .ok (.putfield 44, 3) := by decide +kernel
theorem dX8_init_83 : decode cX8_init 83 = .ok (.aload_n 0, 1) := by decide +kernel
theorem dX8_init_84 : decode cX8_init 84 = .ok (.aload_n 0, 1) := by decide +kernel
theorem dX8_init_85 : decode cX8_init 85 = .ok (.getfield 26, 3) := by decide +kernel
theorem dX8_init_88 : decode cX8_init 88 = .ok (.newarray .int, 2) := by decide +kernel
theorem q_4_85 : Cond.fieldLink "BeaconDelay$Ways" 47 "BeaconDelay$Ways" "queue" "[I" ∈ gw := gw_4 (i := 85) (by decide +kernel) rfl
theorem dX8_init_90 : decode cX8_init 90 = .ok (.putfield 47, 3) := by decide +kernel
theorem dX8_init_93 : decode cX8_init 93 = .ok (.aload_n 0, 1) := by decide +kernel
theorem dX8_init_94 : decode cX8_init 94 = .ok (.aload_n 0, 1) := by decide +kernel
theorem dX8_init_95 : decode cX8_init 95 = .ok (.getfield 26, 3) := by decide +kernel
theorem dX8_init_98 : decode cX8_init 98 = .ok (.newarray .int, 2) := by decide +kernel
theorem q_4_74 : Cond.fieldLink "BeaconDelay$Ways" 50 "BeaconDelay$Ways" "weight" "[I" ∈ gw := gw_4 (i := 74) (by decide +kernel) rfl
theorem dX8_init_100 : decode cX8_init 100 = .ok (.putfield 50, 3) := by decide +kernel
theorem dX8_init_103 : decode cX8_init 103 = .ok (.aload_n 0, 1) := by decide +kernel
theorem dX8_init_104 : decode cX8_init 104 = .ok (.aload_n 0, 1) := by decide +kernel
theorem dX8_init_105 : decode cX8_init 105 = .ok (.getfield 26, 3) := by decide +kernel
theorem dX8_init_108 : decode cX8_init 108 = .ok (.newarray .int, 2) := by decide +kernel
theorem q_4_87 : Cond.fieldLink "BeaconDelay$Ways" 53 "BeaconDelay$Ways" "weightThen" "[I" ∈ gw := gw_4 (i := 87) (by decide +kernel) rfl
theorem dX8_init_110 : decode cX8_init 110 = .ok (.putfield 53, 3) := by decide +kernel
theorem dX8_init_113 : decode cX8_init 113 = .ok (.return_, 1) := by decide +kernel
set_option maxHeartbeats 4000000 in
set_option maxRecDepth 100000 in
theorem c_X8_init_0 (l : Launch) (V : GV) (y : Nat → Nat) (h0 : Nat) : Ct l V yX8_init (.code yX8_init cX8_init 3 none) 1 [.ref h0, .ref (y 19), .int 0] [(h0, .inr (8, [.int 0, .int 0, .null, .null, .null, .int 0, .int 0, .null, .null, .null, .null, .null, .null, .null, .int 0, .int 0, .int 0]))] 9 15 (QV V (fun (w : va_W) => (∃ (q_1 : Nat) (q_2 : Nat) (q_3 : Nat) (q_4 : Nat) (q_5 : Nat) (q_6 : Nat) (q_7 : Nat) (q_8 : Nat) (q_9 : Nat), w = [(h0, .inr (8, [.int 0, .int 1, .ref q_2, .ref q_3, .ref q_8, .int 0, .int 0, .ref (y 19), .ref q_4, .ref q_5, .ref q_6, .ref q_7, .ref q_1, .ref q_9, .int 0, .int 0, .int 0])), (q_1, aI V 4 (fun _ => 0)), (q_2, aI V 1 (fun _ => 0)), (q_3, aI V 1 (fun _ => 0)), (q_4, aI V 1 (fun _ => 0)), (q_5, aI V 1 (fun _ => 0)), (q_6, aI V 4 (fun _ => 0)), (q_7, aI V 1 (fun _ => 0)), (q_8, aI V 1 (fun _ => 0)), (q_9, aI V 1 (fun _ => 0))]))) := by
  refine Ct.of (by decide) (Nat.le_of_ble_eq_true rfl) (fun p e s m below meth c A ls hx hb hr hml hown hlk hnm hg hP hK hD hE hA hS hl => ?_)
  have hl : lv_has ls 3 [(0, .ref h0), (1, .ref (y 19)), (2, .int 0)] := hl
  refine lv_aload_n hx hb dX8_init_0 rfl (lv_at hl 0 rfl) ?_
  refine W.objInit hx hb hown (hg _ q_4_61) (hg _ q_1_27) (hg _ q_1_28) rfl (by rw [hml]; exact hl.1) rfl dX8_init_1 (Nat.le_of_ble_eq_true rfl) (Nat.le_of_ble_eq_true rfl) ?_
  refine W.eq (g2 := F0 m 4 ls []) rfl ?_
  refine lv_aload_n hx hb dX8_init_4 rfl (lv_at hl 0 rfl) ?_
  refine lv_iconst (v := 4) hx hb dX8_init_5 (by decide) ?_
  refine nwA (atype := .int) (ty := .int) (a0 := (4, .inl (fun _ => 0))) hx hb hg q_1_125 rfl hK hP hD hS hA 0 rfl (fun _ => rfl) (by decide) (by decide +kernel) (Nat.le_of_ble_eq_true rfl) (Nat.le_of_ble_eq_true rfl) (Nat.le_of_ble_eq_true rfl) dX8_init_6 (fun q_1 H hP hD hS => ?_)
  refine W.widen (k := 1) (n := 4) (Nat.le_of_ble_eq_true rfl) (Nat.le_of_ble_eq_true rfl) ?_
  have hP : va_P V.1 vwCl [(h0, .inr (8, [.int 0, .int 0, .null, .null, .null, .int 0, .int 0, .null, .null, .null, .null, .null, .null, .null, .int 0, .int 0, .int 0])), (q_1, aI V 4 (fun _ => 0))] H := hP
  have hD : va_D A [(h0, .inr (8, [.int 0, .int 0, .null, .null, .null, .int 0, .int 0, .null, .null, .null, .null, .null, .null, .null, .int 0, .int 0, .int 0])), (q_1, aI V 4 (fun _ => 0))] := hD
  refine va_putF (ci := 8) (v := .ref q_1) (ty := (.array .int)) (C := RX8) (T := TX8) (N := 17) hx hb hg inX8 tyX8 tyX8_ok nmX8 hown hK hP hD hS 0 rfl rfl 12 (by decide) (hg _ q_4_86) (fun _ h9 => h9) rfl hnm rfl (by decide +kernel) rfl rfl (Nat.le_of_ble_eq_true rfl) dX8_init_8 (fun H locs hP hD hS => ?_)
  have hP : va_P V.1 vwCl [(h0, .inr (8, [.int 0, .int 0, .null, .null, .null, .int 0, .int 0, .null, .null, .null, .null, .null, .ref q_1, .null, .int 0, .int 0, .int 0])), (q_1, aI V 4 (fun _ => 0))] H := hP
  have hD : va_D A [(h0, .inr (8, [.int 0, .int 0, .null, .null, .null, .int 0, .int 0, .null, .null, .null, .null, .null, .ref q_1, .null, .int 0, .int 0, .int 0])), (q_1, aI V 4 (fun _ => 0))] := hD
  refine lv_aload_n hx hb dX8_init_11 rfl (lv_at hl 0 rfl) ?_
  refine lv_aload_n hx hb dX8_init_12 rfl (lv_at hl 1 rfl) ?_
  refine va_putF (ci := 8) (v := .ref (y 19)) (ty := (.object "BeaconDelay$Laws")) (C := RX8) (T := TX8) (N := 17) hx hb hg inX8 tyX8 tyX8_ok nmX8 hown hK hP hD hS 0 rfl rfl 7 (by decide) (hg _ q_4_81) (fun _ h9 => h9) rfl hnm rfl (by decide +kernel) rfl rfl (Nat.le_of_ble_eq_true rfl) dX8_init_13 (fun H locs hP hD hS => ?_)
  have hP : va_P V.1 vwCl [(h0, .inr (8, [.int 0, .int 0, .null, .null, .null, .int 0, .int 0, .ref (y 19), .null, .null, .null, .null, .ref q_1, .null, .int 0, .int 0, .int 0])), (q_1, aI V 4 (fun _ => 0))] H := hP
  have hD : va_D A [(h0, .inr (8, [.int 0, .int 0, .null, .null, .null, .int 0, .int 0, .ref (y 19), .null, .null, .null, .null, .ref q_1, .null, .int 0, .int 0, .int 0])), (q_1, aI V 4 (fun _ => 0))] := hD
  refine lv_aload_n hx hb dX8_init_16 rfl (lv_at hl 0 rfl) ?_
  refine lv_iload_n hx hb dX8_init_17 rfl (lv_at hl 2 rfl) ?_
  refine va_putF (ci := 8) (v := .int 0) (ty := .int) (C := RX8) (T := TX8) (N := 17) hx hb hg inX8 tyX8 tyX8_ok nmX8 hown hK hP hD hS 0 rfl rfl 0 (by decide) (hg _ q_4_65) (fun _ h9 => h9) rfl hnm rfl (by decide +kernel) rfl rfl (Nat.le_of_ble_eq_true rfl) dX8_init_18 (fun H locs hP hD hS => ?_)
  have hP : va_P V.1 vwCl [(h0, .inr (8, [.int 0, .int 0, .null, .null, .null, .int 0, .int 0, .ref (y 19), .null, .null, .null, .null, .ref q_1, .null, .int 0, .int 0, .int 0])), (q_1, aI V 4 (fun _ => 0))] H := hP
  have hD : va_D A [(h0, .inr (8, [.int 0, .int 0, .null, .null, .null, .int 0, .int 0, .ref (y 19), .null, .null, .null, .null, .ref q_1, .null, .int 0, .int 0, .int 0])), (q_1, aI V 4 (fun _ => 0))] := hD
  refine lv_aload_n hx hb dX8_init_21 rfl (lv_at hl 0 rfl) ?_
  refine va_getsN (C := "BeaconDelay") (n := "MOST_MET") (d := "[I") hx hb hE.2.1.1 hS hown (va_Nw.use rfl (hE.2.2.2.2.1 _ (show ("BeaconDelay$Ways", 23, "MOST_MET", "[I") ∈ nF by decide))) (fun _ h9 => h9) dX8_init_22 ?_
  refine lv_iload_n hx hb dX8_init_25 rfl (lv_at hl 2 rfl) ?_
  refine va_ti (v := .int 1) hx hb hE.2.1.2 hS (vin (by decide +kernel)) rfl dX8_init_26 ?_
  refine va_putF (ci := 8) (v := .int 1) (ty := .int) (C := RX8) (T := TX8) (N := 17) hx hb hg inX8 tyX8 tyX8_ok nmX8 hown hK hP hD hS 0 rfl rfl 1 (by decide) (hg _ q_4_67) (fun _ h9 => h9) rfl hnm rfl (by decide +kernel) rfl rfl (Nat.le_of_ble_eq_true rfl) dX8_init_27 (fun H locs hP hD hS => ?_)
  have hP : va_P V.1 vwCl [(h0, .inr (8, [.int 0, .int 1, .null, .null, .null, .int 0, .int 0, .ref (y 19), .null, .null, .null, .null, .ref q_1, .null, .int 0, .int 0, .int 0])), (q_1, aI V 4 (fun _ => 0))] H := hP
  have hD : va_D A [(h0, .inr (8, [.int 0, .int 1, .null, .null, .null, .int 0, .int 0, .ref (y 19), .null, .null, .null, .null, .ref q_1, .null, .int 0, .int 0, .int 0])), (q_1, aI V 4 (fun _ => 0))] := hD
  refine lv_aload_n hx hb dX8_init_30 rfl (lv_at hl 0 rfl) ?_
  refine lv_aload_n hx hb dX8_init_31 rfl (lv_at hl 0 rfl) ?_
  refine va_get (ci := 8) (v := .int 1) (C := RX8) (T := TX8) (N := 17) hx hb hg inX8 hown hK hP 0 rfl rfl 1 (by decide) (hg _ q_4_67) (fun _ h9 => h9) rfl dX8_init_32 ?_
  refine nwA (atype := .int) (ty := .int) (a0 := (1, .inl (fun _ => 0))) hx hb hg q_1_125 rfl hK hP hD hS hA 0 rfl (fun _ => rfl) (by decide) (by decide +kernel) (Nat.le_of_ble_eq_true rfl) (Nat.le_of_ble_eq_true rfl) (Nat.le_of_ble_eq_true rfl) dX8_init_35 (fun q_2 H hP hD hS => ?_)
  refine W.widen (k := 2) (n := 5) (Nat.le_of_ble_eq_true rfl) (Nat.le_of_ble_eq_true rfl) ?_
  have hP : va_P V.1 vwCl [(h0, .inr (8, [.int 0, .int 1, .null, .null, .null, .int 0, .int 0, .ref (y 19), .null, .null, .null, .null, .ref q_1, .null, .int 0, .int 0, .int 0])), (q_1, aI V 4 (fun _ => 0)), (q_2, aI V 1 (fun _ => 0))] H := hP
  have hD : va_D A [(h0, .inr (8, [.int 0, .int 1, .null, .null, .null, .int 0, .int 0, .ref (y 19), .null, .null, .null, .null, .ref q_1, .null, .int 0, .int 0, .int 0])), (q_1, aI V 4 (fun _ => 0)), (q_2, aI V 1 (fun _ => 0))] := hD
  refine va_putF (ci := 8) (v := .ref q_2) (ty := (.array .int)) (C := RX8) (T := TX8) (N := 17) hx hb hg inX8 tyX8 tyX8_ok nmX8 hown hK hP hD hS 0 rfl rfl 2 (by decide) (hg _ q_4_69) (fun _ h9 => h9) rfl hnm rfl (by decide +kernel) rfl rfl (Nat.le_of_ble_eq_true rfl) dX8_init_37 (fun H locs hP hD hS => ?_)
  have hP : va_P V.1 vwCl [(h0, .inr (8, [.int 0, .int 1, .ref q_2, .null, .null, .int 0, .int 0, .ref (y 19), .null, .null, .null, .null, .ref q_1, .null, .int 0, .int 0, .int 0])), (q_1, aI V 4 (fun _ => 0)), (q_2, aI V 1 (fun _ => 0))] H := hP
  have hD : va_D A [(h0, .inr (8, [.int 0, .int 1, .ref q_2, .null, .null, .int 0, .int 0, .ref (y 19), .null, .null, .null, .null, .ref q_1, .null, .int 0, .int 0, .int 0])), (q_1, aI V 4 (fun _ => 0)), (q_2, aI V 1 (fun _ => 0))] := hD
  refine lv_aload_n hx hb dX8_init_40 rfl (lv_at hl 0 rfl) ?_
  refine lv_aload_n hx hb dX8_init_41 rfl (lv_at hl 0 rfl) ?_
  refine va_get (ci := 8) (v := .int 1) (C := RX8) (T := TX8) (N := 17) hx hb hg inX8 hown hK hP 0 rfl rfl 1 (by decide) (hg _ q_4_67) (fun _ h9 => h9) rfl dX8_init_42 ?_
  refine nwA (atype := .int) (ty := .int) (a0 := (1, .inl (fun _ => 0))) hx hb hg q_1_125 rfl hK hP hD hS hA 0 rfl (fun _ => rfl) (by decide) (by decide +kernel) (Nat.le_of_ble_eq_true rfl) (Nat.le_of_ble_eq_true rfl) (Nat.le_of_ble_eq_true rfl) dX8_init_45 (fun q_3 H hP hD hS => ?_)
  refine W.widen (k := 3) (n := 6) (Nat.le_of_ble_eq_true rfl) (Nat.le_of_ble_eq_true rfl) ?_
  have hP : va_P V.1 vwCl [(h0, .inr (8, [.int 0, .int 1, .ref q_2, .null, .null, .int 0, .int 0, .ref (y 19), .null, .null, .null, .null, .ref q_1, .null, .int 0, .int 0, .int 0])), (q_1, aI V 4 (fun _ => 0)), (q_2, aI V 1 (fun _ => 0)), (q_3, aI V 1 (fun _ => 0))] H := hP
  have hD : va_D A [(h0, .inr (8, [.int 0, .int 1, .ref q_2, .null, .null, .int 0, .int 0, .ref (y 19), .null, .null, .null, .null, .ref q_1, .null, .int 0, .int 0, .int 0])), (q_1, aI V 4 (fun _ => 0)), (q_2, aI V 1 (fun _ => 0)), (q_3, aI V 1 (fun _ => 0))] := hD
  refine va_putF (ci := 8) (v := .ref q_3) (ty := (.array .int)) (C := RX8) (T := TX8) (N := 17) hx hb hg inX8 tyX8 tyX8_ok nmX8 hown hK hP hD hS 0 rfl rfl 3 (by decide) (hg _ q_4_72) (fun _ h9 => h9) rfl hnm rfl (by decide +kernel) rfl rfl (Nat.le_of_ble_eq_true rfl) dX8_init_47 (fun H locs hP hD hS => ?_)
  have hP : va_P V.1 vwCl [(h0, .inr (8, [.int 0, .int 1, .ref q_2, .ref q_3, .null, .int 0, .int 0, .ref (y 19), .null, .null, .null, .null, .ref q_1, .null, .int 0, .int 0, .int 0])), (q_1, aI V 4 (fun _ => 0)), (q_2, aI V 1 (fun _ => 0)), (q_3, aI V 1 (fun _ => 0))] H := hP
  have hD : va_D A [(h0, .inr (8, [.int 0, .int 1, .ref q_2, .ref q_3, .null, .int 0, .int 0, .ref (y 19), .null, .null, .null, .null, .ref q_1, .null, .int 0, .int 0, .int 0])), (q_1, aI V 4 (fun _ => 0)), (q_2, aI V 1 (fun _ => 0)), (q_3, aI V 1 (fun _ => 0))] := hD
  refine lv_aload_n hx hb dX8_init_50 rfl (lv_at hl 0 rfl) ?_
  refine va_getsN (C := "BeaconDelay") (n := "POWER") (d := "[I") hx hb hE.1.1 hS hown (va_Nw.use rfl (hE.2.2.2.2.1 _ (show ("BeaconDelay$Ways", 35, "POWER", "[I") ∈ nF by decide))) (fun _ h9 => h9) dX8_init_51 ?_
  refine lv_iload_n hx hb dX8_init_54 rfl (lv_at hl 2 rfl) ?_
  refine va_ti (v := .int 1) hx hb hE.1.2 hS (vin (by decide +kernel)) rfl dX8_init_55 ?_
  refine nwA (atype := .int) (ty := .int) (a0 := (1, .inl (fun _ => 0))) hx hb hg q_1_125 rfl hK hP hD hS hA 0 rfl (fun _ => rfl) (by decide) (by decide +kernel) (Nat.le_of_ble_eq_true rfl) (Nat.le_of_ble_eq_true rfl) (Nat.le_of_ble_eq_true rfl) dX8_init_56 (fun q_4 H hP hD hS => ?_)
  refine W.widen (k := 4) (n := 7) (Nat.le_of_ble_eq_true rfl) (Nat.le_of_ble_eq_true rfl) ?_
  have hP : va_P V.1 vwCl [(h0, .inr (8, [.int 0, .int 1, .ref q_2, .ref q_3, .null, .int 0, .int 0, .ref (y 19), .null, .null, .null, .null, .ref q_1, .null, .int 0, .int 0, .int 0])), (q_1, aI V 4 (fun _ => 0)), (q_2, aI V 1 (fun _ => 0)), (q_3, aI V 1 (fun _ => 0)), (q_4, aI V 1 (fun _ => 0))] H := hP
  have hD : va_D A [(h0, .inr (8, [.int 0, .int 1, .ref q_2, .ref q_3, .null, .int 0, .int 0, .ref (y 19), .null, .null, .null, .null, .ref q_1, .null, .int 0, .int 0, .int 0])), (q_1, aI V 4 (fun _ => 0)), (q_2, aI V 1 (fun _ => 0)), (q_3, aI V 1 (fun _ => 0)), (q_4, aI V 1 (fun _ => 0))] := hD
  refine va_putF (ci := 8) (v := .ref q_4) (ty := (.array .int)) (C := RX8) (T := TX8) (N := 17) hx hb hg inX8 tyX8 tyX8_ok nmX8 hown hK hP hD hS 0 rfl rfl 8 (by decide) (hg _ q_4_82) (fun _ h9 => h9) rfl hnm rfl (by decide +kernel) rfl rfl (Nat.le_of_ble_eq_true rfl) dX8_init_58 (fun H locs hP hD hS => ?_)
  have hP : va_P V.1 vwCl [(h0, .inr (8, [.int 0, .int 1, .ref q_2, .ref q_3, .null, .int 0, .int 0, .ref (y 19), .ref q_4, .null, .null, .null, .ref q_1, .null, .int 0, .int 0, .int 0])), (q_1, aI V 4 (fun _ => 0)), (q_2, aI V 1 (fun _ => 0)), (q_3, aI V 1 (fun _ => 0)), (q_4, aI V 1 (fun _ => 0))] H := hP
  have hD : va_D A [(h0, .inr (8, [.int 0, .int 1, .ref q_2, .ref q_3, .null, .int 0, .int 0, .ref (y 19), .ref q_4, .null, .null, .null, .ref q_1, .null, .int 0, .int 0, .int 0])), (q_1, aI V 4 (fun _ => 0)), (q_2, aI V 1 (fun _ => 0)), (q_3, aI V 1 (fun _ => 0)), (q_4, aI V 1 (fun _ => 0))] := hD
  refine lv_aload_n hx hb dX8_init_61 rfl (lv_at hl 0 rfl) ?_
  refine lv_aload_n hx hb dX8_init_62 rfl (lv_at hl 0 rfl) ?_
  refine va_get (ci := 8) (v := .int 1) (C := RX8) (T := TX8) (N := 17) hx hb hg inX8 hown hK hP 0 rfl rfl 1 (by decide) (hg _ q_4_67) (fun _ h9 => h9) rfl dX8_init_63 ?_
  refine nwA (atype := .int) (ty := .int) (a0 := (1, .inl (fun _ => 0))) hx hb hg q_1_125 rfl hK hP hD hS hA 0 rfl (fun _ => rfl) (by decide) (by decide +kernel) (Nat.le_of_ble_eq_true rfl) (Nat.le_of_ble_eq_true rfl) (Nat.le_of_ble_eq_true rfl) dX8_init_66 (fun q_5 H hP hD hS => ?_)
  refine W.widen (k := 5) (n := 8) (Nat.le_of_ble_eq_true rfl) (Nat.le_of_ble_eq_true rfl) ?_
  have hP : va_P V.1 vwCl [(h0, .inr (8, [.int 0, .int 1, .ref q_2, .ref q_3, .null, .int 0, .int 0, .ref (y 19), .ref q_4, .null, .null, .null, .ref q_1, .null, .int 0, .int 0, .int 0])), (q_1, aI V 4 (fun _ => 0)), (q_2, aI V 1 (fun _ => 0)), (q_3, aI V 1 (fun _ => 0)), (q_4, aI V 1 (fun _ => 0)), (q_5, aI V 1 (fun _ => 0))] H := hP
  have hD : va_D A [(h0, .inr (8, [.int 0, .int 1, .ref q_2, .ref q_3, .null, .int 0, .int 0, .ref (y 19), .ref q_4, .null, .null, .null, .ref q_1, .null, .int 0, .int 0, .int 0])), (q_1, aI V 4 (fun _ => 0)), (q_2, aI V 1 (fun _ => 0)), (q_3, aI V 1 (fun _ => 0)), (q_4, aI V 1 (fun _ => 0)), (q_5, aI V 1 (fun _ => 0))] := hD
  refine va_putF (ci := 8) (v := .ref q_5) (ty := (.array .int)) (C := RX8) (T := TX8) (N := 17) hx hb hg inX8 tyX8 tyX8_ok nmX8 hown hK hP hD hS 0 rfl rfl 9 (by decide) (hg _ q_4_83) (fun _ h9 => h9) rfl hnm rfl (by decide +kernel) rfl rfl (Nat.le_of_ble_eq_true rfl) dX8_init_68 (fun H locs hP hD hS => ?_)
  have hP : va_P V.1 vwCl [(h0, .inr (8, [.int 0, .int 1, .ref q_2, .ref q_3, .null, .int 0, .int 0, .ref (y 19), .ref q_4, .ref q_5, .null, .null, .ref q_1, .null, .int 0, .int 0, .int 0])), (q_1, aI V 4 (fun _ => 0)), (q_2, aI V 1 (fun _ => 0)), (q_3, aI V 1 (fun _ => 0)), (q_4, aI V 1 (fun _ => 0)), (q_5, aI V 1 (fun _ => 0))] H := hP
  have hD : va_D A [(h0, .inr (8, [.int 0, .int 1, .ref q_2, .ref q_3, .null, .int 0, .int 0, .ref (y 19), .ref q_4, .ref q_5, .null, .null, .ref q_1, .null, .int 0, .int 0, .int 0])), (q_1, aI V 4 (fun _ => 0)), (q_2, aI V 1 (fun _ => 0)), (q_3, aI V 1 (fun _ => 0)), (q_4, aI V 1 (fun _ => 0)), (q_5, aI V 1 (fun _ => 0))] := hD
  refine lv_aload_n hx hb dX8_init_71 rfl (lv_at hl 0 rfl) ?_
  refine lv_aload_n hx hb dX8_init_72 rfl (lv_at hl 0 rfl) ?_
  refine va_get (ci := 8) (v := .int 1) (C := RX8) (T := TX8) (N := 17) hx hb hg inX8 hown hK hP 0 rfl rfl 1 (by decide) (hg _ q_4_67) (fun _ h9 => h9) rfl dX8_init_73 ?_
  refine lv_iconst (v := 4) hx hb dX8_init_76 (by decide) ?_
  refine lv_imul hx hb dX8_init_77 ?_
  refine tpi (y := 4) (by decide +kernel) ?_
  refine nwA (atype := .int) (ty := .int) (a0 := (4, .inl (fun _ => 0))) hx hb hg q_1_125 rfl hK hP hD hS hA 0 rfl (fun _ => rfl) (by decide) (by decide +kernel) (Nat.le_of_ble_eq_true rfl) (Nat.le_of_ble_eq_true rfl) (Nat.le_of_ble_eq_true rfl) dX8_init_78 (fun q_6 H hP hD hS => ?_)
  refine W.widen (k := 6) (n := 12) (Nat.le_of_ble_eq_true rfl) (Nat.le_of_ble_eq_true rfl) ?_
  have hP : va_P V.1 vwCl [(h0, .inr (8, [.int 0, .int 1, .ref q_2, .ref q_3, .null, .int 0, .int 0, .ref (y 19), .ref q_4, .ref q_5, .null, .null, .ref q_1, .null, .int 0, .int 0, .int 0])), (q_1, aI V 4 (fun _ => 0)), (q_2, aI V 1 (fun _ => 0)), (q_3, aI V 1 (fun _ => 0)), (q_4, aI V 1 (fun _ => 0)), (q_5, aI V 1 (fun _ => 0)), (q_6, aI V 4 (fun _ => 0))] H := hP
  have hD : va_D A [(h0, .inr (8, [.int 0, .int 1, .ref q_2, .ref q_3, .null, .int 0, .int 0, .ref (y 19), .ref q_4, .ref q_5, .null, .null, .ref q_1, .null, .int 0, .int 0, .int 0])), (q_1, aI V 4 (fun _ => 0)), (q_2, aI V 1 (fun _ => 0)), (q_3, aI V 1 (fun _ => 0)), (q_4, aI V 1 (fun _ => 0)), (q_5, aI V 1 (fun _ => 0)), (q_6, aI V 4 (fun _ => 0))] := hD
  refine va_putF (ci := 8) (v := .ref q_6) (ty := (.array .int)) (C := RX8) (T := TX8) (N := 17) hx hb hg inX8 tyX8 tyX8_ok nmX8 hown hK hP hD hS 0 rfl rfl 10 (by decide) (hg _ q_4_84) (fun _ h9 => h9) rfl hnm rfl (by decide +kernel) rfl rfl (Nat.le_of_ble_eq_true rfl) dX8_init_80 (fun H locs hP hD hS => ?_)
  have hP : va_P V.1 vwCl [(h0, .inr (8, [.int 0, .int 1, .ref q_2, .ref q_3, .null, .int 0, .int 0, .ref (y 19), .ref q_4, .ref q_5, .ref q_6, .null, .ref q_1, .null, .int 0, .int 0, .int 0])), (q_1, aI V 4 (fun _ => 0)), (q_2, aI V 1 (fun _ => 0)), (q_3, aI V 1 (fun _ => 0)), (q_4, aI V 1 (fun _ => 0)), (q_5, aI V 1 (fun _ => 0)), (q_6, aI V 4 (fun _ => 0))] H := hP
  have hD : va_D A [(h0, .inr (8, [.int 0, .int 1, .ref q_2, .ref q_3, .null, .int 0, .int 0, .ref (y 19), .ref q_4, .ref q_5, .ref q_6, .null, .ref q_1, .null, .int 0, .int 0, .int 0])), (q_1, aI V 4 (fun _ => 0)), (q_2, aI V 1 (fun _ => 0)), (q_3, aI V 1 (fun _ => 0)), (q_4, aI V 1 (fun _ => 0)), (q_5, aI V 1 (fun _ => 0)), (q_6, aI V 4 (fun _ => 0))] := hD
  refine lv_aload_n hx hb dX8_init_83 rfl (lv_at hl 0 rfl) ?_
  refine lv_aload_n hx hb dX8_init_84 rfl (lv_at hl 0 rfl) ?_
  refine va_get (ci := 8) (v := .int 1) (C := RX8) (T := TX8) (N := 17) hx hb hg inX8 hown hK hP 0 rfl rfl 1 (by decide) (hg _ q_4_67) (fun _ h9 => h9) rfl dX8_init_85 ?_
  refine nwA (atype := .int) (ty := .int) (a0 := (1, .inl (fun _ => 0))) hx hb hg q_1_125 rfl hK hP hD hS hA 0 rfl (fun _ => rfl) (by decide) (by decide +kernel) (Nat.le_of_ble_eq_true rfl) (Nat.le_of_ble_eq_true rfl) (Nat.le_of_ble_eq_true rfl) dX8_init_88 (fun q_7 H hP hD hS => ?_)
  refine W.widen (k := 7) (n := 13) (Nat.le_of_ble_eq_true rfl) (Nat.le_of_ble_eq_true rfl) ?_
  have hP : va_P V.1 vwCl [(h0, .inr (8, [.int 0, .int 1, .ref q_2, .ref q_3, .null, .int 0, .int 0, .ref (y 19), .ref q_4, .ref q_5, .ref q_6, .null, .ref q_1, .null, .int 0, .int 0, .int 0])), (q_1, aI V 4 (fun _ => 0)), (q_2, aI V 1 (fun _ => 0)), (q_3, aI V 1 (fun _ => 0)), (q_4, aI V 1 (fun _ => 0)), (q_5, aI V 1 (fun _ => 0)), (q_6, aI V 4 (fun _ => 0)), (q_7, aI V 1 (fun _ => 0))] H := hP
  have hD : va_D A [(h0, .inr (8, [.int 0, .int 1, .ref q_2, .ref q_3, .null, .int 0, .int 0, .ref (y 19), .ref q_4, .ref q_5, .ref q_6, .null, .ref q_1, .null, .int 0, .int 0, .int 0])), (q_1, aI V 4 (fun _ => 0)), (q_2, aI V 1 (fun _ => 0)), (q_3, aI V 1 (fun _ => 0)), (q_4, aI V 1 (fun _ => 0)), (q_5, aI V 1 (fun _ => 0)), (q_6, aI V 4 (fun _ => 0)), (q_7, aI V 1 (fun _ => 0))] := hD
  refine va_putF (ci := 8) (v := .ref q_7) (ty := (.array .int)) (C := RX8) (T := TX8) (N := 17) hx hb hg inX8 tyX8 tyX8_ok nmX8 hown hK hP hD hS 0 rfl rfl 11 (by decide) (hg _ q_4_85) (fun _ h9 => h9) rfl hnm rfl (by decide +kernel) rfl rfl (Nat.le_of_ble_eq_true rfl) dX8_init_90 (fun H locs hP hD hS => ?_)
  have hP : va_P V.1 vwCl [(h0, .inr (8, [.int 0, .int 1, .ref q_2, .ref q_3, .null, .int 0, .int 0, .ref (y 19), .ref q_4, .ref q_5, .ref q_6, .ref q_7, .ref q_1, .null, .int 0, .int 0, .int 0])), (q_1, aI V 4 (fun _ => 0)), (q_2, aI V 1 (fun _ => 0)), (q_3, aI V 1 (fun _ => 0)), (q_4, aI V 1 (fun _ => 0)), (q_5, aI V 1 (fun _ => 0)), (q_6, aI V 4 (fun _ => 0)), (q_7, aI V 1 (fun _ => 0))] H := hP
  have hD : va_D A [(h0, .inr (8, [.int 0, .int 1, .ref q_2, .ref q_3, .null, .int 0, .int 0, .ref (y 19), .ref q_4, .ref q_5, .ref q_6, .ref q_7, .ref q_1, .null, .int 0, .int 0, .int 0])), (q_1, aI V 4 (fun _ => 0)), (q_2, aI V 1 (fun _ => 0)), (q_3, aI V 1 (fun _ => 0)), (q_4, aI V 1 (fun _ => 0)), (q_5, aI V 1 (fun _ => 0)), (q_6, aI V 4 (fun _ => 0)), (q_7, aI V 1 (fun _ => 0))] := hD
  refine lv_aload_n hx hb dX8_init_93 rfl (lv_at hl 0 rfl) ?_
  refine lv_aload_n hx hb dX8_init_94 rfl (lv_at hl 0 rfl) ?_
  refine va_get (ci := 8) (v := .int 1) (C := RX8) (T := TX8) (N := 17) hx hb hg inX8 hown hK hP 0 rfl rfl 1 (by decide) (hg _ q_4_67) (fun _ h9 => h9) rfl dX8_init_95 ?_
  refine nwA (atype := .int) (ty := .int) (a0 := (1, .inl (fun _ => 0))) hx hb hg q_1_125 rfl hK hP hD hS hA 0 rfl (fun _ => rfl) (by decide) (by decide +kernel) (Nat.le_of_ble_eq_true rfl) (Nat.le_of_ble_eq_true rfl) (Nat.le_of_ble_eq_true rfl) dX8_init_98 (fun q_8 H hP hD hS => ?_)
  refine W.widen (k := 8) (n := 14) (Nat.le_of_ble_eq_true rfl) (Nat.le_of_ble_eq_true rfl) ?_
  have hP : va_P V.1 vwCl [(h0, .inr (8, [.int 0, .int 1, .ref q_2, .ref q_3, .null, .int 0, .int 0, .ref (y 19), .ref q_4, .ref q_5, .ref q_6, .ref q_7, .ref q_1, .null, .int 0, .int 0, .int 0])), (q_1, aI V 4 (fun _ => 0)), (q_2, aI V 1 (fun _ => 0)), (q_3, aI V 1 (fun _ => 0)), (q_4, aI V 1 (fun _ => 0)), (q_5, aI V 1 (fun _ => 0)), (q_6, aI V 4 (fun _ => 0)), (q_7, aI V 1 (fun _ => 0)), (q_8, aI V 1 (fun _ => 0))] H := hP
  have hD : va_D A [(h0, .inr (8, [.int 0, .int 1, .ref q_2, .ref q_3, .null, .int 0, .int 0, .ref (y 19), .ref q_4, .ref q_5, .ref q_6, .ref q_7, .ref q_1, .null, .int 0, .int 0, .int 0])), (q_1, aI V 4 (fun _ => 0)), (q_2, aI V 1 (fun _ => 0)), (q_3, aI V 1 (fun _ => 0)), (q_4, aI V 1 (fun _ => 0)), (q_5, aI V 1 (fun _ => 0)), (q_6, aI V 4 (fun _ => 0)), (q_7, aI V 1 (fun _ => 0)), (q_8, aI V 1 (fun _ => 0))] := hD
  refine va_put (ci := 8) (v := .ref q_8) (ty := (.array .int)) (C := RX8) (T := TX8) (N := 17) hx hb hg inX8 tyX8 tyX8_ok nmX8 hown hK hP hD hS 0 rfl rfl 4 (by decide) (hg _ q_4_74) (fun _ h9 => h9) rfl (by decide +kernel) rfl rfl (Nat.le_of_ble_eq_true rfl) dX8_init_100 (fun H locs hP hD hS => ?_)
  have hP : va_P V.1 vwCl [(h0, .inr (8, [.int 0, .int 1, .ref q_2, .ref q_3, .ref q_8, .int 0, .int 0, .ref (y 19), .ref q_4, .ref q_5, .ref q_6, .ref q_7, .ref q_1, .null, .int 0, .int 0, .int 0])), (q_1, aI V 4 (fun _ => 0)), (q_2, aI V 1 (fun _ => 0)), (q_3, aI V 1 (fun _ => 0)), (q_4, aI V 1 (fun _ => 0)), (q_5, aI V 1 (fun _ => 0)), (q_6, aI V 4 (fun _ => 0)), (q_7, aI V 1 (fun _ => 0)), (q_8, aI V 1 (fun _ => 0))] H := hP
  have hD : va_D A [(h0, .inr (8, [.int 0, .int 1, .ref q_2, .ref q_3, .ref q_8, .int 0, .int 0, .ref (y 19), .ref q_4, .ref q_5, .ref q_6, .ref q_7, .ref q_1, .null, .int 0, .int 0, .int 0])), (q_1, aI V 4 (fun _ => 0)), (q_2, aI V 1 (fun _ => 0)), (q_3, aI V 1 (fun _ => 0)), (q_4, aI V 1 (fun _ => 0)), (q_5, aI V 1 (fun _ => 0)), (q_6, aI V 4 (fun _ => 0)), (q_7, aI V 1 (fun _ => 0)), (q_8, aI V 1 (fun _ => 0))] := hD
  refine lv_aload_n hx hb dX8_init_103 rfl (lv_at hl 0 rfl) ?_
  refine lv_aload_n hx hb dX8_init_104 rfl (lv_at hl 0 rfl) ?_
  refine va_get (ci := 8) (v := .int 1) (C := RX8) (T := TX8) (N := 17) hx hb hg inX8 hown hK hP 0 rfl rfl 1 (by decide) (hg _ q_4_67) (fun _ h9 => h9) rfl dX8_init_105 ?_
  refine nwA (atype := .int) (ty := .int) (a0 := (1, .inl (fun _ => 0))) hx hb hg q_1_125 rfl hK hP hD hS hA 0 rfl (fun _ => rfl) (by decide) (by decide +kernel) (Nat.le_of_ble_eq_true rfl) (Nat.le_of_ble_eq_true rfl) (Nat.le_of_ble_eq_true rfl) dX8_init_108 (fun q_9 H hP hD hS => ?_)
  refine W.widen (k := 9) (n := 15) (Nat.le_of_ble_eq_true rfl) (Nat.le_of_ble_eq_true rfl) ?_
  have hP : va_P V.1 vwCl [(h0, .inr (8, [.int 0, .int 1, .ref q_2, .ref q_3, .ref q_8, .int 0, .int 0, .ref (y 19), .ref q_4, .ref q_5, .ref q_6, .ref q_7, .ref q_1, .null, .int 0, .int 0, .int 0])), (q_1, aI V 4 (fun _ => 0)), (q_2, aI V 1 (fun _ => 0)), (q_3, aI V 1 (fun _ => 0)), (q_4, aI V 1 (fun _ => 0)), (q_5, aI V 1 (fun _ => 0)), (q_6, aI V 4 (fun _ => 0)), (q_7, aI V 1 (fun _ => 0)), (q_8, aI V 1 (fun _ => 0)), (q_9, aI V 1 (fun _ => 0))] H := hP
  have hD : va_D A [(h0, .inr (8, [.int 0, .int 1, .ref q_2, .ref q_3, .ref q_8, .int 0, .int 0, .ref (y 19), .ref q_4, .ref q_5, .ref q_6, .ref q_7, .ref q_1, .null, .int 0, .int 0, .int 0])), (q_1, aI V 4 (fun _ => 0)), (q_2, aI V 1 (fun _ => 0)), (q_3, aI V 1 (fun _ => 0)), (q_4, aI V 1 (fun _ => 0)), (q_5, aI V 1 (fun _ => 0)), (q_6, aI V 4 (fun _ => 0)), (q_7, aI V 1 (fun _ => 0)), (q_8, aI V 1 (fun _ => 0)), (q_9, aI V 1 (fun _ => 0))] := hD
  refine va_put (ci := 8) (v := .ref q_9) (ty := (.array .int)) (C := RX8) (T := TX8) (N := 17) hx hb hg inX8 tyX8 tyX8_ok nmX8 hown hK hP hD hS 0 rfl rfl 13 (by decide) (hg _ q_4_87) (fun _ h9 => h9) rfl (by decide +kernel) rfl rfl (Nat.le_of_ble_eq_true rfl) dX8_init_110 (fun H locs hP hD hS => ?_)
  have hP : va_P V.1 vwCl [(h0, .inr (8, [.int 0, .int 1, .ref q_2, .ref q_3, .ref q_8, .int 0, .int 0, .ref (y 19), .ref q_4, .ref q_5, .ref q_6, .ref q_7, .ref q_1, .ref q_9, .int 0, .int 0, .int 0])), (q_1, aI V 4 (fun _ => 0)), (q_2, aI V 1 (fun _ => 0)), (q_3, aI V 1 (fun _ => 0)), (q_4, aI V 1 (fun _ => 0)), (q_5, aI V 1 (fun _ => 0)), (q_6, aI V 4 (fun _ => 0)), (q_7, aI V 1 (fun _ => 0)), (q_8, aI V 1 (fun _ => 0)), (q_9, aI V 1 (fun _ => 0))] H := hP
  have hD : va_D A [(h0, .inr (8, [.int 0, .int 1, .ref q_2, .ref q_3, .ref q_8, .int 0, .int 0, .ref (y 19), .ref q_4, .ref q_5, .ref q_6, .ref q_7, .ref q_1, .ref q_9, .int 0, .int 0, .int 0])), (q_1, aI V 4 (fun _ => 0)), (q_2, aI V 1 (fun _ => 0)), (q_3, aI V 1 (fun _ => 0)), (q_4, aI V 1 (fun _ => 0)), (q_5, aI V 1 (fun _ => 0)), (q_6, aI V 4 (fun _ => 0)), (q_7, aI V 1 (fun _ => 0)), (q_8, aI V 1 (fun _ => 0)), (q_9, aI V 1 (fun _ => 0))] := hD
  exact fiV hx hb hr hlk hK hP hD hS dX8_init_113 (Nat.le_of_ble_eq_true rfl) (Nat.le_of_ble_eq_true rfl) (⟨q_1, q_2, q_3, q_4, q_5, q_6, q_7, q_8, q_9, rfl⟩)
